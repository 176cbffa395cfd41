section
-- ===== PART A: goes FIRST, ahead of the names: the tables' words, and 'selects' of the private methods out of them =====
/-- a private method of a class that the tables say can be made, by its rows of tables_1 -/
def lw_okq (q : MethodName × Nat) : Prop := (q.1.cls ≠ "java/lang/invoke/MethodHandle" ∧ q.1.cls ≠ "java/lang/invoke/VarHandle") ∧ Cond.instantiable q.1.cls q.2 ∈ tables_1 ∧ Cond.privateMethod q.1 ∈ tables_1 ∧ Cond.instanceMethod q.1 ∈ tables_1
theorem lw_p0 : lw_okq (⟨"ScanChain$History", "dropOldest", "()V"⟩, 2) := ⟨⟨by decide +kernel, by decide +kernel⟩, List.mem_of_getElem? (i := 94) (by decide +kernel), List.mem_of_getElem? (i := 176) (by decide +kernel), List.mem_of_getElem? (i := 177) (by decide +kernel)⟩
theorem lw_p1 : lw_okq (⟨"ScanChain$Chain", "shiftAllData", "(I)V"⟩, 6) := ⟨⟨by decide +kernel, by decide +kernel⟩, List.mem_of_getElem? (i := 17) (by decide +kernel), List.mem_of_getElem? (i := 331) (by decide +kernel), List.mem_of_getElem? (i := 332) (by decide +kernel)⟩
theorem lw_p2 : lw_okq (⟨"ScanChain$Chain", "shiftAllCodes", "(I)V"⟩, 6) := ⟨⟨by decide +kernel, by decide +kernel⟩, List.mem_of_getElem? (i := 17) (by decide +kernel), List.mem_of_getElem? (i := 342) (by decide +kernel), List.mem_of_getElem? (i := 343) (by decide +kernel)⟩
theorem lw_p3 : lw_okq (⟨"ScanChain$Chain", "workOf", "(LScanChain$Chip;)V"⟩, 6) := ⟨⟨by decide +kernel, by decide +kernel⟩, List.mem_of_getElem? (i := 17) (by decide +kernel), List.mem_of_getElem? (i := 350) (by decide +kernel), List.mem_of_getElem? (i := 351) (by decide +kernel)⟩
theorem lw_p4 : lw_okq (⟨"ScanChain", "exchangeError", "(II)I"⟩, 6) := ⟨⟨by decide +kernel, by decide +kernel⟩, List.mem_of_getElem? (i := 9) (by decide +kernel), List.mem_of_getElem? (i := 408) (by decide +kernel), List.mem_of_getElem? (i := 409) (by decide +kernel)⟩
def lw_privs_1 : List (MethodName × Nat) := [(⟨"ScanChain$History", "dropOldest", "()V"⟩, 2), (⟨"ScanChain$Chain", "shiftAllData", "(I)V"⟩, 6), (⟨"ScanChain$Chain", "shiftAllCodes", "(I)V"⟩, 6), (⟨"ScanChain$Chain", "workOf", "(LScanChain$Chip;)V"⟩, 6), (⟨"ScanChain", "exchangeError", "(II)I"⟩, 6)]
theorem lw_r1 : ∀ q ∈ lw_privs_1, lw_okq q := List.forall_mem_cons.mpr ⟨lw_p0, List.forall_mem_cons.mpr ⟨lw_p1, List.forall_mem_cons.mpr ⟨lw_p2, List.forall_mem_cons.mpr ⟨lw_p3, List.forall_mem_cons.mpr ⟨lw_p4, fun _ h => absurd h List.not_mem_nil⟩⟩⟩⟩⟩
def lw_privs : List (MethodName × Nat) := lw_privs_1
def lw_tbl : List Cond := k2_sels lw_privs ++ tables_1
theorem lw_privs_ok : ∀ q ∈ lw_privs, lw_okq q := lw_r1
/-- the streams that the claim lets the run draw from -/
abbrev lw_cs : List Choice := [Jvm.Choice.named "NaN.bits"]
theorem lw_bits : nanBits ∈ lw_cs := by first | decide | exact List.mem_cons_self | simp [lw_cs, nanBits]
end
section
def RX0 : String := "ScanChain$Chain"
def TX0 : u_T := fun k => match k with
  | 0 => ("ScanChain$Chain", "chips", "[LScanChain$Chip;", true)
  | 1 => ("ScanChain$Chain", "size", "I", false)
  | 2 => ("ScanChain$Chain", "state", "I", false)
  | 3 => ("ScanChain$Chain", "clocks", "I", false)
  | 4 => ("ScanChain$Chain", "identities", "[I", true)
  | _ => ("ScanChain$Chain", "identityCount", "I", false)
def tyX0 : Nat → FieldType := fun k => match k with
  | 0 => .array (.object "ScanChain$Chip")
  | 1 => .int
  | 2 => .int
  | 3 => .int
  | 4 => .array .int
  | _ => .int
abbrev wsX00 : List Cond := u_ws RX0 TX0 6
theorem nmX0 : ∀ a, a < 6 → ∀ b, b < 6 → a ≠ b → (TX0 a).2.1 ≠ (TX0 b).2.1 := by decide +kernel
theorem tyX0_ok : ∀ k, k < 6 → parseFieldDescriptor (TX0 k).2.2.1 = some (tyX0 k) := by decide +kernel
abbrev cX0_init : ByteArray := prog_2_method_1_code
def yX0_init : MethodName := ⟨RX0, "<init>", "()V"⟩
abbrev cX0_becomeCopyOf : ByteArray := prog_2_method_2_code
def yX0_becomeCopyOf : MethodName := ⟨RX0, "becomeCopyOf", "(LScanChain$Chain;)V"⟩
abbrev cX0_has : ByteArray := prog_2_method_3_code
def yX0_has : MethodName := ⟨RX0, "has", "(I)Z"⟩
abbrev cX0_putBehind : ByteArray := prog_2_method_4_code
def yX0_putBehind : MethodName := ⟨RX0, "putBehind", "(III)I"⟩
abbrev cX0_takeOut : ByteArray := prog_2_method_5_code
def yX0_takeOut : MethodName := ⟨RX0, "takeOut", "(I)I"⟩
abbrev cX0_brokenChips : ByteArray := prog_2_method_6_code
def yX0_brokenChips : MethodName := ⟨RX0, "brokenChips", "()I"⟩
abbrev cX0_bypassedChips : ByteArray := prog_2_method_7_code
def yX0_bypassedChips : MethodName := ⟨RX0, "bypassedChips", "()I"⟩
abbrev cX0_sumOfCodeLengths : ByteArray := prog_2_method_8_code
def yX0_sumOfCodeLengths : MethodName := ⟨RX0, "sumOfCodeLengths", "()I"⟩
abbrev cX0_sumOfDataBits : ByteArray := prog_2_method_9_code
def yX0_sumOfDataBits : MethodName := ⟨RX0, "sumOfDataBits", "()I"⟩
abbrev cX0_forgetIdentities : ByteArray := prog_2_method_10_code
def yX0_forgetIdentities : MethodName := ⟨RX0, "forgetIdentities", "()V"⟩
abbrev cX0_keepIdentity : ByteArray := prog_2_method_11_code
def yX0_keepIdentity : MethodName := ⟨RX0, "keepIdentity", "(I)V"⟩
abbrev cX0_tick : ByteArray := prog_2_method_12_code
def yX0_tick : MethodName := ⟨RX0, "tick", "(II)I"⟩
abbrev cX0_outputWith : ByteArray := prog_2_method_13_code
def yX0_outputWith : MethodName := ⟨RX0, "outputWith", "(I)I"⟩
abbrev cX0_workOf : ByteArray := prog_2_method_14_code
def yX0_workOf : MethodName := ⟨RX0, "workOf", "(LScanChain$Chip;)V"⟩
abbrev cX0_shiftAllData : ByteArray := prog_2_method_15_code
def yX0_shiftAllData : MethodName := ⟨RX0, "shiftAllData", "(I)V"⟩
abbrev cX0_shiftAllCodes : ByteArray := prog_2_method_16_code
def yX0_shiftAllCodes : MethodName := ⟨RX0, "shiftAllCodes", "(I)V"⟩
def RX1 : String := "ScanChain$Chip"
def TX1 : u_T := fun k => match k with
  | 0 => ("ScanChain$Chip", "codeLength", "I", false)
  | 1 => ("ScanChain$Chip", "identity", "I", false)
  | 2 => ("ScanChain$Chip", "cells", "I", false)
  | 3 => ("ScanChain$Chip", "pins", "I", false)
  | 4 => ("ScanChain$Chip", "outputs", "I", false)
  | 5 => ("ScanChain$Chip", "isBroken", "Z", false)
  | 6 => ("ScanChain$Chip", "instruction", "I", false)
  | 7 => ("ScanChain$Chip", "codeRegister", "I", false)
  | _ => ("ScanChain$Chip", "dataRegister", "I", false)
def tyX1 : Nat → FieldType := fun k => match k with
  | 0 => .int
  | 1 => .int
  | 2 => .int
  | 3 => .int
  | 4 => .int
  | 5 => .boolean
  | 6 => .int
  | 7 => .int
  | _ => .int
abbrev wsX10 : List Cond := u_ws RX1 TX1 9
theorem nmX1 : ∀ a, a < 9 → ∀ b, b < 9 → a ≠ b → (TX1 a).2.1 ≠ (TX1 b).2.1 := by decide +kernel
theorem tyX1_ok : ∀ k, k < 9 → parseFieldDescriptor (TX1 k).2.2.1 = some (tyX1 k) := by decide +kernel
abbrev cX1_init : ByteArray := prog_3_method_1_code
def yX1_init : MethodName := ⟨RX1, "<init>", "()V"⟩
abbrev cX1_beNew : ByteArray := prog_3_method_2_code
def yX1_beNew : MethodName := ⟨RX1, "beNew", "(III)V"⟩
abbrev cX1_becomeCopyOf : ByteArray := prog_3_method_3_code
def yX1_becomeCopyOf : MethodName := ⟨RX1, "becomeCopyOf", "(LScanChain$Chip;)V"⟩
abbrev cX1_changePins : ByteArray := prog_3_method_4_code
def yX1_changePins : MethodName := ⟨RX1, "changePins", "(I)I"⟩
abbrev cX1_selectsCells : ByteArray := prog_3_method_5_code
def yX1_selectsCells : MethodName := ⟨RX1, "selectsCells", "()Z"⟩
abbrev cX1_selectsIdentity : ByteArray := prog_3_method_6_code
def yX1_selectsIdentity : MethodName := ⟨RX1, "selectsIdentity", "()Z"⟩
abbrev cX1_selectsBypass : ByteArray := prog_3_method_7_code
def yX1_selectsBypass : MethodName := ⟨RX1, "selectsBypass", "()Z"⟩
abbrev cX1_dataBits : ByteArray := prog_3_method_8_code
def yX1_dataBits : MethodName := ⟨RX1, "dataBits", "()I"⟩
abbrev cX1_giveInstruction : ByteArray := prog_3_method_9_code
def yX1_giveInstruction : MethodName := ⟨RX1, "giveInstruction", "(I)V"⟩
abbrev cX1_giveFirstInstruction : ByteArray := prog_3_method_10_code
def yX1_giveFirstInstruction : MethodName := ⟨RX1, "giveFirstInstruction", "()V"⟩
abbrev cX1_captureData : ByteArray := prog_3_method_11_code
def yX1_captureData : MethodName := ⟨RX1, "captureData", "()V"⟩
abbrev cX1_updateData : ByteArray := prog_3_method_12_code
def yX1_updateData : MethodName := ⟨RX1, "updateData", "()V"⟩
abbrev cX1_dataOutput : ByteArray := prog_3_method_13_code
def yX1_dataOutput : MethodName := ⟨RX1, "dataOutput", "()I"⟩
abbrev cX1_codeOutput : ByteArray := prog_3_method_14_code
def yX1_codeOutput : MethodName := ⟨RX1, "codeOutput", "()I"⟩
abbrev cX1_shiftData : ByteArray := prog_3_method_15_code
def yX1_shiftData : MethodName := ⟨RX1, "shiftData", "(I)V"⟩
abbrev cX1_shiftCode : ByteArray := prog_3_method_16_code
def yX1_shiftCode : MethodName := ⟨RX1, "shiftCode", "(I)V"⟩
abbrev cX1_shifted : ByteArray := prog_3_method_17_code
def yX1_shifted : MethodName := ⟨RX1, "shifted", "(III)I"⟩
abbrev cX1_tell : ByteArray := prog_3_method_18_code
def yX1_tell : MethodName := ⟨RX1, "tell", "(I)I"⟩
def RX2 : String := "ScanChain$Controller"
def TX2 : u_T := fun k => match k with
  | _ => ("", "", "", false)
def tyX2 : Nat → FieldType := fun k => match k with
  | _ => .int
abbrev wsX20 : List Cond := u_ws RX2 TX2 0
theorem nmX2 : ∀ a, a < 0 → ∀ b, b < 0 → a ≠ b → (TX2 a).2.1 ≠ (TX2 b).2.1 := by decide +kernel
theorem tyX2_ok : ∀ k, k < 0 → parseFieldDescriptor (TX2 k).2.2.1 = some (tyX2 k) := by decide +kernel
abbrev cX2_isState : ByteArray := prog_4_method_2_code
def yX2_isState : MethodName := ⟨RX2, "isState", "(I)Z"⟩
abbrev cX2_next : ByteArray := prog_4_method_3_code
def yX2_next : MethodName := ⟨RX2, "next", "(II)I"⟩
abbrev cX2_clocksBetween : ByteArray := prog_4_method_4_code
def yX2_clocksBetween : MethodName := ⟨RX2, "clocksBetween", "(II)I"⟩
abbrev cX2_nextOfAll : ByteArray := prog_4_method_5_code
def yX2_nextOfAll : MethodName := ⟨RX2, "nextOfAll", "(I)I"⟩
def RX3 : String := "ScanChain$History"
def TX3 : u_T := fun k => match k with
  | 0 => ("ScanChain$History", "records", "[LScanChain$Chain;", true)
  | _ => ("ScanChain$History", "size", "I", false)
def tyX3 : Nat → FieldType := fun k => match k with
  | 0 => .array (.object "ScanChain$Chain")
  | _ => .int
abbrev wsX30 : List Cond := u_ws RX3 TX3 2
theorem nmX3 : ∀ a, a < 2 → ∀ b, b < 2 → a ≠ b → (TX3 a).2.1 ≠ (TX3 b).2.1 := by decide +kernel
theorem tyX3_ok : ∀ k, k < 2 → parseFieldDescriptor (TX3 k).2.2.1 = some (tyX3 k) := by decide +kernel
abbrev cX3_init : ByteArray := prog_5_method_1_code
def yX3_init : MethodName := ⟨RX3, "<init>", "()V"⟩
abbrev cX3_record : ByteArray := prog_5_method_2_code
def yX3_record : MethodName := ⟨RX3, "record", "(LScanChain$Chain;)V"⟩
abbrev cX3_dropOldest : ByteArray := prog_5_method_3_code
def yX3_dropOldest : MethodName := ⟨RX3, "dropOldest", "()V"⟩
abbrev cX3_takeBack : ByteArray := prog_5_method_4_code
def yX3_takeBack : MethodName := ⟨RX3, "takeBack", "(LScanChain$Chain;)I"⟩
def RX4 : String := "ScanChain$Master"
def TX4 : u_T := fun k => match k with
  | _ => ("", "", "", false)
def tyX4 : Nat → FieldType := fun k => match k with
  | _ => .int
abbrev wsX40 : List Cond := u_ws RX4 TX4 0
theorem nmX4 : ∀ a, a < 0 → ∀ b, b < 0 → a ≠ b → (TX4 a).2.1 ≠ (TX4 b).2.1 := by decide +kernel
theorem tyX4_ok : ∀ k, k < 0 → parseFieldDescriptor (TX4 k).2.2.1 = some (tyX4 k) := by decide +kernel
abbrev cX4_goTo : ByteArray := prog_6_method_2_code
def yX4_goTo : MethodName := ⟨RX4, "goTo", "(LScanChain$Chain;I)I"⟩
abbrev cX4_readIdentities : ByteArray := prog_6_method_3_code
def yX4_readIdentities : MethodName := ⟨RX4, "readIdentities", "(LScanChain$Chain;)I"⟩
abbrev cX4_readIdentity : ByteArray := prog_6_method_4_code
def yX4_readIdentity : MethodName := ⟨RX4, "readIdentity", "(LScanChain$Chain;)I"⟩
abbrev cX4_loadInstruction : ByteArray := prog_6_method_5_code
def yX4_loadInstruction : MethodName := ⟨RX4, "loadInstruction", "(LScanChain$Chain;II)V"⟩
abbrev cX4_exchangeData : ByteArray := prog_6_method_6_code
def yX4_exchangeData : MethodName := ⟨RX4, "exchangeData", "(LScanChain$Chain;II)I"⟩
abbrev cX4_shiftThrough : ByteArray := prog_6_method_7_code
def yX4_shiftThrough : MethodName := ⟨RX4, "shiftThrough", "(LScanChain$Chain;IIZ)I"⟩
abbrev cX4_carryOut : ByteArray := prog_6_method_8_code
def yX4_carryOut : MethodName := ⟨RX4, "carryOut", "(LScanChain$Chain;LScanChain$Script;)I"⟩
abbrev cX4_clockItem : ByteArray := prog_6_method_9_code
def yX4_clockItem : MethodName := ⟨RX4, "clockItem", "(LScanChain$Chain;C)V"⟩
def RX5 : String := "ScanChain$Script"
def TX5 : u_T := fun k => match k with
  | 0 => ("ScanChain$Script", "characters", "[C", true)
  | _ => ("ScanChain$Script", "length", "I", false)
def tyX5 : Nat → FieldType := fun k => match k with
  | 0 => .array .char
  | _ => .int
abbrev wsX50 : List Cond := u_ws RX5 TX5 2
theorem nmX5 : ∀ a, a < 2 → ∀ b, b < 2 → a ≠ b → (TX5 a).2.1 ≠ (TX5 b).2.1 := by decide +kernel
theorem tyX5_ok : ∀ k, k < 2 → parseFieldDescriptor (TX5 k).2.2.1 = some (tyX5 k) := by decide +kernel
abbrev cX5_init : ByteArray := prog_7_method_1_code
def yX5_init : MethodName := ⟨RX5, "<init>", "()V"⟩
abbrev cX5_write : ByteArray := prog_7_method_2_code
def yX5_write : MethodName := ⟨RX5, "write", "(I)I"⟩
abbrev cX5_wipe : ByteArray := prog_7_method_3_code
def yX5_wipe : MethodName := ⟨RX5, "wipe", "()I"⟩
abbrev cX5_firstFault : ByteArray := prog_7_method_4_code
def yX5_firstFault : MethodName := ⟨RX5, "firstFault", "()I"⟩
abbrev cX5_hexAt : ByteArray := prog_7_method_5_code
def yX5_hexAt : MethodName := ⟨RX5, "hexAt", "(I)I"⟩
abbrev cX5_startsItem : ByteArray := prog_7_method_6_code
def yX5_startsItem : MethodName := ⟨RX5, "startsItem", "(C)Z"⟩
abbrev cX5_hexValue : ByteArray := prog_7_method_7_code
def yX5_hexValue : MethodName := ⟨RX5, "hexValue", "(C)I"⟩
def RX6 : String := "ScanChain"
def TX6 : u_T := fun k => match k with
  | 0 => ("ScanChain", "chain", "LScanChain$Chain;", true)
  | 1 => ("ScanChain", "trial", "LScanChain$Chain;", true)
  | 2 => ("ScanChain", "snapshot", "LScanChain$Chain;", true)
  | 3 => ("ScanChain", "hasSnapshot", "Z", false)
  | 4 => ("ScanChain", "history", "LScanChain$History;", true)
  | _ => ("ScanChain", "script", "LScanChain$Script;", true)
def tyX6 : Nat → FieldType := fun k => match k with
  | 0 => .object "ScanChain$Chain"
  | 1 => .object "ScanChain$Chain"
  | 2 => .object "ScanChain$Chain"
  | 3 => .boolean
  | 4 => .object "ScanChain$History"
  | _ => .object "ScanChain$Script"
abbrev wsX60 : List Cond := u_ws RX6 TX6 6
theorem nmX6 : ∀ a, a < 6 → ∀ b, b < 6 → a ≠ b → (TX6 a).2.1 ≠ (TX6 b).2.1 := by decide +kernel
theorem tyX6_ok : ∀ k, k < 6 → parseFieldDescriptor (TX6 k).2.2.1 = some (tyX6 k) := by decide +kernel
abbrev cX6_init : ByteArray := prog_1_method_1_code
def yX6_init : MethodName := ⟨RX6, "<init>", "()V"⟩
abbrev cX6_add : ByteArray := prog_1_method_2_code
def yX6_add : MethodName := ⟨RX6, "add", "(III)I"⟩
abbrev cX6_take : ByteArray := prog_1_method_3_code
def yX6_take : MethodName := ⟨RX6, "take", "(I)I"⟩
abbrev cX6_setPins : ByteArray := prog_1_method_4_code
def yX6_setPins : MethodName := ⟨RX6, "setPins", "(II)I"⟩
abbrev cX6_breakChip : ByteArray := prog_1_method_5_code
def yX6_breakChip : MethodName := ⟨RX6, "breakChip", "(IZ)I"⟩
abbrev cX6_clock : ByteArray := prog_1_method_6_code
def yX6_clock : MethodName := ⟨RX6, "clock", "(II)I"⟩
abbrev cX6_move : ByteArray := prog_1_method_7_code
def yX6_move : MethodName := ⟨RX6, "move", "(I)I"⟩
abbrev cX6_identify : ByteArray := prog_1_method_8_code
def yX6_identify : MethodName := ⟨RX6, "identify", "()I"⟩
abbrev cX6_load : ByteArray := prog_1_method_9_code
def yX6_load : MethodName := ⟨RX6, "load", "(II)I"⟩
abbrev cX6_exchange : ByteArray := prog_1_method_10_code
def yX6_exchange : MethodName := ⟨RX6, "exchange", "(II)I"⟩
abbrev cX6_append : ByteArray := prog_1_method_11_code
def yX6_append : MethodName := ⟨RX6, "append", "(I)I"⟩
abbrev cX6_clearText : ByteArray := prog_1_method_12_code
def yX6_clearText : MethodName := ⟨RX6, "clearText", "()I"⟩
abbrev cX6_fault : ByteArray := prog_1_method_13_code
def yX6_fault : MethodName := ⟨RX6, "fault", "()I"⟩
abbrev cX6_run : ByteArray := prog_1_method_14_code
def yX6_run : MethodName := ⟨RX6, "run", "()I"⟩
abbrev cX6_undo : ByteArray := prog_1_method_15_code
def yX6_undo : MethodName := ⟨RX6, "undo", "()I"⟩
abbrev cX6_save : ByteArray := prog_1_method_16_code
def yX6_save : MethodName := ⟨RX6, "save", "()I"⟩
abbrev cX6_restore : ByteArray := prog_1_method_17_code
def yX6_restore : MethodName := ⟨RX6, "restore", "()I"⟩
abbrev cX6_chip : ByteArray := prog_1_method_18_code
def yX6_chip : MethodName := ⟨RX6, "chip", "(II)I"⟩
abbrev cX6_count : ByteArray := prog_1_method_19_code
def yX6_count : MethodName := ⟨RX6, "count", "(I)I"⟩
abbrev cX6_found : ByteArray := prog_1_method_20_code
def yX6_found : MethodName := ⟨RX6, "found", "(I)I"⟩
abbrev cX6_distance : ByteArray := prog_1_method_21_code
def yX6_distance : MethodName := ⟨RX6, "distance", "(II)I"⟩
abbrev cX6_peek : ByteArray := prog_1_method_22_code
def yX6_peek : MethodName := ⟨RX6, "peek", "(I)I"⟩
abbrev cX6_ifIdentified : ByteArray := prog_1_method_23_code
def yX6_ifIdentified : MethodName := ⟨RX6, "ifIdentified", "()I"⟩
abbrev cX6_ifExchanged : ByteArray := prog_1_method_24_code
def yX6_ifExchanged : MethodName := ⟨RX6, "ifExchanged", "(II)I"⟩
abbrev cX6_bypassed : ByteArray := prog_1_method_25_code
def yX6_bypassed : MethodName := ⟨RX6, "bypassed", "()F"⟩
abbrev cX6_isWithin : ByteArray := prog_1_method_26_code
def yX6_isWithin : MethodName := ⟨RX6, "isWithin", "(III)Z"⟩
abbrev cX6_isIdentity : ByteArray := prog_1_method_27_code
def yX6_isIdentity : MethodName := ⟨RX6, "isIdentity", "(I)Z"⟩
abbrev cX6_exchangeError : ByteArray := prog_1_method_28_code
def yX6_exchangeError : MethodName := ⟨RX6, "exchangeError", "(II)I"⟩
abbrev cX6_allOnes : ByteArray := prog_1_method_29_code
def yX6_allOnes : MethodName := ⟨RX6, "allOnes", "(I)I"⟩
def RX7 : String := "ScanChainModel"
def TX7 : u_T := fun k => match k with
  | _ => ("", "", "", false)
def tyX7 : Nat → FieldType := fun k => match k with
  | _ => .int
abbrev wsX70 : List Cond := u_ws RX7 TX7 0
theorem nmX7 : ∀ a, a < 0 → ∀ b, b < 0 → a ≠ b → (TX7 a).2.1 ≠ (TX7 b).2.1 := by decide +kernel
theorem tyX7_ok : ∀ k, k < 0 → parseFieldDescriptor (TX7 k).2.2.1 = some (tyX7 k) := by decide +kernel
def RL : String := "ScanChainLaw"
abbrev cL_cell : ByteArray := method_2_code
def yL_cell : MethodName := ⟨RL, "cell", "([II)I"⟩
abbrev cL_seen : ByteArray := method_3_code
def yL_seen : MethodName := ⟨RL, "seen", "(LScanChain;)J"⟩
abbrev cL_isWhole : ByteArray := method_4_code
def yL_isWhole : MethodName := ⟨RL, "isWhole", "(LScanChain;)Z"⟩
abbrev cL_refusesAny : ByteArray := method_5_code
def yL_refusesAny : MethodName := ⟨RL, "refusesAny", "(LScanChain;I)Z"⟩
abbrev cL_refuses : ByteArray := method_6_code
def yL_refuses : MethodName := ⟨RL, "refuses", "(LScanChain;I)Z"⟩
abbrev cL_areWays : ByteArray := method_7_code
def yL_areWays : MethodName := ⟨RL, "areWays", "(LScanChain;I)Z"⟩
abbrev cL_clock : ByteArray := method_8_code
def yL_clock : MethodName := ⟨RL, "clock", "(LScanChain;II)I"⟩
abbrev cL_change : ByteArray := method_9_code
def yL_change : MethodName := ⟨RL, "change", "(LScanChain;II)I"⟩
abbrev cL_act : ByteArray := method_10_code
def yL_act : MethodName := ⟨RL, "act", "(LScanChain;I)I"⟩
abbrev cL_law : ByteArray := code
def yL_law : MethodName := ⟨RL, "law", "([I)Z"⟩
abbrev vwCl : List vw_C := [(RX0, TX0, 6), (RX1, TX1, 9), (RX3, TX3, 2), (RX5, TX5, 2), (RX6, TX6, 6)]
end
section
theorem dX0_init_0 : decode cX0_init 0 = .ok (.aload_n 0, 1) := by decide +kernel
theorem dX0_init_1 : decode cX0_init 1 = .ok (.invokespecial 3, 3) := by decide +kernel
theorem dX0_init_4 : decode cX0_init 4 = .ok (.aload_n 0, 1) := by decide +kernel
theorem dX0_init_5 : decode cX0_init 5 = .ok (.bipush 6, 2) := by decide +kernel
theorem dX0_init_7 : decode cX0_init 7 = .ok (.anewarray 9, 3) := by decide +kernel
theorem dX0_init_10 : decode cX0_init 10 = .ok (.putfield 11, 3) := by decide +kernel
theorem dX0_init_13 : decode cX0_init 13 = .ok (.iconst 0, 1) := by decide +kernel
theorem dX0_init_14 : decode cX0_init 14 = .ok (.istore_n 1, 1) := by decide +kernel
theorem dX0_init_15 : decode cX0_init 15 = .ok (.iload_n 1, 1) := by decide +kernel
theorem dX0_init_16 : decode cX0_init 16 = .ok (.aload_n 0, 1) := by decide +kernel
theorem dX0_init_17 : decode cX0_init 17 = .ok (.getfield 11, 3) := by decide +kernel
theorem dX0_init_20 : decode cX0_init 20 = .ok (.arraylength, 1) := by decide +kernel
theorem dX0_init_21 : decode cX0_init 21 = .ok (.if_icmp .ge 22, 3) := by decide +kernel
theorem dX0_init_24 : decode cX0_init 24 = .ok (.aload_n 0, 1) := by decide +kernel
theorem dX0_init_25 : decode cX0_init 25 = .ok (.getfield 11, 3) := by decide +kernel
theorem dX0_init_28 : decode cX0_init 28 = .ok (.iload_n 1, 1) := by decide +kernel
theorem dX0_init_29 : decode cX0_init 29 = .ok (.new 9, 3) := by decide +kernel
theorem dX0_init_32 : decode cX0_init 32 = .ok (.dup, 1) := by decide +kernel
theorem dX0_init_33 : decode cX0_init 33 = .ok (.invokespecial 17, 3) := by decide +kernel
theorem dX0_init_36 : decode cX0_init 36 = .ok (.aastore, 1) := by decide +kernel
theorem dX0_init_37 : decode cX0_init 37 = .ok (.iinc 1 1, 3) := by decide +kernel
theorem dX0_init_40 : decode cX0_init 40 = .ok (.goto (-25), 3) := by decide +kernel
theorem dX0_init_43 : decode cX0_init 43 = .ok (.aload_n 0, 1) := by decide +kernel
theorem dX0_init_44 : decode cX0_init 44 = .ok (.iconst 0, 1) := by decide +kernel
theorem dX0_init_45 : decode cX0_init 45 = .ok (.putfield 18, 3) := by decide +kernel
theorem dX0_init_48 : decode cX0_init 48 = .ok (.aload_n 0, 1) := by decide +kernel
theorem dX0_init_49 : decode cX0_init 49 = .ok (.iconst 0, 1) := by decide +kernel
theorem dX0_init_50 : decode cX0_init 50 = .ok (.putfield 24, 3) := by decide +kernel
theorem dX0_init_53 : decode cX0_init 53 = .ok (.aload_n 0, 1) := by decide +kernel
theorem dX0_init_54 : decode cX0_init 54 = .ok (.iconst 0, 1) := by decide +kernel
theorem dX0_init_55 : decode cX0_init 55 = .ok (.putfield 27, 3) := by decide +kernel
theorem dX0_init_58 : decode cX0_init 58 = .ok (.aload_n 0, 1) := by decide +kernel
theorem dX0_init_59 : decode cX0_init 59 = .ok (.bipush 8, 2) := by decide +kernel
theorem dX0_init_61 : decode cX0_init 61 = .ok (.newarray .int, 2) := by decide +kernel
theorem dX0_init_63 : decode cX0_init 63 = .ok (.putfield 30, 3) := by decide +kernel
theorem dX0_init_66 : decode cX0_init 66 = .ok (.aload_n 0, 1) := by decide +kernel
theorem dX0_init_67 : decode cX0_init 67 = .ok (.iconst 0, 1) := by decide +kernel
theorem dX0_init_68 : decode cX0_init 68 = .ok (.putfield 34, 3) := by decide +kernel
theorem dX0_init_71 : decode cX0_init 71 = .ok (.return_, 1) := by decide +kernel
theorem dX0_becomeCopyOf_0 : decode cX0_becomeCopyOf 0 = .ok (.iconst 0, 1) := by decide +kernel
theorem dX0_becomeCopyOf_1 : decode cX0_becomeCopyOf 1 = .ok (.istore_n 2, 1) := by decide +kernel
theorem dX0_becomeCopyOf_2 : decode cX0_becomeCopyOf 2 = .ok (.iload_n 2, 1) := by decide +kernel
theorem dX0_becomeCopyOf_3 : decode cX0_becomeCopyOf 3 = .ok (.aload_n 1, 1) := by decide +kernel
theorem dX0_becomeCopyOf_4 : decode cX0_becomeCopyOf 4 = .ok (.getfield 18, 3) := by decide +kernel
theorem dX0_becomeCopyOf_7 : decode cX0_becomeCopyOf 7 = .ok (.if_icmp .ge 24, 3) := by decide +kernel
theorem dX0_becomeCopyOf_10 : decode cX0_becomeCopyOf 10 = .ok (.aload_n 0, 1) := by decide +kernel
theorem dX0_becomeCopyOf_11 : decode cX0_becomeCopyOf 11 = .ok (.getfield 11, 3) := by decide +kernel
theorem dX0_becomeCopyOf_14 : decode cX0_becomeCopyOf 14 = .ok (.iload_n 2, 1) := by decide +kernel
theorem dX0_becomeCopyOf_15 : decode cX0_becomeCopyOf 15 = .ok (.aaload, 1) := by decide +kernel
theorem dX0_becomeCopyOf_16 : decode cX0_becomeCopyOf 16 = .ok (.aload_n 1, 1) := by decide +kernel
theorem dX0_becomeCopyOf_17 : decode cX0_becomeCopyOf 17 = .ok (.getfield 11, 3) := by decide +kernel
theorem dX0_becomeCopyOf_20 : decode cX0_becomeCopyOf 20 = .ok (.iload_n 2, 1) := by decide +kernel
theorem dX0_becomeCopyOf_21 : decode cX0_becomeCopyOf 21 = .ok (.aaload, 1) := by decide +kernel
theorem dX0_becomeCopyOf_22 : decode cX0_becomeCopyOf 22 = .ok (.invokevirtual 37, 3) := by decide +kernel
theorem dX0_becomeCopyOf_25 : decode cX0_becomeCopyOf 25 = .ok (.iinc 2 1, 3) := by decide +kernel
theorem dX0_becomeCopyOf_28 : decode cX0_becomeCopyOf 28 = .ok (.goto (-26), 3) := by decide +kernel
theorem dX0_becomeCopyOf_31 : decode cX0_becomeCopyOf 31 = .ok (.aload_n 0, 1) := by decide +kernel
theorem dX0_becomeCopyOf_32 : decode cX0_becomeCopyOf 32 = .ok (.aload_n 1, 1) := by decide +kernel
theorem dX0_becomeCopyOf_33 : decode cX0_becomeCopyOf 33 = .ok (.getfield 18, 3) := by decide +kernel
theorem dX0_becomeCopyOf_36 : decode cX0_becomeCopyOf 36 = .ok (.putfield 18, 3) := by decide +kernel
theorem dX0_becomeCopyOf_39 : decode cX0_becomeCopyOf 39 = .ok (.aload_n 0, 1) := by decide +kernel
theorem dX0_becomeCopyOf_40 : decode cX0_becomeCopyOf 40 = .ok (.aload_n 1, 1) := by decide +kernel
theorem dX0_becomeCopyOf_41 : decode cX0_becomeCopyOf 41 = .ok (.getfield 24, 3) := by decide +kernel
theorem dX0_becomeCopyOf_44 : decode cX0_becomeCopyOf 44 = .ok (.putfield 24, 3) := by decide +kernel
theorem dX0_becomeCopyOf_47 : decode cX0_becomeCopyOf 47 = .ok (.aload_n 0, 1) := by decide +kernel
theorem dX0_becomeCopyOf_48 : decode cX0_becomeCopyOf 48 = .ok (.aload_n 1, 1) := by decide +kernel
theorem dX0_becomeCopyOf_49 : decode cX0_becomeCopyOf 49 = .ok (.getfield 27, 3) := by decide +kernel
theorem dX0_becomeCopyOf_52 : decode cX0_becomeCopyOf 52 = .ok (.putfield 27, 3) := by decide +kernel
theorem dX0_becomeCopyOf_55 : decode cX0_becomeCopyOf 55 = .ok (.iconst 0, 1) := by decide +kernel
theorem dX0_becomeCopyOf_56 : decode cX0_becomeCopyOf 56 = .ok (.istore_n 2, 1) := by decide +kernel
theorem dX0_becomeCopyOf_57 : decode cX0_becomeCopyOf 57 = .ok (.iload_n 2, 1) := by decide +kernel
theorem dX0_becomeCopyOf_58 : decode cX0_becomeCopyOf 58 = .ok (.aload_n 1, 1) := by decide +kernel
theorem dX0_becomeCopyOf_59 : decode cX0_becomeCopyOf 59 = .ok (.getfield 34, 3) := by decide +kernel
theorem dX0_becomeCopyOf_62 : decode cX0_becomeCopyOf 62 = .ok (.if_icmp .ge 21, 3) := by decide +kernel
theorem dX0_becomeCopyOf_65 : decode cX0_becomeCopyOf 65 = .ok (.aload_n 0, 1) := by decide +kernel
theorem dX0_becomeCopyOf_66 : decode cX0_becomeCopyOf 66 = .ok (.getfield 30, 3) := by decide +kernel
theorem dX0_becomeCopyOf_69 : decode cX0_becomeCopyOf 69 = .ok (.iload_n 2, 1) := by decide +kernel
theorem dX0_becomeCopyOf_70 : decode cX0_becomeCopyOf 70 = .ok (.aload_n 1, 1) := by decide +kernel
theorem dX0_becomeCopyOf_71 : decode cX0_becomeCopyOf 71 = .ok (.getfield 30, 3) := by decide +kernel
theorem dX0_becomeCopyOf_74 : decode cX0_becomeCopyOf 74 = .ok (.iload_n 2, 1) := by decide +kernel
theorem dX0_becomeCopyOf_75 : decode cX0_becomeCopyOf 75 = .ok (.iaload, 1) := by decide +kernel
theorem dX0_becomeCopyOf_76 : decode cX0_becomeCopyOf 76 = .ok (.iastore, 1) := by decide +kernel
theorem dX0_becomeCopyOf_77 : decode cX0_becomeCopyOf 77 = .ok (.iinc 2 1, 3) := by decide +kernel
theorem dX0_becomeCopyOf_80 : decode cX0_becomeCopyOf 80 = .ok (.goto (-23), 3) := by decide +kernel
theorem dX0_becomeCopyOf_83 : decode cX0_becomeCopyOf 83 = .ok (.aload_n 0, 1) := by decide +kernel
theorem dX0_becomeCopyOf_84 : decode cX0_becomeCopyOf 84 = .ok (.aload_n 1, 1) := by decide +kernel
theorem dX0_becomeCopyOf_85 : decode cX0_becomeCopyOf 85 = .ok (.getfield 34, 3) := by decide +kernel
theorem dX0_becomeCopyOf_88 : decode cX0_becomeCopyOf 88 = .ok (.putfield 34, 3) := by decide +kernel
theorem dX0_becomeCopyOf_91 : decode cX0_becomeCopyOf 91 = .ok (.return_, 1) := by decide +kernel
theorem dX0_has_0 : decode cX0_has 0 = .ok (.iload_n 1, 1) := by decide +kernel
theorem dX0_has_1 : decode cX0_has 1 = .ok (.ifCond .lt 15, 3) := by decide +kernel
theorem dX0_has_4 : decode cX0_has 4 = .ok (.iload_n 1, 1) := by decide +kernel
theorem dX0_has_5 : decode cX0_has 5 = .ok (.aload_n 0, 1) := by decide +kernel
theorem dX0_has_6 : decode cX0_has 6 = .ok (.getfield 18, 3) := by decide +kernel
theorem dX0_has_9 : decode cX0_has 9 = .ok (.if_icmp .ge 7, 3) := by decide +kernel
theorem dX0_has_12 : decode cX0_has 12 = .ok (.iconst 1, 1) := by decide +kernel
theorem dX0_has_13 : decode cX0_has 13 = .ok (.goto 4, 3) := by decide +kernel
theorem dX0_has_16 : decode cX0_has 16 = .ok (.iconst 0, 1) := by decide +kernel
theorem dX0_has_17 : decode cX0_has 17 = .ok (.ireturn, 1) := by decide +kernel
theorem dX0_putBehind_0 : decode cX0_putBehind 0 = .ok (.aload_n 0, 1) := by decide +kernel
theorem dX0_putBehind_1 : decode cX0_putBehind 1 = .ok (.getfield 18, 3) := by decide +kernel
theorem dX0_putBehind_4 : decode cX0_putBehind 4 = .ok (.istore 4, 2) := by decide +kernel
theorem dX0_putBehind_6 : decode cX0_putBehind 6 = .ok (.iload 4, 2) := by decide +kernel
theorem dX0_putBehind_8 : decode cX0_putBehind 8 = .ok (.aload_n 0, 1) := by decide +kernel
theorem dX0_putBehind_9 : decode cX0_putBehind 9 = .ok (.getfield 11, 3) := by decide +kernel
theorem dX0_putBehind_12 : decode cX0_putBehind 12 = .ok (.arraylength, 1) := by decide +kernel
theorem dX0_putBehind_13 : decode cX0_putBehind 13 = .ok (.if_icmp .ge 26, 3) := by decide +kernel
theorem dX0_putBehind_16 : decode cX0_putBehind 16 = .ok (.aload_n 0, 1) := by decide +kernel
theorem dX0_putBehind_17 : decode cX0_putBehind 17 = .ok (.getfield 11, 3) := by decide +kernel
theorem dX0_putBehind_20 : decode cX0_putBehind 20 = .ok (.iload 4, 2) := by decide +kernel
theorem dX0_putBehind_22 : decode cX0_putBehind 22 = .ok (.aaload, 1) := by decide +kernel
theorem dX0_putBehind_23 : decode cX0_putBehind 23 = .ok (.iload_n 1, 1) := by decide +kernel
theorem dX0_putBehind_24 : decode cX0_putBehind 24 = .ok (.iload_n 2, 1) := by decide +kernel
theorem dX0_putBehind_25 : decode cX0_putBehind 25 = .ok (.iload_n 3, 1) := by decide +kernel
theorem dX0_putBehind_26 : decode cX0_putBehind 26 = .ok (.invokevirtual 41, 3) := by decide +kernel
theorem dX0_putBehind_29 : decode cX0_putBehind 29 = .ok (.aload_n 0, 1) := by decide +kernel
theorem dX0_putBehind_30 : decode cX0_putBehind 30 = .ok (.dup, 1) := by decide +kernel
theorem dX0_putBehind_31 : decode cX0_putBehind 31 = .ok (.getfield 18, 3) := by decide +kernel
theorem dX0_putBehind_34 : decode cX0_putBehind 34 = .ok (.iconst 1, 1) := by decide +kernel
theorem dX0_putBehind_35 : decode cX0_putBehind 35 = .ok (.iadd, 1) := by decide +kernel
theorem dX0_putBehind_36 : decode cX0_putBehind 36 = .ok (.putfield 18, 3) := by decide +kernel
theorem dX0_putBehind_39 : decode cX0_putBehind 39 = .ok (.iload 4, 2) := by decide +kernel
theorem dX0_putBehind_41 : decode cX0_putBehind 41 = .ok (.ireturn, 1) := by decide +kernel
theorem dX0_takeOut_0 : decode cX0_takeOut 0 = .ok (.aload_n 0, 1) := by decide +kernel
theorem dX0_takeOut_1 : decode cX0_takeOut 1 = .ok (.getfield 11, 3) := by decide +kernel
theorem dX0_takeOut_4 : decode cX0_takeOut 4 = .ok (.iload_n 1, 1) := by decide +kernel
theorem dX0_takeOut_5 : decode cX0_takeOut 5 = .ok (.aaload, 1) := by decide +kernel
theorem dX0_takeOut_6 : decode cX0_takeOut 6 = .ok (.getfield 45, 3) := by decide +kernel
theorem dX0_takeOut_9 : decode cX0_takeOut 9 = .ok (.istore_n 2, 1) := by decide +kernel
theorem dX0_takeOut_10 : decode cX0_takeOut 10 = .ok (.iload_n 1, 1) := by decide +kernel
theorem dX0_takeOut_11 : decode cX0_takeOut 11 = .ok (.iconst 1, 1) := by decide +kernel
theorem dX0_takeOut_12 : decode cX0_takeOut 12 = .ok (.iadd, 1) := by decide +kernel
theorem dX0_takeOut_13 : decode cX0_takeOut 13 = .ok (.istore_n 3, 1) := by decide +kernel
theorem dX0_takeOut_14 : decode cX0_takeOut 14 = .ok (.iload_n 3, 1) := by decide +kernel
theorem dX0_takeOut_15 : decode cX0_takeOut 15 = .ok (.aload_n 0, 1) := by decide +kernel
theorem dX0_takeOut_16 : decode cX0_takeOut 16 = .ok (.getfield 18, 3) := by decide +kernel
theorem dX0_takeOut_19 : decode cX0_takeOut 19 = .ok (.if_icmp .ge 26, 3) := by decide +kernel
theorem dX0_takeOut_22 : decode cX0_takeOut 22 = .ok (.aload_n 0, 1) := by decide +kernel
theorem dX0_takeOut_23 : decode cX0_takeOut 23 = .ok (.getfield 11, 3) := by decide +kernel
theorem dX0_takeOut_26 : decode cX0_takeOut 26 = .ok (.iload_n 3, 1) := by decide +kernel
theorem dX0_takeOut_27 : decode cX0_takeOut 27 = .ok (.iconst 1, 1) := by decide +kernel
theorem dX0_takeOut_28 : decode cX0_takeOut 28 = .ok (.isub, 1) := by decide +kernel
theorem dX0_takeOut_29 : decode cX0_takeOut 29 = .ok (.aaload, 1) := by decide +kernel
theorem dX0_takeOut_30 : decode cX0_takeOut 30 = .ok (.aload_n 0, 1) := by decide +kernel
theorem dX0_takeOut_31 : decode cX0_takeOut 31 = .ok (.getfield 11, 3) := by decide +kernel
theorem dX0_takeOut_34 : decode cX0_takeOut 34 = .ok (.iload_n 3, 1) := by decide +kernel
theorem dX0_takeOut_35 : decode cX0_takeOut 35 = .ok (.aaload, 1) := by decide +kernel
theorem dX0_takeOut_36 : decode cX0_takeOut 36 = .ok (.invokevirtual 37, 3) := by decide +kernel
theorem dX0_takeOut_39 : decode cX0_takeOut 39 = .ok (.iinc 3 1, 3) := by decide +kernel
theorem dX0_takeOut_42 : decode cX0_takeOut 42 = .ok (.goto (-28), 3) := by decide +kernel
theorem dX0_takeOut_45 : decode cX0_takeOut 45 = .ok (.aload_n 0, 1) := by decide +kernel
theorem dX0_takeOut_46 : decode cX0_takeOut 46 = .ok (.dup, 1) := by decide +kernel
theorem dX0_takeOut_47 : decode cX0_takeOut 47 = .ok (.getfield 18, 3) := by decide +kernel
theorem dX0_takeOut_50 : decode cX0_takeOut 50 = .ok (.iconst 1, 1) := by decide +kernel
theorem dX0_takeOut_51 : decode cX0_takeOut 51 = .ok (.isub, 1) := by decide +kernel
theorem dX0_takeOut_52 : decode cX0_takeOut 52 = .ok (.putfield 18, 3) := by decide +kernel
theorem dX0_takeOut_55 : decode cX0_takeOut 55 = .ok (.iload_n 2, 1) := by decide +kernel
theorem dX0_takeOut_56 : decode cX0_takeOut 56 = .ok (.ireturn, 1) := by decide +kernel
theorem dX0_brokenChips_0 : decode cX0_brokenChips 0 = .ok (.iconst 0, 1) := by decide +kernel
theorem dX0_brokenChips_1 : decode cX0_brokenChips 1 = .ok (.istore_n 1, 1) := by decide +kernel
theorem dX0_brokenChips_2 : decode cX0_brokenChips 2 = .ok (.iconst 0, 1) := by decide +kernel
theorem dX0_brokenChips_3 : decode cX0_brokenChips 3 = .ok (.istore_n 2, 1) := by decide +kernel
theorem dX0_brokenChips_4 : decode cX0_brokenChips 4 = .ok (.iload_n 2, 1) := by decide +kernel
theorem dX0_brokenChips_5 : decode cX0_brokenChips 5 = .ok (.aload_n 0, 1) := by decide +kernel
theorem dX0_brokenChips_6 : decode cX0_brokenChips 6 = .ok (.getfield 18, 3) := by decide +kernel
theorem dX0_brokenChips_9 : decode cX0_brokenChips 9 = .ok (.if_icmp .ge 29, 3) := by decide +kernel
theorem dX0_brokenChips_12 : decode cX0_brokenChips 12 = .ok (.iload_n 1, 1) := by decide +kernel
theorem dX0_brokenChips_13 : decode cX0_brokenChips 13 = .ok (.aload_n 0, 1) := by decide +kernel
theorem dX0_brokenChips_14 : decode cX0_brokenChips 14 = .ok (.getfield 11, 3) := by decide +kernel
theorem dX0_brokenChips_17 : decode cX0_brokenChips 17 = .ok (.iload_n 2, 1) := by decide +kernel
theorem dX0_brokenChips_18 : decode cX0_brokenChips 18 = .ok (.aaload, 1) := by decide +kernel
theorem dX0_brokenChips_19 : decode cX0_brokenChips 19 = .ok (.getfield 48, 3) := by decide +kernel
theorem dX0_brokenChips_22 : decode cX0_brokenChips 22 = .ok (.ifCond .eq 7, 3) := by decide +kernel
theorem dX0_brokenChips_25 : decode cX0_brokenChips 25 = .ok (.iconst 1, 1) := by decide +kernel
theorem dX0_brokenChips_26 : decode cX0_brokenChips 26 = .ok (.goto 4, 3) := by decide +kernel
theorem dX0_brokenChips_29 : decode cX0_brokenChips 29 = .ok (.iconst 0, 1) := by decide +kernel
theorem dX0_brokenChips_30 : decode cX0_brokenChips 30 = .ok (.iadd, 1) := by decide +kernel
theorem dX0_brokenChips_31 : decode cX0_brokenChips 31 = .ok (.istore_n 1, 1) := by decide +kernel
theorem dX0_brokenChips_32 : decode cX0_brokenChips 32 = .ok (.iinc 2 1, 3) := by decide +kernel
theorem dX0_brokenChips_35 : decode cX0_brokenChips 35 = .ok (.goto (-31), 3) := by decide +kernel
theorem dX0_brokenChips_38 : decode cX0_brokenChips 38 = .ok (.iload_n 1, 1) := by decide +kernel
theorem dX0_brokenChips_39 : decode cX0_brokenChips 39 = .ok (.ireturn, 1) := by decide +kernel
theorem dX0_bypassedChips_0 : decode cX0_bypassedChips 0 = .ok (.iconst 0, 1) := by decide +kernel
theorem dX0_bypassedChips_1 : decode cX0_bypassedChips 1 = .ok (.istore_n 1, 1) := by decide +kernel
theorem dX0_bypassedChips_2 : decode cX0_bypassedChips 2 = .ok (.iconst 0, 1) := by decide +kernel
theorem dX0_bypassedChips_3 : decode cX0_bypassedChips 3 = .ok (.istore_n 2, 1) := by decide +kernel
theorem dX0_bypassedChips_4 : decode cX0_bypassedChips 4 = .ok (.iload_n 2, 1) := by decide +kernel
theorem dX0_bypassedChips_5 : decode cX0_bypassedChips 5 = .ok (.aload_n 0, 1) := by decide +kernel
theorem dX0_bypassedChips_6 : decode cX0_bypassedChips 6 = .ok (.getfield 18, 3) := by decide +kernel
theorem dX0_bypassedChips_9 : decode cX0_bypassedChips 9 = .ok (.if_icmp .ge 29, 3) := by decide +kernel
theorem dX0_bypassedChips_12 : decode cX0_bypassedChips 12 = .ok (.iload_n 1, 1) := by decide +kernel
theorem dX0_bypassedChips_13 : decode cX0_bypassedChips 13 = .ok (.aload_n 0, 1) := by decide +kernel
theorem dX0_bypassedChips_14 : decode cX0_bypassedChips 14 = .ok (.getfield 11, 3) := by decide +kernel
theorem dX0_bypassedChips_17 : decode cX0_bypassedChips 17 = .ok (.iload_n 2, 1) := by decide +kernel
theorem dX0_bypassedChips_18 : decode cX0_bypassedChips 18 = .ok (.aaload, 1) := by decide +kernel
theorem dX0_bypassedChips_19 : decode cX0_bypassedChips 19 = .ok (.invokevirtual 52, 3) := by decide +kernel
theorem dX0_bypassedChips_22 : decode cX0_bypassedChips 22 = .ok (.ifCond .eq 7, 3) := by decide +kernel
theorem dX0_bypassedChips_25 : decode cX0_bypassedChips 25 = .ok (.iconst 1, 1) := by decide +kernel
theorem dX0_bypassedChips_26 : decode cX0_bypassedChips 26 = .ok (.goto 4, 3) := by decide +kernel
theorem dX0_bypassedChips_29 : decode cX0_bypassedChips 29 = .ok (.iconst 0, 1) := by decide +kernel
theorem dX0_bypassedChips_30 : decode cX0_bypassedChips 30 = .ok (.iadd, 1) := by decide +kernel
theorem dX0_bypassedChips_31 : decode cX0_bypassedChips 31 = .ok (.istore_n 1, 1) := by decide +kernel
theorem dX0_bypassedChips_32 : decode cX0_bypassedChips 32 = .ok (.iinc 2 1, 3) := by decide +kernel
theorem dX0_bypassedChips_35 : decode cX0_bypassedChips 35 = .ok (.goto (-31), 3) := by decide +kernel
theorem dX0_bypassedChips_38 : decode cX0_bypassedChips 38 = .ok (.iload_n 1, 1) := by decide +kernel
theorem dX0_bypassedChips_39 : decode cX0_bypassedChips 39 = .ok (.ireturn, 1) := by decide +kernel
theorem dX0_sumOfCodeLengths_0 : decode cX0_sumOfCodeLengths 0 = .ok (.iconst 0, 1) := by decide +kernel
theorem dX0_sumOfCodeLengths_1 : decode cX0_sumOfCodeLengths 1 = .ok (.istore_n 1, 1) := by decide +kernel
theorem dX0_sumOfCodeLengths_2 : decode cX0_sumOfCodeLengths 2 = .ok (.iconst 0, 1) := by decide +kernel
theorem dX0_sumOfCodeLengths_3 : decode cX0_sumOfCodeLengths 3 = .ok (.istore_n 2, 1) := by decide +kernel
theorem dX0_sumOfCodeLengths_4 : decode cX0_sumOfCodeLengths 4 = .ok (.iload_n 2, 1) := by decide +kernel
theorem dX0_sumOfCodeLengths_5 : decode cX0_sumOfCodeLengths 5 = .ok (.aload_n 0, 1) := by decide +kernel
theorem dX0_sumOfCodeLengths_6 : decode cX0_sumOfCodeLengths 6 = .ok (.getfield 18, 3) := by decide +kernel
theorem dX0_sumOfCodeLengths_9 : decode cX0_sumOfCodeLengths 9 = .ok (.if_icmp .ge 21, 3) := by decide +kernel
theorem dX0_sumOfCodeLengths_12 : decode cX0_sumOfCodeLengths 12 = .ok (.iload_n 1, 1) := by decide +kernel
theorem dX0_sumOfCodeLengths_13 : decode cX0_sumOfCodeLengths 13 = .ok (.aload_n 0, 1) := by decide +kernel
theorem dX0_sumOfCodeLengths_14 : decode cX0_sumOfCodeLengths 14 = .ok (.getfield 11, 3) := by decide +kernel
theorem dX0_sumOfCodeLengths_17 : decode cX0_sumOfCodeLengths 17 = .ok (.iload_n 2, 1) := by decide +kernel
theorem dX0_sumOfCodeLengths_18 : decode cX0_sumOfCodeLengths 18 = .ok (.aaload, 1) := by decide +kernel
theorem dX0_sumOfCodeLengths_19 : decode cX0_sumOfCodeLengths 19 = .ok (.getfield 56, 3) := by decide +kernel
theorem dX0_sumOfCodeLengths_22 : decode cX0_sumOfCodeLengths 22 = .ok (.iadd, 1) := by decide +kernel
theorem dX0_sumOfCodeLengths_23 : decode cX0_sumOfCodeLengths 23 = .ok (.istore_n 1, 1) := by decide +kernel
theorem dX0_sumOfCodeLengths_24 : decode cX0_sumOfCodeLengths 24 = .ok (.iinc 2 1, 3) := by decide +kernel
theorem dX0_sumOfCodeLengths_27 : decode cX0_sumOfCodeLengths 27 = .ok (.goto (-23), 3) := by decide +kernel
theorem dX0_sumOfCodeLengths_30 : decode cX0_sumOfCodeLengths 30 = .ok (.iload_n 1, 1) := by decide +kernel
theorem dX0_sumOfCodeLengths_31 : decode cX0_sumOfCodeLengths 31 = .ok (.ireturn, 1) := by decide +kernel
theorem dX0_sumOfDataBits_0 : decode cX0_sumOfDataBits 0 = .ok (.iconst 0, 1) := by decide +kernel
theorem dX0_sumOfDataBits_1 : decode cX0_sumOfDataBits 1 = .ok (.istore_n 1, 1) := by decide +kernel
theorem dX0_sumOfDataBits_2 : decode cX0_sumOfDataBits 2 = .ok (.iconst 0, 1) := by decide +kernel
theorem dX0_sumOfDataBits_3 : decode cX0_sumOfDataBits 3 = .ok (.istore_n 2, 1) := by decide +kernel
theorem dX0_sumOfDataBits_4 : decode cX0_sumOfDataBits 4 = .ok (.iload_n 2, 1) := by decide +kernel
theorem dX0_sumOfDataBits_5 : decode cX0_sumOfDataBits 5 = .ok (.aload_n 0, 1) := by decide +kernel
theorem dX0_sumOfDataBits_6 : decode cX0_sumOfDataBits 6 = .ok (.getfield 18, 3) := by decide +kernel
theorem dX0_sumOfDataBits_9 : decode cX0_sumOfDataBits 9 = .ok (.if_icmp .ge 21, 3) := by decide +kernel
theorem dX0_sumOfDataBits_12 : decode cX0_sumOfDataBits 12 = .ok (.iload_n 1, 1) := by decide +kernel
theorem dX0_sumOfDataBits_13 : decode cX0_sumOfDataBits 13 = .ok (.aload_n 0, 1) := by decide +kernel
theorem dX0_sumOfDataBits_14 : decode cX0_sumOfDataBits 14 = .ok (.getfield 11, 3) := by decide +kernel
theorem dX0_sumOfDataBits_17 : decode cX0_sumOfDataBits 17 = .ok (.iload_n 2, 1) := by decide +kernel
theorem dX0_sumOfDataBits_18 : decode cX0_sumOfDataBits 18 = .ok (.aaload, 1) := by decide +kernel
theorem dX0_sumOfDataBits_19 : decode cX0_sumOfDataBits 19 = .ok (.invokevirtual 59, 3) := by decide +kernel
theorem dX0_sumOfDataBits_22 : decode cX0_sumOfDataBits 22 = .ok (.iadd, 1) := by decide +kernel
theorem dX0_sumOfDataBits_23 : decode cX0_sumOfDataBits 23 = .ok (.istore_n 1, 1) := by decide +kernel
theorem dX0_sumOfDataBits_24 : decode cX0_sumOfDataBits 24 = .ok (.iinc 2 1, 3) := by decide +kernel
theorem dX0_sumOfDataBits_27 : decode cX0_sumOfDataBits 27 = .ok (.goto (-23), 3) := by decide +kernel
theorem dX0_sumOfDataBits_30 : decode cX0_sumOfDataBits 30 = .ok (.iload_n 1, 1) := by decide +kernel
theorem dX0_sumOfDataBits_31 : decode cX0_sumOfDataBits 31 = .ok (.ireturn, 1) := by decide +kernel
theorem dX0_forgetIdentities_0 : decode cX0_forgetIdentities 0 = .ok (.aload_n 0, 1) := by decide +kernel
theorem dX0_forgetIdentities_1 : decode cX0_forgetIdentities 1 = .ok (.iconst 0, 1) := by decide +kernel
theorem dX0_forgetIdentities_2 : decode cX0_forgetIdentities 2 = .ok (.putfield 34, 3) := by decide +kernel
theorem dX0_forgetIdentities_5 : decode cX0_forgetIdentities 5 = .ok (.return_, 1) := by decide +kernel
theorem dX0_keepIdentity_0 : decode cX0_keepIdentity 0 = .ok (.aload_n 0, 1) := by decide +kernel
theorem dX0_keepIdentity_1 : decode cX0_keepIdentity 1 = .ok (.getfield 34, 3) := by decide +kernel
theorem dX0_keepIdentity_4 : decode cX0_keepIdentity 4 = .ok (.aload_n 0, 1) := by decide +kernel
theorem dX0_keepIdentity_5 : decode cX0_keepIdentity 5 = .ok (.getfield 30, 3) := by decide +kernel
theorem dX0_keepIdentity_8 : decode cX0_keepIdentity 8 = .ok (.arraylength, 1) := by decide +kernel
theorem dX0_keepIdentity_9 : decode cX0_keepIdentity 9 = .ok (.if_icmp .ge 23, 3) := by decide +kernel
theorem dX0_keepIdentity_12 : decode cX0_keepIdentity 12 = .ok (.aload_n 0, 1) := by decide +kernel
theorem dX0_keepIdentity_13 : decode cX0_keepIdentity 13 = .ok (.getfield 30, 3) := by decide +kernel
theorem dX0_keepIdentity_16 : decode cX0_keepIdentity 16 = .ok (.aload_n 0, 1) := by decide +kernel
theorem dX0_keepIdentity_17 : decode cX0_keepIdentity 17 = .ok (.getfield 34, 3) := by decide +kernel
theorem dX0_keepIdentity_20 : decode cX0_keepIdentity 20 = .ok (.iload_n 1, 1) := by decide +kernel
theorem dX0_keepIdentity_21 : decode cX0_keepIdentity 21 = .ok (.iastore, 1) := by decide +kernel
theorem dX0_keepIdentity_22 : decode cX0_keepIdentity 22 = .ok (.aload_n 0, 1) := by decide +kernel
theorem dX0_keepIdentity_23 : decode cX0_keepIdentity 23 = .ok (.dup, 1) := by decide +kernel
theorem dX0_keepIdentity_24 : decode cX0_keepIdentity 24 = .ok (.getfield 34, 3) := by decide +kernel
theorem dX0_keepIdentity_27 : decode cX0_keepIdentity 27 = .ok (.iconst 1, 1) := by decide +kernel
theorem dX0_keepIdentity_28 : decode cX0_keepIdentity 28 = .ok (.iadd, 1) := by decide +kernel
theorem dX0_keepIdentity_29 : decode cX0_keepIdentity 29 = .ok (.putfield 34, 3) := by decide +kernel
theorem dX0_keepIdentity_32 : decode cX0_keepIdentity 32 = .ok (.return_, 1) := by decide +kernel
theorem dX0_tick_0 : decode cX0_tick 0 = .ok (.aload_n 0, 1) := by decide +kernel
theorem dX0_tick_1 : decode cX0_tick 1 = .ok (.iload_n 2, 1) := by decide +kernel
theorem dX0_tick_2 : decode cX0_tick 2 = .ok (.invokevirtual 63, 3) := by decide +kernel
theorem dX0_tick_5 : decode cX0_tick 5 = .ok (.istore_n 3, 1) := by decide +kernel
theorem dX0_tick_6 : decode cX0_tick 6 = .ok (.aload_n 0, 1) := by decide +kernel
theorem dX0_tick_7 : decode cX0_tick 7 = .ok (.getfield 24, 3) := by decide +kernel
theorem dX0_tick_10 : decode cX0_tick 10 = .ok (.iconst 4, 1) := by decide +kernel
theorem dX0_tick_11 : decode cX0_tick 11 = .ok (.if_icmp .ne 11, 3) := by decide +kernel
theorem dX0_tick_14 : decode cX0_tick 14 = .ok (.aload_n 0, 1) := by decide +kernel
theorem dX0_tick_15 : decode cX0_tick 15 = .ok (.iload_n 2, 1) := by decide +kernel
theorem dX0_tick_16 : decode cX0_tick 16 = .ok (.invokevirtual 67, 3) := by decide +kernel
theorem dX0_tick_19 : decode cX0_tick 19 = .ok (.goto 49, 3) := by decide +kernel
theorem dX0_tick_22 : decode cX0_tick 22 = .ok (.aload_n 0, 1) := by decide +kernel
theorem dX0_tick_23 : decode cX0_tick 23 = .ok (.getfield 24, 3) := by decide +kernel
theorem dX0_tick_26 : decode cX0_tick 26 = .ok (.bipush 11, 2) := by decide +kernel
theorem dX0_tick_28 : decode cX0_tick 28 = .ok (.if_icmp .ne 11, 3) := by decide +kernel
theorem dX0_tick_31 : decode cX0_tick 31 = .ok (.aload_n 0, 1) := by decide +kernel
theorem dX0_tick_32 : decode cX0_tick 32 = .ok (.iload_n 2, 1) := by decide +kernel
theorem dX0_tick_33 : decode cX0_tick 33 = .ok (.invokevirtual 71, 3) := by decide +kernel
theorem dX0_tick_36 : decode cX0_tick 36 = .ok (.goto 32, 3) := by decide +kernel
theorem dX0_tick_39 : decode cX0_tick 39 = .ok (.iconst 0, 1) := by decide +kernel
theorem dX0_tick_40 : decode cX0_tick 40 = .ok (.istore 4, 2) := by decide +kernel
theorem dX0_tick_42 : decode cX0_tick 42 = .ok (.iload 4, 2) := by decide +kernel
theorem dX0_tick_44 : decode cX0_tick 44 = .ok (.aload_n 0, 1) := by decide +kernel
theorem dX0_tick_45 : decode cX0_tick 45 = .ok (.getfield 18, 3) := by decide +kernel
theorem dX0_tick_48 : decode cX0_tick 48 = .ok (.if_icmp .ge 20, 3) := by decide +kernel
theorem dX0_tick_51 : decode cX0_tick 51 = .ok (.aload_n 0, 1) := by decide +kernel
theorem dX0_tick_52 : decode cX0_tick 52 = .ok (.aload_n 0, 1) := by decide +kernel
theorem dX0_tick_53 : decode cX0_tick 53 = .ok (.getfield 11, 3) := by decide +kernel
theorem dX0_tick_56 : decode cX0_tick 56 = .ok (.iload 4, 2) := by decide +kernel
theorem dX0_tick_58 : decode cX0_tick 58 = .ok (.aaload, 1) := by decide +kernel
theorem dX0_tick_59 : decode cX0_tick 59 = .ok (.invokevirtual 74, 3) := by decide +kernel
theorem dX0_tick_62 : decode cX0_tick 62 = .ok (.iinc 4 1, 3) := by decide +kernel
theorem dX0_tick_65 : decode cX0_tick 65 = .ok (.goto (-23), 3) := by decide +kernel
theorem dX0_tick_68 : decode cX0_tick 68 = .ok (.aload_n 0, 1) := by decide +kernel
theorem dX0_tick_69 : decode cX0_tick 69 = .ok (.aload_n 0, 1) := by decide +kernel
theorem dX0_tick_70 : decode cX0_tick 70 = .ok (.getfield 24, 3) := by decide +kernel
theorem dX0_tick_73 : decode cX0_tick 73 = .ok (.iload_n 1, 1) := by decide +kernel
theorem dX0_tick_74 : decode cX0_tick 74 = .ok (.invokestatic 77, 3) := by decide +kernel
theorem dX0_tick_77 : decode cX0_tick 77 = .ok (.putfield 24, 3) := by decide +kernel
theorem dX0_tick_80 : decode cX0_tick 80 = .ok (.aload_n 0, 1) := by decide +kernel
theorem dX0_tick_81 : decode cX0_tick 81 = .ok (.dup, 1) := by decide +kernel
theorem dX0_tick_82 : decode cX0_tick 82 = .ok (.getfield 27, 3) := by decide +kernel
theorem dX0_tick_85 : decode cX0_tick 85 = .ok (.iconst 1, 1) := by decide +kernel
theorem dX0_tick_86 : decode cX0_tick 86 = .ok (.iadd, 1) := by decide +kernel
theorem dX0_tick_87 : decode cX0_tick 87 = .ok (.putfield 27, 3) := by decide +kernel
theorem dX0_tick_90 : decode cX0_tick 90 = .ok (.iload_n 3, 1) := by decide +kernel
theorem dX0_tick_91 : decode cX0_tick 91 = .ok (.ireturn, 1) := by decide +kernel
theorem dX0_outputWith_0 : decode cX0_outputWith 0 = .ok (.aload_n 0, 1) := by decide +kernel
theorem dX0_outputWith_1 : decode cX0_outputWith 1 = .ok (.getfield 24, 3) := by decide +kernel
theorem dX0_outputWith_4 : decode cX0_outputWith 4 = .ok (.iconst 4, 1) := by decide +kernel
theorem dX0_outputWith_5 : decode cX0_outputWith 5 = .ok (.if_icmp .eq 14, 3) := by decide +kernel
theorem dX0_outputWith_8 : decode cX0_outputWith 8 = .ok (.aload_n 0, 1) := by decide +kernel
theorem dX0_outputWith_9 : decode cX0_outputWith 9 = .ok (.getfield 24, 3) := by decide +kernel
theorem dX0_outputWith_12 : decode cX0_outputWith 12 = .ok (.bipush 11, 2) := by decide +kernel
theorem dX0_outputWith_14 : decode cX0_outputWith 14 = .ok (.if_icmp .eq 5, 3) := by decide +kernel
theorem dX0_outputWith_17 : decode cX0_outputWith 17 = .ok (.iconst 1, 1) := by decide +kernel
theorem dX0_outputWith_18 : decode cX0_outputWith 18 = .ok (.ireturn, 1) := by decide +kernel
theorem dX0_outputWith_19 : decode cX0_outputWith 19 = .ok (.aload_n 0, 1) := by decide +kernel
theorem dX0_outputWith_20 : decode cX0_outputWith 20 = .ok (.getfield 18, 3) := by decide +kernel
theorem dX0_outputWith_23 : decode cX0_outputWith 23 = .ok (.ifCond .gt 5, 3) := by decide +kernel
theorem dX0_outputWith_26 : decode cX0_outputWith 26 = .ok (.iload_n 1, 1) := by decide +kernel
theorem dX0_outputWith_27 : decode cX0_outputWith 27 = .ok (.ireturn, 1) := by decide +kernel
theorem dX0_outputWith_28 : decode cX0_outputWith 28 = .ok (.aload_n 0, 1) := by decide +kernel
theorem dX0_outputWith_29 : decode cX0_outputWith 29 = .ok (.getfield 11, 3) := by decide +kernel
theorem dX0_outputWith_32 : decode cX0_outputWith 32 = .ok (.aload_n 0, 1) := by decide +kernel
theorem dX0_outputWith_33 : decode cX0_outputWith 33 = .ok (.getfield 18, 3) := by decide +kernel
theorem dX0_outputWith_36 : decode cX0_outputWith 36 = .ok (.iconst 1, 1) := by decide +kernel
theorem dX0_outputWith_37 : decode cX0_outputWith 37 = .ok (.isub, 1) := by decide +kernel
theorem dX0_outputWith_38 : decode cX0_outputWith 38 = .ok (.aaload, 1) := by decide +kernel
theorem dX0_outputWith_39 : decode cX0_outputWith 39 = .ok (.astore_n 2, 1) := by decide +kernel
theorem dX0_outputWith_40 : decode cX0_outputWith 40 = .ok (.aload_n 0, 1) := by decide +kernel
theorem dX0_outputWith_41 : decode cX0_outputWith 41 = .ok (.getfield 24, 3) := by decide +kernel
theorem dX0_outputWith_44 : decode cX0_outputWith 44 = .ok (.iconst 4, 1) := by decide +kernel
theorem dX0_outputWith_45 : decode cX0_outputWith 45 = .ok (.if_icmp .ne 10, 3) := by decide +kernel
theorem dX0_outputWith_48 : decode cX0_outputWith 48 = .ok (.aload_n 2, 1) := by decide +kernel
theorem dX0_outputWith_49 : decode cX0_outputWith 49 = .ok (.invokevirtual 81, 3) := by decide +kernel
theorem dX0_outputWith_52 : decode cX0_outputWith 52 = .ok (.goto 7, 3) := by decide +kernel
theorem dX0_outputWith_55 : decode cX0_outputWith 55 = .ok (.aload_n 2, 1) := by decide +kernel
theorem dX0_outputWith_56 : decode cX0_outputWith 56 = .ok (.invokevirtual 84, 3) := by decide +kernel
theorem dX0_outputWith_59 : decode cX0_outputWith 59 = .ok (.ireturn, 1) := by decide +kernel
theorem dX0_workOf_0 : decode cX0_workOf 0 = .ok (.aload_n 0, 1) := by decide +kernel
theorem dX0_workOf_1 : decode cX0_workOf 1 = .ok (.getfield 24, 3) := by decide +kernel
theorem dX0_workOf_4 : decode cX0_workOf 4 = .ok (.lookupswitch 92 #[(0, 52), (3, 59), (8, 66), (10, 73), (15, 81)], 52) := by decide +kernel
theorem dX0_workOf_56 : decode cX0_workOf 56 = .ok (.aload_n 1, 1) := by decide +kernel
theorem dX0_workOf_57 : decode cX0_workOf 57 = .ok (.invokevirtual 87, 3) := by decide +kernel
theorem dX0_workOf_60 : decode cX0_workOf 60 = .ok (.goto 36, 3) := by decide +kernel
theorem dX0_workOf_63 : decode cX0_workOf 63 = .ok (.aload_n 1, 1) := by decide +kernel
theorem dX0_workOf_64 : decode cX0_workOf 64 = .ok (.invokevirtual 90, 3) := by decide +kernel
theorem dX0_workOf_67 : decode cX0_workOf 67 = .ok (.goto 29, 3) := by decide +kernel
theorem dX0_workOf_70 : decode cX0_workOf 70 = .ok (.aload_n 1, 1) := by decide +kernel
theorem dX0_workOf_71 : decode cX0_workOf 71 = .ok (.invokevirtual 93, 3) := by decide +kernel
theorem dX0_workOf_74 : decode cX0_workOf 74 = .ok (.goto 22, 3) := by decide +kernel
theorem dX0_workOf_77 : decode cX0_workOf 77 = .ok (.aload_n 1, 1) := by decide +kernel
theorem dX0_workOf_78 : decode cX0_workOf 78 = .ok (.iconst 1, 1) := by decide +kernel
theorem dX0_workOf_79 : decode cX0_workOf 79 = .ok (.putfield 96, 3) := by decide +kernel
theorem dX0_workOf_82 : decode cX0_workOf 82 = .ok (.goto 14, 3) := by decide +kernel
theorem dX0_workOf_85 : decode cX0_workOf 85 = .ok (.aload_n 1, 1) := by decide +kernel
theorem dX0_workOf_86 : decode cX0_workOf 86 = .ok (.aload_n 1, 1) := by decide +kernel
theorem dX0_workOf_87 : decode cX0_workOf 87 = .ok (.getfield 96, 3) := by decide +kernel
theorem dX0_workOf_90 : decode cX0_workOf 90 = .ok (.invokevirtual 99, 3) := by decide +kernel
theorem dX0_workOf_93 : decode cX0_workOf 93 = .ok (.goto 3, 3) := by decide +kernel
theorem dX0_workOf_96 : decode cX0_workOf 96 = .ok (.return_, 1) := by decide +kernel
theorem dX0_shiftAllData_0 : decode cX0_shiftAllData 0 = .ok (.iload_n 1, 1) := by decide +kernel
theorem dX0_shiftAllData_1 : decode cX0_shiftAllData 1 = .ok (.istore_n 2, 1) := by decide +kernel
theorem dX0_shiftAllData_2 : decode cX0_shiftAllData 2 = .ok (.iconst 0, 1) := by decide +kernel
theorem dX0_shiftAllData_3 : decode cX0_shiftAllData 3 = .ok (.istore_n 3, 1) := by decide +kernel
theorem dX0_shiftAllData_4 : decode cX0_shiftAllData 4 = .ok (.iload_n 3, 1) := by decide +kernel
theorem dX0_shiftAllData_5 : decode cX0_shiftAllData 5 = .ok (.aload_n 0, 1) := by decide +kernel
theorem dX0_shiftAllData_6 : decode cX0_shiftAllData 6 = .ok (.getfield 18, 3) := by decide +kernel
theorem dX0_shiftAllData_9 : decode cX0_shiftAllData 9 = .ok (.if_icmp .ge 33, 3) := by decide +kernel
theorem dX0_shiftAllData_12 : decode cX0_shiftAllData 12 = .ok (.aload_n 0, 1) := by decide +kernel
theorem dX0_shiftAllData_13 : decode cX0_shiftAllData 13 = .ok (.getfield 11, 3) := by decide +kernel
theorem dX0_shiftAllData_16 : decode cX0_shiftAllData 16 = .ok (.iload_n 3, 1) := by decide +kernel
theorem dX0_shiftAllData_17 : decode cX0_shiftAllData 17 = .ok (.aaload, 1) := by decide +kernel
theorem dX0_shiftAllData_18 : decode cX0_shiftAllData 18 = .ok (.invokevirtual 81, 3) := by decide +kernel
theorem dX0_shiftAllData_21 : decode cX0_shiftAllData 21 = .ok (.istore 4, 2) := by decide +kernel
theorem dX0_shiftAllData_23 : decode cX0_shiftAllData 23 = .ok (.aload_n 0, 1) := by decide +kernel
theorem dX0_shiftAllData_24 : decode cX0_shiftAllData 24 = .ok (.getfield 11, 3) := by decide +kernel
theorem dX0_shiftAllData_27 : decode cX0_shiftAllData 27 = .ok (.iload_n 3, 1) := by decide +kernel
theorem dX0_shiftAllData_28 : decode cX0_shiftAllData 28 = .ok (.aaload, 1) := by decide +kernel
theorem dX0_shiftAllData_29 : decode cX0_shiftAllData 29 = .ok (.iload_n 2, 1) := by decide +kernel
theorem dX0_shiftAllData_30 : decode cX0_shiftAllData 30 = .ok (.invokevirtual 102, 3) := by decide +kernel
theorem dX0_shiftAllData_33 : decode cX0_shiftAllData 33 = .ok (.iload 4, 2) := by decide +kernel
theorem dX0_shiftAllData_35 : decode cX0_shiftAllData 35 = .ok (.istore_n 2, 1) := by decide +kernel
theorem dX0_shiftAllData_36 : decode cX0_shiftAllData 36 = .ok (.iinc 3 1, 3) := by decide +kernel
theorem dX0_shiftAllData_39 : decode cX0_shiftAllData 39 = .ok (.goto (-35), 3) := by decide +kernel
theorem dX0_shiftAllData_42 : decode cX0_shiftAllData 42 = .ok (.return_, 1) := by decide +kernel
theorem dX0_shiftAllCodes_0 : decode cX0_shiftAllCodes 0 = .ok (.iload_n 1, 1) := by decide +kernel
theorem dX0_shiftAllCodes_1 : decode cX0_shiftAllCodes 1 = .ok (.istore_n 2, 1) := by decide +kernel
theorem dX0_shiftAllCodes_2 : decode cX0_shiftAllCodes 2 = .ok (.iconst 0, 1) := by decide +kernel
theorem dX0_shiftAllCodes_3 : decode cX0_shiftAllCodes 3 = .ok (.istore_n 3, 1) := by decide +kernel
theorem dX0_shiftAllCodes_4 : decode cX0_shiftAllCodes 4 = .ok (.iload_n 3, 1) := by decide +kernel
theorem dX0_shiftAllCodes_5 : decode cX0_shiftAllCodes 5 = .ok (.aload_n 0, 1) := by decide +kernel
theorem dX0_shiftAllCodes_6 : decode cX0_shiftAllCodes 6 = .ok (.getfield 18, 3) := by decide +kernel
theorem dX0_shiftAllCodes_9 : decode cX0_shiftAllCodes 9 = .ok (.if_icmp .ge 33, 3) := by decide +kernel
theorem dX0_shiftAllCodes_12 : decode cX0_shiftAllCodes 12 = .ok (.aload_n 0, 1) := by decide +kernel
theorem dX0_shiftAllCodes_13 : decode cX0_shiftAllCodes 13 = .ok (.getfield 11, 3) := by decide +kernel
theorem dX0_shiftAllCodes_16 : decode cX0_shiftAllCodes 16 = .ok (.iload_n 3, 1) := by decide +kernel
theorem dX0_shiftAllCodes_17 : decode cX0_shiftAllCodes 17 = .ok (.aaload, 1) := by decide +kernel
theorem dX0_shiftAllCodes_18 : decode cX0_shiftAllCodes 18 = .ok (.invokevirtual 84, 3) := by decide +kernel
theorem dX0_shiftAllCodes_21 : decode cX0_shiftAllCodes 21 = .ok (.istore 4, 2) := by decide +kernel
theorem dX0_shiftAllCodes_23 : decode cX0_shiftAllCodes 23 = .ok (.aload_n 0, 1) := by decide +kernel
theorem dX0_shiftAllCodes_24 : decode cX0_shiftAllCodes 24 = .ok (.getfield 11, 3) := by decide +kernel
theorem dX0_shiftAllCodes_27 : decode cX0_shiftAllCodes 27 = .ok (.iload_n 3, 1) := by decide +kernel
theorem dX0_shiftAllCodes_28 : decode cX0_shiftAllCodes 28 = .ok (.aaload, 1) := by decide +kernel
theorem dX0_shiftAllCodes_29 : decode cX0_shiftAllCodes 29 = .ok (.iload_n 2, 1) := by decide +kernel
theorem dX0_shiftAllCodes_30 : decode cX0_shiftAllCodes 30 = .ok (.invokevirtual 105, 3) := by decide +kernel
theorem dX0_shiftAllCodes_33 : decode cX0_shiftAllCodes 33 = .ok (.iload 4, 2) := by decide +kernel
theorem dX0_shiftAllCodes_35 : decode cX0_shiftAllCodes 35 = .ok (.istore_n 2, 1) := by decide +kernel
theorem dX0_shiftAllCodes_36 : decode cX0_shiftAllCodes 36 = .ok (.iinc 3 1, 3) := by decide +kernel
theorem dX0_shiftAllCodes_39 : decode cX0_shiftAllCodes 39 = .ok (.goto (-35), 3) := by decide +kernel
theorem dX0_shiftAllCodes_42 : decode cX0_shiftAllCodes 42 = .ok (.return_, 1) := by decide +kernel
theorem dX1_init_0 : decode cX1_init 0 = .ok (.aload_n 0, 1) := by decide +kernel
theorem dX1_init_1 : decode cX1_init 1 = .ok (.invokespecial 3, 3) := by decide +kernel
theorem dX1_init_4 : decode cX1_init 4 = .ok (.return_, 1) := by decide +kernel
theorem dX1_beNew_0 : decode cX1_beNew 0 = .ok (.aload_n 0, 1) := by decide +kernel
theorem dX1_beNew_1 : decode cX1_beNew 1 = .ok (.iload_n 1, 1) := by decide +kernel
theorem dX1_beNew_2 : decode cX1_beNew 2 = .ok (.putfield 9, 3) := by decide +kernel
theorem dX1_beNew_5 : decode cX1_beNew 5 = .ok (.aload_n 0, 1) := by decide +kernel
theorem dX1_beNew_6 : decode cX1_beNew 6 = .ok (.iload_n 2, 1) := by decide +kernel
theorem dX1_beNew_7 : decode cX1_beNew 7 = .ok (.putfield 15, 3) := by decide +kernel
theorem dX1_beNew_10 : decode cX1_beNew 10 = .ok (.aload_n 0, 1) := by decide +kernel
theorem dX1_beNew_11 : decode cX1_beNew 11 = .ok (.iload_n 3, 1) := by decide +kernel
theorem dX1_beNew_12 : decode cX1_beNew 12 = .ok (.putfield 18, 3) := by decide +kernel
theorem dX1_beNew_15 : decode cX1_beNew 15 = .ok (.aload_n 0, 1) := by decide +kernel
theorem dX1_beNew_16 : decode cX1_beNew 16 = .ok (.iconst 0, 1) := by decide +kernel
theorem dX1_beNew_17 : decode cX1_beNew 17 = .ok (.putfield 21, 3) := by decide +kernel
theorem dX1_beNew_20 : decode cX1_beNew 20 = .ok (.aload_n 0, 1) := by decide +kernel
theorem dX1_beNew_21 : decode cX1_beNew 21 = .ok (.iconst 0, 1) := by decide +kernel
theorem dX1_beNew_22 : decode cX1_beNew 22 = .ok (.putfield 24, 3) := by decide +kernel
theorem dX1_beNew_25 : decode cX1_beNew 25 = .ok (.aload_n 0, 1) := by decide +kernel
theorem dX1_beNew_26 : decode cX1_beNew 26 = .ok (.iconst 0, 1) := by decide +kernel
theorem dX1_beNew_27 : decode cX1_beNew 27 = .ok (.putfield 27, 3) := by decide +kernel
theorem dX1_beNew_30 : decode cX1_beNew 30 = .ok (.aload_n 0, 1) := by decide +kernel
theorem dX1_beNew_31 : decode cX1_beNew 31 = .ok (.iconst 0, 1) := by decide +kernel
theorem dX1_beNew_32 : decode cX1_beNew 32 = .ok (.putfield 31, 3) := by decide +kernel
theorem dX1_beNew_35 : decode cX1_beNew 35 = .ok (.aload_n 0, 1) := by decide +kernel
theorem dX1_beNew_36 : decode cX1_beNew 36 = .ok (.invokevirtual 34, 3) := by decide +kernel
theorem dX1_beNew_39 : decode cX1_beNew 39 = .ok (.return_, 1) := by decide +kernel
theorem dX1_becomeCopyOf_0 : decode cX1_becomeCopyOf 0 = .ok (.aload_n 0, 1) := by decide +kernel
theorem dX1_becomeCopyOf_1 : decode cX1_becomeCopyOf 1 = .ok (.aload_n 1, 1) := by decide +kernel
theorem dX1_becomeCopyOf_2 : decode cX1_becomeCopyOf 2 = .ok (.getfield 9, 3) := by decide +kernel
theorem dX1_becomeCopyOf_5 : decode cX1_becomeCopyOf 5 = .ok (.putfield 9, 3) := by decide +kernel
theorem dX1_becomeCopyOf_8 : decode cX1_becomeCopyOf 8 = .ok (.aload_n 0, 1) := by decide +kernel
theorem dX1_becomeCopyOf_9 : decode cX1_becomeCopyOf 9 = .ok (.aload_n 1, 1) := by decide +kernel
theorem dX1_becomeCopyOf_10 : decode cX1_becomeCopyOf 10 = .ok (.getfield 15, 3) := by decide +kernel
theorem dX1_becomeCopyOf_13 : decode cX1_becomeCopyOf 13 = .ok (.putfield 15, 3) := by decide +kernel
theorem dX1_becomeCopyOf_16 : decode cX1_becomeCopyOf 16 = .ok (.aload_n 0, 1) := by decide +kernel
theorem dX1_becomeCopyOf_17 : decode cX1_becomeCopyOf 17 = .ok (.aload_n 1, 1) := by decide +kernel
theorem dX1_becomeCopyOf_18 : decode cX1_becomeCopyOf 18 = .ok (.getfield 18, 3) := by decide +kernel
theorem dX1_becomeCopyOf_21 : decode cX1_becomeCopyOf 21 = .ok (.putfield 18, 3) := by decide +kernel
theorem dX1_becomeCopyOf_24 : decode cX1_becomeCopyOf 24 = .ok (.aload_n 0, 1) := by decide +kernel
theorem dX1_becomeCopyOf_25 : decode cX1_becomeCopyOf 25 = .ok (.aload_n 1, 1) := by decide +kernel
theorem dX1_becomeCopyOf_26 : decode cX1_becomeCopyOf 26 = .ok (.getfield 21, 3) := by decide +kernel
theorem dX1_becomeCopyOf_29 : decode cX1_becomeCopyOf 29 = .ok (.putfield 21, 3) := by decide +kernel
theorem dX1_becomeCopyOf_32 : decode cX1_becomeCopyOf 32 = .ok (.aload_n 0, 1) := by decide +kernel
theorem dX1_becomeCopyOf_33 : decode cX1_becomeCopyOf 33 = .ok (.aload_n 1, 1) := by decide +kernel
theorem dX1_becomeCopyOf_34 : decode cX1_becomeCopyOf 34 = .ok (.getfield 24, 3) := by decide +kernel
theorem dX1_becomeCopyOf_37 : decode cX1_becomeCopyOf 37 = .ok (.putfield 24, 3) := by decide +kernel
theorem dX1_becomeCopyOf_40 : decode cX1_becomeCopyOf 40 = .ok (.aload_n 0, 1) := by decide +kernel
theorem dX1_becomeCopyOf_41 : decode cX1_becomeCopyOf 41 = .ok (.aload_n 1, 1) := by decide +kernel
theorem dX1_becomeCopyOf_42 : decode cX1_becomeCopyOf 42 = .ok (.getfield 27, 3) := by decide +kernel
theorem dX1_becomeCopyOf_45 : decode cX1_becomeCopyOf 45 = .ok (.putfield 27, 3) := by decide +kernel
theorem dX1_becomeCopyOf_48 : decode cX1_becomeCopyOf 48 = .ok (.aload_n 0, 1) := by decide +kernel
theorem dX1_becomeCopyOf_49 : decode cX1_becomeCopyOf 49 = .ok (.aload_n 1, 1) := by decide +kernel
theorem dX1_becomeCopyOf_50 : decode cX1_becomeCopyOf 50 = .ok (.getfield 37, 3) := by decide +kernel
theorem dX1_becomeCopyOf_53 : decode cX1_becomeCopyOf 53 = .ok (.putfield 37, 3) := by decide +kernel
theorem dX1_becomeCopyOf_56 : decode cX1_becomeCopyOf 56 = .ok (.aload_n 0, 1) := by decide +kernel
theorem dX1_becomeCopyOf_57 : decode cX1_becomeCopyOf 57 = .ok (.aload_n 1, 1) := by decide +kernel
theorem dX1_becomeCopyOf_58 : decode cX1_becomeCopyOf 58 = .ok (.getfield 31, 3) := by decide +kernel
theorem dX1_becomeCopyOf_61 : decode cX1_becomeCopyOf 61 = .ok (.putfield 31, 3) := by decide +kernel
theorem dX1_becomeCopyOf_64 : decode cX1_becomeCopyOf 64 = .ok (.aload_n 0, 1) := by decide +kernel
theorem dX1_becomeCopyOf_65 : decode cX1_becomeCopyOf 65 = .ok (.aload_n 1, 1) := by decide +kernel
theorem dX1_becomeCopyOf_66 : decode cX1_becomeCopyOf 66 = .ok (.getfield 40, 3) := by decide +kernel
theorem dX1_becomeCopyOf_69 : decode cX1_becomeCopyOf 69 = .ok (.putfield 40, 3) := by decide +kernel
theorem dX1_becomeCopyOf_72 : decode cX1_becomeCopyOf 72 = .ok (.return_, 1) := by decide +kernel
theorem dX1_changePins_0 : decode cX1_changePins 0 = .ok (.aload_n 0, 1) := by decide +kernel
theorem dX1_changePins_1 : decode cX1_changePins 1 = .ok (.getfield 21, 3) := by decide +kernel
theorem dX1_changePins_4 : decode cX1_changePins 4 = .ok (.istore_n 2, 1) := by decide +kernel
theorem dX1_changePins_5 : decode cX1_changePins 5 = .ok (.aload_n 0, 1) := by decide +kernel
theorem dX1_changePins_6 : decode cX1_changePins 6 = .ok (.iload_n 1, 1) := by decide +kernel
theorem dX1_changePins_7 : decode cX1_changePins 7 = .ok (.aload_n 0, 1) := by decide +kernel
theorem dX1_changePins_8 : decode cX1_changePins 8 = .ok (.getfield 18, 3) := by decide +kernel
theorem dX1_changePins_11 : decode cX1_changePins 11 = .ok (.invokestatic 43, 3) := by decide +kernel
theorem dX1_changePins_14 : decode cX1_changePins 14 = .ok (.iand, 1) := by decide +kernel
theorem dX1_changePins_15 : decode cX1_changePins 15 = .ok (.putfield 21, 3) := by decide +kernel
theorem dX1_changePins_18 : decode cX1_changePins 18 = .ok (.iload_n 2, 1) := by decide +kernel
theorem dX1_changePins_19 : decode cX1_changePins 19 = .ok (.ireturn, 1) := by decide +kernel
theorem dX1_selectsCells_0 : decode cX1_selectsCells 0 = .ok (.aload_n 0, 1) := by decide +kernel
theorem dX1_selectsCells_1 : decode cX1_selectsCells 1 = .ok (.getfield 37, 3) := by decide +kernel
theorem dX1_selectsCells_4 : decode cX1_selectsCells 4 = .ok (.ifCond .eq 11, 3) := by decide +kernel
theorem dX1_selectsCells_7 : decode cX1_selectsCells 7 = .ok (.aload_n 0, 1) := by decide +kernel
theorem dX1_selectsCells_8 : decode cX1_selectsCells 8 = .ok (.getfield 37, 3) := by decide +kernel
theorem dX1_selectsCells_11 : decode cX1_selectsCells 11 = .ok (.iconst 2, 1) := by decide +kernel
theorem dX1_selectsCells_12 : decode cX1_selectsCells 12 = .ok (.if_icmp .ne 7, 3) := by decide +kernel
theorem dX1_selectsCells_15 : decode cX1_selectsCells 15 = .ok (.iconst 1, 1) := by decide +kernel
theorem dX1_selectsCells_16 : decode cX1_selectsCells 16 = .ok (.goto 4, 3) := by decide +kernel
theorem dX1_selectsCells_19 : decode cX1_selectsCells 19 = .ok (.iconst 0, 1) := by decide +kernel
theorem dX1_selectsCells_20 : decode cX1_selectsCells 20 = .ok (.ireturn, 1) := by decide +kernel
theorem dX1_selectsIdentity_0 : decode cX1_selectsIdentity 0 = .ok (.aload_n 0, 1) := by decide +kernel
theorem dX1_selectsIdentity_1 : decode cX1_selectsIdentity 1 = .ok (.getfield 37, 3) := by decide +kernel
theorem dX1_selectsIdentity_4 : decode cX1_selectsIdentity 4 = .ok (.iconst 1, 1) := by decide +kernel
theorem dX1_selectsIdentity_5 : decode cX1_selectsIdentity 5 = .ok (.if_icmp .ne 14, 3) := by decide +kernel
theorem dX1_selectsIdentity_8 : decode cX1_selectsIdentity 8 = .ok (.aload_n 0, 1) := by decide +kernel
theorem dX1_selectsIdentity_9 : decode cX1_selectsIdentity 9 = .ok (.getfield 15, 3) := by decide +kernel
theorem dX1_selectsIdentity_12 : decode cX1_selectsIdentity 12 = .ok (.ifCond .eq 7, 3) := by decide +kernel
theorem dX1_selectsIdentity_15 : decode cX1_selectsIdentity 15 = .ok (.iconst 1, 1) := by decide +kernel
theorem dX1_selectsIdentity_16 : decode cX1_selectsIdentity 16 = .ok (.goto 4, 3) := by decide +kernel
theorem dX1_selectsIdentity_19 : decode cX1_selectsIdentity 19 = .ok (.iconst 0, 1) := by decide +kernel
theorem dX1_selectsIdentity_20 : decode cX1_selectsIdentity 20 = .ok (.ireturn, 1) := by decide +kernel
theorem dX1_selectsBypass_0 : decode cX1_selectsBypass 0 = .ok (.aload_n 0, 1) := by decide +kernel
theorem dX1_selectsBypass_1 : decode cX1_selectsBypass 1 = .ok (.invokevirtual 47, 3) := by decide +kernel
theorem dX1_selectsBypass_4 : decode cX1_selectsBypass 4 = .ok (.ifCond .ne 14, 3) := by decide +kernel
theorem dX1_selectsBypass_7 : decode cX1_selectsBypass 7 = .ok (.aload_n 0, 1) := by decide +kernel
theorem dX1_selectsBypass_8 : decode cX1_selectsBypass 8 = .ok (.invokevirtual 51, 3) := by decide +kernel
theorem dX1_selectsBypass_11 : decode cX1_selectsBypass 11 = .ok (.ifCond .ne 7, 3) := by decide +kernel
theorem dX1_selectsBypass_14 : decode cX1_selectsBypass 14 = .ok (.iconst 1, 1) := by decide +kernel
theorem dX1_selectsBypass_15 : decode cX1_selectsBypass 15 = .ok (.goto 4, 3) := by decide +kernel
theorem dX1_selectsBypass_18 : decode cX1_selectsBypass 18 = .ok (.iconst 0, 1) := by decide +kernel
theorem dX1_selectsBypass_19 : decode cX1_selectsBypass 19 = .ok (.ireturn, 1) := by decide +kernel
theorem dX1_dataBits_0 : decode cX1_dataBits 0 = .ok (.aload_n 0, 1) := by decide +kernel
theorem dX1_dataBits_1 : decode cX1_dataBits 1 = .ok (.invokevirtual 47, 3) := by decide +kernel
theorem dX1_dataBits_4 : decode cX1_dataBits 4 = .ok (.ifCond .eq 8, 3) := by decide +kernel
theorem dX1_dataBits_7 : decode cX1_dataBits 7 = .ok (.aload_n 0, 1) := by decide +kernel
theorem dX1_dataBits_8 : decode cX1_dataBits 8 = .ok (.getfield 18, 3) := by decide +kernel
theorem dX1_dataBits_11 : decode cX1_dataBits 11 = .ok (.ireturn, 1) := by decide +kernel
theorem dX1_dataBits_12 : decode cX1_dataBits 12 = .ok (.aload_n 0, 1) := by decide +kernel
theorem dX1_dataBits_13 : decode cX1_dataBits 13 = .ok (.invokevirtual 51, 3) := by decide +kernel
theorem dX1_dataBits_16 : decode cX1_dataBits 16 = .ok (.ifCond .eq 8, 3) := by decide +kernel
theorem dX1_dataBits_19 : decode cX1_dataBits 19 = .ok (.bipush 8, 2) := by decide +kernel
theorem dX1_dataBits_21 : decode cX1_dataBits 21 = .ok (.goto 4, 3) := by decide +kernel
theorem dX1_dataBits_24 : decode cX1_dataBits 24 = .ok (.iconst 1, 1) := by decide +kernel
theorem dX1_dataBits_25 : decode cX1_dataBits 25 = .ok (.ireturn, 1) := by decide +kernel
theorem dX1_giveInstruction_0 : decode cX1_giveInstruction 0 = .ok (.aload_n 0, 1) := by decide +kernel
theorem dX1_giveInstruction_1 : decode cX1_giveInstruction 1 = .ok (.iload_n 1, 1) := by decide +kernel
theorem dX1_giveInstruction_2 : decode cX1_giveInstruction 2 = .ok (.putfield 37, 3) := by decide +kernel
theorem dX1_giveInstruction_5 : decode cX1_giveInstruction 5 = .ok (.aload_n 0, 1) := by decide +kernel
theorem dX1_giveInstruction_6 : decode cX1_giveInstruction 6 = .ok (.iconst 0, 1) := by decide +kernel
theorem dX1_giveInstruction_7 : decode cX1_giveInstruction 7 = .ok (.putfield 40, 3) := by decide +kernel
theorem dX1_giveInstruction_10 : decode cX1_giveInstruction 10 = .ok (.return_, 1) := by decide +kernel
theorem dX1_giveFirstInstruction_0 : decode cX1_giveFirstInstruction 0 = .ok (.aload_n 0, 1) := by decide +kernel
theorem dX1_giveFirstInstruction_1 : decode cX1_giveFirstInstruction 1 = .ok (.aload_n 0, 1) := by decide +kernel
theorem dX1_giveFirstInstruction_2 : decode cX1_giveFirstInstruction 2 = .ok (.getfield 15, 3) := by decide +kernel
theorem dX1_giveFirstInstruction_5 : decode cX1_giveFirstInstruction 5 = .ok (.ifCond .eq 7, 3) := by decide +kernel
theorem dX1_giveFirstInstruction_8 : decode cX1_giveFirstInstruction 8 = .ok (.iconst 1, 1) := by decide +kernel
theorem dX1_giveFirstInstruction_9 : decode cX1_giveFirstInstruction 9 = .ok (.goto 10, 3) := by decide +kernel
theorem dX1_giveFirstInstruction_12 : decode cX1_giveFirstInstruction 12 = .ok (.aload_n 0, 1) := by decide +kernel
theorem dX1_giveFirstInstruction_13 : decode cX1_giveFirstInstruction 13 = .ok (.getfield 9, 3) := by decide +kernel
theorem dX1_giveFirstInstruction_16 : decode cX1_giveFirstInstruction 16 = .ok (.invokestatic 43, 3) := by decide +kernel
theorem dX1_giveFirstInstruction_19 : decode cX1_giveFirstInstruction 19 = .ok (.invokevirtual 54, 3) := by decide +kernel
theorem dX1_giveFirstInstruction_22 : decode cX1_giveFirstInstruction 22 = .ok (.return_, 1) := by decide +kernel
theorem dX1_captureData_0 : decode cX1_captureData 0 = .ok (.aload_n 0, 1) := by decide +kernel
theorem dX1_captureData_1 : decode cX1_captureData 1 = .ok (.invokevirtual 47, 3) := by decide +kernel
theorem dX1_captureData_4 : decode cX1_captureData 4 = .ok (.ifCond .eq 14, 3) := by decide +kernel
theorem dX1_captureData_7 : decode cX1_captureData 7 = .ok (.aload_n 0, 1) := by decide +kernel
theorem dX1_captureData_8 : decode cX1_captureData 8 = .ok (.aload_n 0, 1) := by decide +kernel
theorem dX1_captureData_9 : decode cX1_captureData 9 = .ok (.getfield 21, 3) := by decide +kernel
theorem dX1_captureData_12 : decode cX1_captureData 12 = .ok (.putfield 40, 3) := by decide +kernel
theorem dX1_captureData_15 : decode cX1_captureData 15 = .ok (.goto 22, 3) := by decide +kernel
theorem dX1_captureData_18 : decode cX1_captureData 18 = .ok (.aload_n 0, 1) := by decide +kernel
theorem dX1_captureData_19 : decode cX1_captureData 19 = .ok (.aload_n 0, 1) := by decide +kernel
theorem dX1_captureData_20 : decode cX1_captureData 20 = .ok (.invokevirtual 51, 3) := by decide +kernel
theorem dX1_captureData_23 : decode cX1_captureData 23 = .ok (.ifCond .eq 10, 3) := by decide +kernel
theorem dX1_captureData_26 : decode cX1_captureData 26 = .ok (.aload_n 0, 1) := by decide +kernel
theorem dX1_captureData_27 : decode cX1_captureData 27 = .ok (.getfield 15, 3) := by decide +kernel
theorem dX1_captureData_30 : decode cX1_captureData 30 = .ok (.goto 4, 3) := by decide +kernel
theorem dX1_captureData_33 : decode cX1_captureData 33 = .ok (.iconst 0, 1) := by decide +kernel
theorem dX1_captureData_34 : decode cX1_captureData 34 = .ok (.putfield 40, 3) := by decide +kernel
theorem dX1_captureData_37 : decode cX1_captureData 37 = .ok (.return_, 1) := by decide +kernel
theorem dX1_updateData_0 : decode cX1_updateData 0 = .ok (.aload_n 0, 1) := by decide +kernel
theorem dX1_updateData_1 : decode cX1_updateData 1 = .ok (.getfield 37, 3) := by decide +kernel
theorem dX1_updateData_4 : decode cX1_updateData 4 = .ok (.ifCond .ne 11, 3) := by decide +kernel
theorem dX1_updateData_7 : decode cX1_updateData 7 = .ok (.aload_n 0, 1) := by decide +kernel
theorem dX1_updateData_8 : decode cX1_updateData 8 = .ok (.aload_n 0, 1) := by decide +kernel
theorem dX1_updateData_9 : decode cX1_updateData 9 = .ok (.getfield 40, 3) := by decide +kernel
theorem dX1_updateData_12 : decode cX1_updateData 12 = .ok (.putfield 24, 3) := by decide +kernel
theorem dX1_updateData_15 : decode cX1_updateData 15 = .ok (.return_, 1) := by decide +kernel
theorem dX1_dataOutput_0 : decode cX1_dataOutput 0 = .ok (.aload_n 0, 1) := by decide +kernel
theorem dX1_dataOutput_1 : decode cX1_dataOutput 1 = .ok (.getfield 27, 3) := by decide +kernel
theorem dX1_dataOutput_4 : decode cX1_dataOutput 4 = .ok (.ifCond .eq 7, 3) := by decide +kernel
theorem dX1_dataOutput_7 : decode cX1_dataOutput 7 = .ok (.iconst 1, 1) := by decide +kernel
theorem dX1_dataOutput_8 : decode cX1_dataOutput 8 = .ok (.goto 9, 3) := by decide +kernel
theorem dX1_dataOutput_11 : decode cX1_dataOutput 11 = .ok (.aload_n 0, 1) := by decide +kernel
theorem dX1_dataOutput_12 : decode cX1_dataOutput 12 = .ok (.getfield 40, 3) := by decide +kernel
theorem dX1_dataOutput_15 : decode cX1_dataOutput 15 = .ok (.iconst 1, 1) := by decide +kernel
theorem dX1_dataOutput_16 : decode cX1_dataOutput 16 = .ok (.iand, 1) := by decide +kernel
theorem dX1_dataOutput_17 : decode cX1_dataOutput 17 = .ok (.ireturn, 1) := by decide +kernel
theorem dX1_codeOutput_0 : decode cX1_codeOutput 0 = .ok (.aload_n 0, 1) := by decide +kernel
theorem dX1_codeOutput_1 : decode cX1_codeOutput 1 = .ok (.getfield 27, 3) := by decide +kernel
theorem dX1_codeOutput_4 : decode cX1_codeOutput 4 = .ok (.ifCond .eq 7, 3) := by decide +kernel
theorem dX1_codeOutput_7 : decode cX1_codeOutput 7 = .ok (.iconst 1, 1) := by decide +kernel
theorem dX1_codeOutput_8 : decode cX1_codeOutput 8 = .ok (.goto 9, 3) := by decide +kernel
theorem dX1_codeOutput_11 : decode cX1_codeOutput 11 = .ok (.aload_n 0, 1) := by decide +kernel
theorem dX1_codeOutput_12 : decode cX1_codeOutput 12 = .ok (.getfield 31, 3) := by decide +kernel
theorem dX1_codeOutput_15 : decode cX1_codeOutput 15 = .ok (.iconst 1, 1) := by decide +kernel
theorem dX1_codeOutput_16 : decode cX1_codeOutput 16 = .ok (.iand, 1) := by decide +kernel
theorem dX1_codeOutput_17 : decode cX1_codeOutput 17 = .ok (.ireturn, 1) := by decide +kernel
theorem dX1_shiftData_0 : decode cX1_shiftData 0 = .ok (.aload_n 0, 1) := by decide +kernel
theorem dX1_shiftData_1 : decode cX1_shiftData 1 = .ok (.aload_n 0, 1) := by decide +kernel
theorem dX1_shiftData_2 : decode cX1_shiftData 2 = .ok (.getfield 40, 3) := by decide +kernel
theorem dX1_shiftData_5 : decode cX1_shiftData 5 = .ok (.aload_n 0, 1) := by decide +kernel
theorem dX1_shiftData_6 : decode cX1_shiftData 6 = .ok (.invokevirtual 58, 3) := by decide +kernel
theorem dX1_shiftData_9 : decode cX1_shiftData 9 = .ok (.iload_n 1, 1) := by decide +kernel
theorem dX1_shiftData_10 : decode cX1_shiftData 10 = .ok (.invokestatic 62, 3) := by decide +kernel
theorem dX1_shiftData_13 : decode cX1_shiftData 13 = .ok (.putfield 40, 3) := by decide +kernel
theorem dX1_shiftData_16 : decode cX1_shiftData 16 = .ok (.return_, 1) := by decide +kernel
theorem dX1_shiftCode_0 : decode cX1_shiftCode 0 = .ok (.aload_n 0, 1) := by decide +kernel
theorem dX1_shiftCode_1 : decode cX1_shiftCode 1 = .ok (.aload_n 0, 1) := by decide +kernel
theorem dX1_shiftCode_2 : decode cX1_shiftCode 2 = .ok (.getfield 31, 3) := by decide +kernel
theorem dX1_shiftCode_5 : decode cX1_shiftCode 5 = .ok (.aload_n 0, 1) := by decide +kernel
theorem dX1_shiftCode_6 : decode cX1_shiftCode 6 = .ok (.getfield 9, 3) := by decide +kernel
theorem dX1_shiftCode_9 : decode cX1_shiftCode 9 = .ok (.iload_n 1, 1) := by decide +kernel
theorem dX1_shiftCode_10 : decode cX1_shiftCode 10 = .ok (.invokestatic 62, 3) := by decide +kernel
theorem dX1_shiftCode_13 : decode cX1_shiftCode 13 = .ok (.putfield 31, 3) := by decide +kernel
theorem dX1_shiftCode_16 : decode cX1_shiftCode 16 = .ok (.return_, 1) := by decide +kernel
theorem dX1_shifted_0 : decode cX1_shifted 0 = .ok (.iload_n 0, 1) := by decide +kernel
theorem dX1_shifted_1 : decode cX1_shifted 1 = .ok (.iconst 1, 1) := by decide +kernel
theorem dX1_shifted_2 : decode cX1_shifted 2 = .ok (.ishr, 1) := by decide +kernel
theorem dX1_shifted_3 : decode cX1_shifted 3 = .ok (.iload_n 2, 1) := by decide +kernel
theorem dX1_shifted_4 : decode cX1_shifted 4 = .ok (.iload_n 1, 1) := by decide +kernel
theorem dX1_shifted_5 : decode cX1_shifted 5 = .ok (.iconst 1, 1) := by decide +kernel
theorem dX1_shifted_6 : decode cX1_shifted 6 = .ok (.isub, 1) := by decide +kernel
theorem dX1_shifted_7 : decode cX1_shifted 7 = .ok (.ishl, 1) := by decide +kernel
theorem dX1_shifted_8 : decode cX1_shifted 8 = .ok (.ior, 1) := by decide +kernel
theorem dX1_shifted_9 : decode cX1_shifted 9 = .ok (.ireturn, 1) := by decide +kernel
theorem dX1_tell_0 : decode cX1_tell 0 = .ok (.iload_n 1, 1) := by decide +kernel
theorem dX1_tell_1 : decode cX1_tell 1 = .ok (.tableswitch 113 0 9 #[55, 60, 65, 70, 75, 80, 93, 98, 103, 108], 55) := by decide +kernel
theorem dX1_tell_56 : decode cX1_tell 56 = .ok (.aload_n 0, 1) := by decide +kernel
theorem dX1_tell_57 : decode cX1_tell 57 = .ok (.getfield 9, 3) := by decide +kernel
theorem dX1_tell_60 : decode cX1_tell 60 = .ok (.ireturn, 1) := by decide +kernel
theorem dX1_tell_61 : decode cX1_tell 61 = .ok (.aload_n 0, 1) := by decide +kernel
theorem dX1_tell_62 : decode cX1_tell 62 = .ok (.getfield 15, 3) := by decide +kernel
theorem dX1_tell_65 : decode cX1_tell 65 = .ok (.ireturn, 1) := by decide +kernel
theorem dX1_tell_66 : decode cX1_tell 66 = .ok (.aload_n 0, 1) := by decide +kernel
theorem dX1_tell_67 : decode cX1_tell 67 = .ok (.getfield 18, 3) := by decide +kernel
theorem dX1_tell_70 : decode cX1_tell 70 = .ok (.ireturn, 1) := by decide +kernel
theorem dX1_tell_71 : decode cX1_tell 71 = .ok (.aload_n 0, 1) := by decide +kernel
theorem dX1_tell_72 : decode cX1_tell 72 = .ok (.getfield 21, 3) := by decide +kernel
theorem dX1_tell_75 : decode cX1_tell 75 = .ok (.ireturn, 1) := by decide +kernel
theorem dX1_tell_76 : decode cX1_tell 76 = .ok (.aload_n 0, 1) := by decide +kernel
theorem dX1_tell_77 : decode cX1_tell 77 = .ok (.getfield 24, 3) := by decide +kernel
theorem dX1_tell_80 : decode cX1_tell 80 = .ok (.ireturn, 1) := by decide +kernel
theorem dX1_tell_81 : decode cX1_tell 81 = .ok (.aload_n 0, 1) := by decide +kernel
theorem dX1_tell_82 : decode cX1_tell 82 = .ok (.getfield 27, 3) := by decide +kernel
theorem dX1_tell_85 : decode cX1_tell 85 = .ok (.ifCond .eq 7, 3) := by decide +kernel
theorem dX1_tell_88 : decode cX1_tell 88 = .ok (.iconst 1, 1) := by decide +kernel
theorem dX1_tell_89 : decode cX1_tell 89 = .ok (.goto 4, 3) := by decide +kernel
theorem dX1_tell_92 : decode cX1_tell 92 = .ok (.iconst 0, 1) := by decide +kernel
theorem dX1_tell_93 : decode cX1_tell 93 = .ok (.ireturn, 1) := by decide +kernel
theorem dX1_tell_94 : decode cX1_tell 94 = .ok (.aload_n 0, 1) := by decide +kernel
theorem dX1_tell_95 : decode cX1_tell 95 = .ok (.getfield 37, 3) := by decide +kernel
theorem dX1_tell_98 : decode cX1_tell 98 = .ok (.ireturn, 1) := by decide +kernel
theorem dX1_tell_99 : decode cX1_tell 99 = .ok (.aload_n 0, 1) := by decide +kernel
theorem dX1_tell_100 : decode cX1_tell 100 = .ok (.getfield 31, 3) := by decide +kernel
theorem dX1_tell_103 : decode cX1_tell 103 = .ok (.ireturn, 1) := by decide +kernel
theorem dX1_tell_104 : decode cX1_tell 104 = .ok (.aload_n 0, 1) := by decide +kernel
theorem dX1_tell_105 : decode cX1_tell 105 = .ok (.getfield 40, 3) := by decide +kernel
theorem dX1_tell_108 : decode cX1_tell 108 = .ok (.ireturn, 1) := by decide +kernel
theorem dX1_tell_109 : decode cX1_tell 109 = .ok (.aload_n 0, 1) := by decide +kernel
theorem dX1_tell_110 : decode cX1_tell 110 = .ok (.invokevirtual 58, 3) := by decide +kernel
theorem dX1_tell_113 : decode cX1_tell 113 = .ok (.ireturn, 1) := by decide +kernel
theorem dX1_tell_114 : decode cX1_tell 114 = .ok (.bipush (-2), 2) := by decide +kernel
theorem dX1_tell_116 : decode cX1_tell 116 = .ok (.ireturn, 1) := by decide +kernel
theorem dX2_isState_0 : decode cX2_isState 0 = .ok (.iload_n 0, 1) := by decide +kernel
theorem dX2_isState_1 : decode cX2_isState 1 = .ok (.ifCond .lt 13, 3) := by decide +kernel
theorem dX2_isState_4 : decode cX2_isState 4 = .ok (.iload_n 0, 1) := by decide +kernel
theorem dX2_isState_5 : decode cX2_isState 5 = .ok (.bipush 16, 2) := by decide +kernel
theorem dX2_isState_7 : decode cX2_isState 7 = .ok (.if_icmp .ge 7, 3) := by decide +kernel
theorem dX2_isState_10 : decode cX2_isState 10 = .ok (.iconst 1, 1) := by decide +kernel
theorem dX2_isState_11 : decode cX2_isState 11 = .ok (.goto 4, 3) := by decide +kernel
theorem dX2_isState_14 : decode cX2_isState 14 = .ok (.iconst 0, 1) := by decide +kernel
theorem dX2_isState_15 : decode cX2_isState 15 = .ok (.ireturn, 1) := by decide +kernel
theorem dX2_next_0 : decode cX2_next 0 = .ok (.iload_n 0, 1) := by decide +kernel
theorem dX2_next_1 : decode cX2_next 1 = .ok (.invokestatic 9, 3) := by decide +kernel
theorem dX2_next_4 : decode cX2_next 4 = .ok (.ifCond .ne 5, 3) := by decide +kernel
theorem dX2_next_7 : decode cX2_next 7 = .ok (.iconst 0, 1) := by decide +kernel
theorem dX2_next_8 : decode cX2_next 8 = .ok (.ireturn, 1) := by decide +kernel
theorem dX2_next_9 : decode cX2_next 9 = .ok (.iload_n 1, 1) := by decide +kernel
theorem dX2_next_10 : decode cX2_next 10 = .ok (.ifCond .ne 11, 3) := by decide +kernel
theorem dX2_next_13 : decode cX2_next 13 = .ok (.getstatic 13, 3) := by decide +kernel
theorem dX2_next_16 : decode cX2_next 16 = .ok (.iload_n 0, 1) := by decide +kernel
theorem dX2_next_17 : decode cX2_next 17 = .ok (.iaload, 1) := by decide +kernel
theorem dX2_next_18 : decode cX2_next 18 = .ok (.goto 8, 3) := by decide +kernel
theorem dX2_next_21 : decode cX2_next 21 = .ok (.getstatic 17, 3) := by decide +kernel
theorem dX2_next_24 : decode cX2_next 24 = .ok (.iload_n 0, 1) := by decide +kernel
theorem dX2_next_25 : decode cX2_next 25 = .ok (.iaload, 1) := by decide +kernel
theorem dX2_next_26 : decode cX2_next 26 = .ok (.ireturn, 1) := by decide +kernel
theorem dX2_clocksBetween_0 : decode cX2_clocksBetween 0 = .ok (.iconst 1, 1) := by decide +kernel
theorem dX2_clocksBetween_1 : decode cX2_clocksBetween 1 = .ok (.iload_n 0, 1) := by decide +kernel
theorem dX2_clocksBetween_2 : decode cX2_clocksBetween 2 = .ok (.ishl, 1) := by decide +kernel
theorem dX2_clocksBetween_3 : decode cX2_clocksBetween 3 = .ok (.istore_n 2, 1) := by decide +kernel
theorem dX2_clocksBetween_4 : decode cX2_clocksBetween 4 = .ok (.iconst 0, 1) := by decide +kernel
theorem dX2_clocksBetween_5 : decode cX2_clocksBetween 5 = .ok (.istore_n 3, 1) := by decide +kernel
theorem dX2_clocksBetween_6 : decode cX2_clocksBetween 6 = .ok (.iload_n 3, 1) := by decide +kernel
theorem dX2_clocksBetween_7 : decode cX2_clocksBetween 7 = .ok (.bipush 16, 2) := by decide +kernel
theorem dX2_clocksBetween_9 : decode cX2_clocksBetween 9 = .ok (.if_icmp .ge 22, 3) := by decide +kernel
theorem dX2_clocksBetween_12 : decode cX2_clocksBetween 12 = .ok (.iload_n 2, 1) := by decide +kernel
theorem dX2_clocksBetween_13 : decode cX2_clocksBetween 13 = .ok (.iload_n 1, 1) := by decide +kernel
theorem dX2_clocksBetween_14 : decode cX2_clocksBetween 14 = .ok (.ishr, 1) := by decide +kernel
theorem dX2_clocksBetween_15 : decode cX2_clocksBetween 15 = .ok (.iconst 1, 1) := by decide +kernel
theorem dX2_clocksBetween_16 : decode cX2_clocksBetween 16 = .ok (.iand, 1) := by decide +kernel
theorem dX2_clocksBetween_17 : decode cX2_clocksBetween 17 = .ok (.ifCond .ne 14, 3) := by decide +kernel
theorem dX2_clocksBetween_20 : decode cX2_clocksBetween 20 = .ok (.iload_n 2, 1) := by decide +kernel
theorem dX2_clocksBetween_21 : decode cX2_clocksBetween 21 = .ok (.invokestatic 20, 3) := by decide +kernel
theorem dX2_clocksBetween_24 : decode cX2_clocksBetween 24 = .ok (.istore_n 2, 1) := by decide +kernel
theorem dX2_clocksBetween_25 : decode cX2_clocksBetween 25 = .ok (.iinc 3 1, 3) := by decide +kernel
theorem dX2_clocksBetween_28 : decode cX2_clocksBetween 28 = .ok (.goto (-22), 3) := by decide +kernel
theorem dX2_clocksBetween_31 : decode cX2_clocksBetween 31 = .ok (.iload_n 3, 1) := by decide +kernel
theorem dX2_clocksBetween_32 : decode cX2_clocksBetween 32 = .ok (.ireturn, 1) := by decide +kernel
theorem dX2_nextOfAll_0 : decode cX2_nextOfAll 0 = .ok (.iconst 0, 1) := by decide +kernel
theorem dX2_nextOfAll_1 : decode cX2_nextOfAll 1 = .ok (.istore_n 1, 1) := by decide +kernel
theorem dX2_nextOfAll_2 : decode cX2_nextOfAll 2 = .ok (.iconst 0, 1) := by decide +kernel
theorem dX2_nextOfAll_3 : decode cX2_nextOfAll 3 = .ok (.istore_n 2, 1) := by decide +kernel
theorem dX2_nextOfAll_4 : decode cX2_nextOfAll 4 = .ok (.iload_n 2, 1) := by decide +kernel
theorem dX2_nextOfAll_5 : decode cX2_nextOfAll 5 = .ok (.bipush 16, 2) := by decide +kernel
theorem dX2_nextOfAll_7 : decode cX2_nextOfAll 7 = .ok (.if_icmp .ge 36, 3) := by decide +kernel
theorem dX2_nextOfAll_10 : decode cX2_nextOfAll 10 = .ok (.iload_n 0, 1) := by decide +kernel
theorem dX2_nextOfAll_11 : decode cX2_nextOfAll 11 = .ok (.iload_n 2, 1) := by decide +kernel
theorem dX2_nextOfAll_12 : decode cX2_nextOfAll 12 = .ok (.ishr, 1) := by decide +kernel
theorem dX2_nextOfAll_13 : decode cX2_nextOfAll 13 = .ok (.iconst 1, 1) := by decide +kernel
theorem dX2_nextOfAll_14 : decode cX2_nextOfAll 14 = .ok (.iand, 1) := by decide +kernel
theorem dX2_nextOfAll_15 : decode cX2_nextOfAll 15 = .ok (.iconst 1, 1) := by decide +kernel
theorem dX2_nextOfAll_16 : decode cX2_nextOfAll 16 = .ok (.if_icmp .ne 21, 3) := by decide +kernel
theorem dX2_nextOfAll_19 : decode cX2_nextOfAll 19 = .ok (.iload_n 1, 1) := by decide +kernel
theorem dX2_nextOfAll_20 : decode cX2_nextOfAll 20 = .ok (.iconst 1, 1) := by decide +kernel
theorem dX2_nextOfAll_21 : decode cX2_nextOfAll 21 = .ok (.iload_n 2, 1) := by decide +kernel
theorem dX2_nextOfAll_22 : decode cX2_nextOfAll 22 = .ok (.iconst 0, 1) := by decide +kernel
theorem dX2_nextOfAll_23 : decode cX2_nextOfAll 23 = .ok (.invokestatic 24, 3) := by decide +kernel
theorem dX2_nextOfAll_26 : decode cX2_nextOfAll 26 = .ok (.ishl, 1) := by decide +kernel
theorem dX2_nextOfAll_27 : decode cX2_nextOfAll 27 = .ok (.iconst 1, 1) := by decide +kernel
theorem dX2_nextOfAll_28 : decode cX2_nextOfAll 28 = .ok (.iload_n 2, 1) := by decide +kernel
theorem dX2_nextOfAll_29 : decode cX2_nextOfAll 29 = .ok (.iconst 1, 1) := by decide +kernel
theorem dX2_nextOfAll_30 : decode cX2_nextOfAll 30 = .ok (.invokestatic 24, 3) := by decide +kernel
theorem dX2_nextOfAll_33 : decode cX2_nextOfAll 33 = .ok (.ishl, 1) := by decide +kernel
theorem dX2_nextOfAll_34 : decode cX2_nextOfAll 34 = .ok (.ior, 1) := by decide +kernel
theorem dX2_nextOfAll_35 : decode cX2_nextOfAll 35 = .ok (.ior, 1) := by decide +kernel
theorem dX2_nextOfAll_36 : decode cX2_nextOfAll 36 = .ok (.istore_n 1, 1) := by decide +kernel
theorem dX2_nextOfAll_37 : decode cX2_nextOfAll 37 = .ok (.iinc 2 1, 3) := by decide +kernel
theorem dX2_nextOfAll_40 : decode cX2_nextOfAll 40 = .ok (.goto (-36), 3) := by decide +kernel
theorem dX2_nextOfAll_43 : decode cX2_nextOfAll 43 = .ok (.iload_n 1, 1) := by decide +kernel
theorem dX2_nextOfAll_44 : decode cX2_nextOfAll 44 = .ok (.ireturn, 1) := by decide +kernel
theorem dX3_init_0 : decode cX3_init 0 = .ok (.aload_n 0, 1) := by decide +kernel
theorem dX3_init_1 : decode cX3_init 1 = .ok (.invokespecial 3, 3) := by decide +kernel
theorem dX3_init_4 : decode cX3_init 4 = .ok (.aload_n 0, 1) := by decide +kernel
theorem dX3_init_5 : decode cX3_init 5 = .ok (.iconst 4, 1) := by decide +kernel
theorem dX3_init_6 : decode cX3_init 6 = .ok (.anewarray 9, 3) := by decide +kernel
theorem dX3_init_9 : decode cX3_init 9 = .ok (.putfield 11, 3) := by decide +kernel
theorem dX3_init_12 : decode cX3_init 12 = .ok (.iconst 0, 1) := by decide +kernel
theorem dX3_init_13 : decode cX3_init 13 = .ok (.istore_n 1, 1) := by decide +kernel
theorem dX3_init_14 : decode cX3_init 14 = .ok (.iload_n 1, 1) := by decide +kernel
theorem dX3_init_15 : decode cX3_init 15 = .ok (.aload_n 0, 1) := by decide +kernel
theorem dX3_init_16 : decode cX3_init 16 = .ok (.getfield 11, 3) := by decide +kernel
theorem dX3_init_19 : decode cX3_init 19 = .ok (.arraylength, 1) := by decide +kernel
theorem dX3_init_20 : decode cX3_init 20 = .ok (.if_icmp .ge 22, 3) := by decide +kernel
theorem dX3_init_23 : decode cX3_init 23 = .ok (.aload_n 0, 1) := by decide +kernel
theorem dX3_init_24 : decode cX3_init 24 = .ok (.getfield 11, 3) := by decide +kernel
theorem dX3_init_27 : decode cX3_init 27 = .ok (.iload_n 1, 1) := by decide +kernel
theorem dX3_init_28 : decode cX3_init 28 = .ok (.new 9, 3) := by decide +kernel
theorem dX3_init_31 : decode cX3_init 31 = .ok (.dup, 1) := by decide +kernel
theorem dX3_init_32 : decode cX3_init 32 = .ok (.invokespecial 17, 3) := by decide +kernel
theorem dX3_init_35 : decode cX3_init 35 = .ok (.aastore, 1) := by decide +kernel
theorem dX3_init_36 : decode cX3_init 36 = .ok (.iinc 1 1, 3) := by decide +kernel
theorem dX3_init_39 : decode cX3_init 39 = .ok (.goto (-25), 3) := by decide +kernel
theorem dX3_init_42 : decode cX3_init 42 = .ok (.aload_n 0, 1) := by decide +kernel
theorem dX3_init_43 : decode cX3_init 43 = .ok (.iconst 0, 1) := by decide +kernel
theorem dX3_init_44 : decode cX3_init 44 = .ok (.putfield 18, 3) := by decide +kernel
theorem dX3_init_47 : decode cX3_init 47 = .ok (.return_, 1) := by decide +kernel
theorem dX3_record_0 : decode cX3_record 0 = .ok (.aload_n 0, 1) := by decide +kernel
theorem dX3_record_1 : decode cX3_record 1 = .ok (.getfield 18, 3) := by decide +kernel
theorem dX3_record_4 : decode cX3_record 4 = .ok (.aload_n 0, 1) := by decide +kernel
theorem dX3_record_5 : decode cX3_record 5 = .ok (.getfield 11, 3) := by decide +kernel
theorem dX3_record_8 : decode cX3_record 8 = .ok (.arraylength, 1) := by decide +kernel
theorem dX3_record_9 : decode cX3_record 9 = .ok (.if_icmp .lt 7, 3) := by decide +kernel
theorem dX3_record_12 : decode cX3_record 12 = .ok (.aload_n 0, 1) := by decide +kernel
theorem dX3_record_13 : decode cX3_record 13 = .ok (.invokevirtual 22, 3) := by decide +kernel
theorem dX3_record_16 : decode cX3_record 16 = .ok (.aload_n 0, 1) := by decide +kernel
theorem dX3_record_17 : decode cX3_record 17 = .ok (.getfield 11, 3) := by decide +kernel
theorem dX3_record_20 : decode cX3_record 20 = .ok (.aload_n 0, 1) := by decide +kernel
theorem dX3_record_21 : decode cX3_record 21 = .ok (.getfield 18, 3) := by decide +kernel
theorem dX3_record_24 : decode cX3_record 24 = .ok (.aaload, 1) := by decide +kernel
theorem dX3_record_25 : decode cX3_record 25 = .ok (.aload_n 1, 1) := by decide +kernel
theorem dX3_record_26 : decode cX3_record 26 = .ok (.invokevirtual 25, 3) := by decide +kernel
theorem dX3_record_29 : decode cX3_record 29 = .ok (.aload_n 0, 1) := by decide +kernel
theorem dX3_record_30 : decode cX3_record 30 = .ok (.dup, 1) := by decide +kernel
theorem dX3_record_31 : decode cX3_record 31 = .ok (.getfield 18, 3) := by decide +kernel
theorem dX3_record_34 : decode cX3_record 34 = .ok (.iconst 1, 1) := by decide +kernel
theorem dX3_record_35 : decode cX3_record 35 = .ok (.iadd, 1) := by decide +kernel
theorem dX3_record_36 : decode cX3_record 36 = .ok (.putfield 18, 3) := by decide +kernel
theorem dX3_record_39 : decode cX3_record 39 = .ok (.return_, 1) := by decide +kernel
theorem dX3_dropOldest_0 : decode cX3_dropOldest 0 = .ok (.aload_n 0, 1) := by decide +kernel
theorem dX3_dropOldest_1 : decode cX3_dropOldest 1 = .ok (.getfield 11, 3) := by decide +kernel
theorem dX3_dropOldest_4 : decode cX3_dropOldest 4 = .ok (.iconst 0, 1) := by decide +kernel
theorem dX3_dropOldest_5 : decode cX3_dropOldest 5 = .ok (.aaload, 1) := by decide +kernel
theorem dX3_dropOldest_6 : decode cX3_dropOldest 6 = .ok (.astore_n 1, 1) := by decide +kernel
theorem dX3_dropOldest_7 : decode cX3_dropOldest 7 = .ok (.iconst 1, 1) := by decide +kernel
theorem dX3_dropOldest_8 : decode cX3_dropOldest 8 = .ok (.istore_n 2, 1) := by decide +kernel
theorem dX3_dropOldest_9 : decode cX3_dropOldest 9 = .ok (.iload_n 2, 1) := by decide +kernel
theorem dX3_dropOldest_10 : decode cX3_dropOldest 10 = .ok (.aload_n 0, 1) := by decide +kernel
theorem dX3_dropOldest_11 : decode cX3_dropOldest 11 = .ok (.getfield 11, 3) := by decide +kernel
theorem dX3_dropOldest_14 : decode cX3_dropOldest 14 = .ok (.arraylength, 1) := by decide +kernel
theorem dX3_dropOldest_15 : decode cX3_dropOldest 15 = .ok (.if_icmp .ge 23, 3) := by decide +kernel
theorem dX3_dropOldest_18 : decode cX3_dropOldest 18 = .ok (.aload_n 0, 1) := by decide +kernel
theorem dX3_dropOldest_19 : decode cX3_dropOldest 19 = .ok (.getfield 11, 3) := by decide +kernel
theorem dX3_dropOldest_22 : decode cX3_dropOldest 22 = .ok (.iload_n 2, 1) := by decide +kernel
theorem dX3_dropOldest_23 : decode cX3_dropOldest 23 = .ok (.iconst 1, 1) := by decide +kernel
theorem dX3_dropOldest_24 : decode cX3_dropOldest 24 = .ok (.isub, 1) := by decide +kernel
theorem dX3_dropOldest_25 : decode cX3_dropOldest 25 = .ok (.aload_n 0, 1) := by decide +kernel
theorem dX3_dropOldest_26 : decode cX3_dropOldest 26 = .ok (.getfield 11, 3) := by decide +kernel
theorem dX3_dropOldest_29 : decode cX3_dropOldest 29 = .ok (.iload_n 2, 1) := by decide +kernel
theorem dX3_dropOldest_30 : decode cX3_dropOldest 30 = .ok (.aaload, 1) := by decide +kernel
theorem dX3_dropOldest_31 : decode cX3_dropOldest 31 = .ok (.aastore, 1) := by decide +kernel
theorem dX3_dropOldest_32 : decode cX3_dropOldest 32 = .ok (.iinc 2 1, 3) := by decide +kernel
theorem dX3_dropOldest_35 : decode cX3_dropOldest 35 = .ok (.goto (-26), 3) := by decide +kernel
theorem dX3_dropOldest_38 : decode cX3_dropOldest 38 = .ok (.aload_n 0, 1) := by decide +kernel
theorem dX3_dropOldest_39 : decode cX3_dropOldest 39 = .ok (.getfield 11, 3) := by decide +kernel
theorem dX3_dropOldest_42 : decode cX3_dropOldest 42 = .ok (.aload_n 0, 1) := by decide +kernel
theorem dX3_dropOldest_43 : decode cX3_dropOldest 43 = .ok (.getfield 11, 3) := by decide +kernel
theorem dX3_dropOldest_46 : decode cX3_dropOldest 46 = .ok (.arraylength, 1) := by decide +kernel
theorem dX3_dropOldest_47 : decode cX3_dropOldest 47 = .ok (.iconst 1, 1) := by decide +kernel
theorem dX3_dropOldest_48 : decode cX3_dropOldest 48 = .ok (.isub, 1) := by decide +kernel
theorem dX3_dropOldest_49 : decode cX3_dropOldest 49 = .ok (.aload_n 1, 1) := by decide +kernel
theorem dX3_dropOldest_50 : decode cX3_dropOldest 50 = .ok (.aastore, 1) := by decide +kernel
theorem dX3_dropOldest_51 : decode cX3_dropOldest 51 = .ok (.aload_n 0, 1) := by decide +kernel
theorem dX3_dropOldest_52 : decode cX3_dropOldest 52 = .ok (.aload_n 0, 1) := by decide +kernel
theorem dX3_dropOldest_53 : decode cX3_dropOldest 53 = .ok (.getfield 11, 3) := by decide +kernel
theorem dX3_dropOldest_56 : decode cX3_dropOldest 56 = .ok (.arraylength, 1) := by decide +kernel
theorem dX3_dropOldest_57 : decode cX3_dropOldest 57 = .ok (.iconst 1, 1) := by decide +kernel
theorem dX3_dropOldest_58 : decode cX3_dropOldest 58 = .ok (.isub, 1) := by decide +kernel
theorem dX3_dropOldest_59 : decode cX3_dropOldest 59 = .ok (.putfield 18, 3) := by decide +kernel
theorem dX3_dropOldest_62 : decode cX3_dropOldest 62 = .ok (.return_, 1) := by decide +kernel
theorem dX3_takeBack_0 : decode cX3_takeBack 0 = .ok (.aload_n 0, 1) := by decide +kernel
theorem dX3_takeBack_1 : decode cX3_takeBack 1 = .ok (.getfield 18, 3) := by decide +kernel
theorem dX3_takeBack_4 : decode cX3_takeBack 4 = .ok (.ifCond .gt 6, 3) := by decide +kernel
theorem dX3_takeBack_7 : decode cX3_takeBack 7 = .ok (.bipush (-4), 2) := by decide +kernel
theorem dX3_takeBack_9 : decode cX3_takeBack 9 = .ok (.ireturn, 1) := by decide +kernel
theorem dX3_takeBack_10 : decode cX3_takeBack 10 = .ok (.aload_n 0, 1) := by decide +kernel
theorem dX3_takeBack_11 : decode cX3_takeBack 11 = .ok (.dup, 1) := by decide +kernel
theorem dX3_takeBack_12 : decode cX3_takeBack 12 = .ok (.getfield 18, 3) := by decide +kernel
theorem dX3_takeBack_15 : decode cX3_takeBack 15 = .ok (.iconst 1, 1) := by decide +kernel
theorem dX3_takeBack_16 : decode cX3_takeBack 16 = .ok (.isub, 1) := by decide +kernel
theorem dX3_takeBack_17 : decode cX3_takeBack 17 = .ok (.putfield 18, 3) := by decide +kernel
theorem dX3_takeBack_20 : decode cX3_takeBack 20 = .ok (.aload_n 1, 1) := by decide +kernel
theorem dX3_takeBack_21 : decode cX3_takeBack 21 = .ok (.aload_n 0, 1) := by decide +kernel
theorem dX3_takeBack_22 : decode cX3_takeBack 22 = .ok (.getfield 11, 3) := by decide +kernel
theorem dX3_takeBack_25 : decode cX3_takeBack 25 = .ok (.aload_n 0, 1) := by decide +kernel
theorem dX3_takeBack_26 : decode cX3_takeBack 26 = .ok (.getfield 18, 3) := by decide +kernel
theorem dX3_takeBack_29 : decode cX3_takeBack 29 = .ok (.aaload, 1) := by decide +kernel
theorem dX3_takeBack_30 : decode cX3_takeBack 30 = .ok (.invokevirtual 25, 3) := by decide +kernel
theorem dX3_takeBack_33 : decode cX3_takeBack 33 = .ok (.aload_n 0, 1) := by decide +kernel
theorem dX3_takeBack_34 : decode cX3_takeBack 34 = .ok (.getfield 18, 3) := by decide +kernel
theorem dX3_takeBack_37 : decode cX3_takeBack 37 = .ok (.ireturn, 1) := by decide +kernel
theorem dX4_goTo_0 : decode cX4_goTo 0 = .ok (.aload_n 0, 1) := by decide +kernel
theorem dX4_goTo_1 : decode cX4_goTo 1 = .ok (.getfield 9, 3) := by decide +kernel
theorem dX4_goTo_4 : decode cX4_goTo 4 = .ok (.iload_n 1, 1) := by decide +kernel
theorem dX4_goTo_5 : decode cX4_goTo 5 = .ok (.invokestatic 15, 3) := by decide +kernel
theorem dX4_goTo_8 : decode cX4_goTo 8 = .ok (.istore_n 2, 1) := by decide +kernel
theorem dX4_goTo_9 : decode cX4_goTo 9 = .ok (.iload_n 2, 1) := by decide +kernel
theorem dX4_goTo_10 : decode cX4_goTo 10 = .ok (.iconst 1, 1) := by decide +kernel
theorem dX4_goTo_11 : decode cX4_goTo 11 = .ok (.isub, 1) := by decide +kernel
theorem dX4_goTo_12 : decode cX4_goTo 12 = .ok (.istore_n 3, 1) := by decide +kernel
theorem dX4_goTo_13 : decode cX4_goTo 13 = .ok (.iload_n 3, 1) := by decide +kernel
theorem dX4_goTo_14 : decode cX4_goTo 14 = .ok (.ifCond .lt 44, 3) := by decide +kernel
theorem dX4_goTo_17 : decode cX4_goTo 17 = .ok (.aload_n 0, 1) := by decide +kernel
theorem dX4_goTo_18 : decode cX4_goTo 18 = .ok (.getfield 9, 3) := by decide +kernel
theorem dX4_goTo_21 : decode cX4_goTo 21 = .ok (.iconst 0, 1) := by decide +kernel
theorem dX4_goTo_22 : decode cX4_goTo 22 = .ok (.invokestatic 21, 3) := by decide +kernel
theorem dX4_goTo_25 : decode cX4_goTo 25 = .ok (.istore 4, 2) := by decide +kernel
theorem dX4_goTo_27 : decode cX4_goTo 27 = .ok (.iload 4, 2) := by decide +kernel
theorem dX4_goTo_29 : decode cX4_goTo 29 = .ok (.iload_n 1, 1) := by decide +kernel
theorem dX4_goTo_30 : decode cX4_goTo 30 = .ok (.invokestatic 15, 3) := by decide +kernel
theorem dX4_goTo_33 : decode cX4_goTo 33 = .ok (.iload_n 3, 1) := by decide +kernel
theorem dX4_goTo_34 : decode cX4_goTo 34 = .ok (.if_icmp .ne 7, 3) := by decide +kernel
theorem dX4_goTo_37 : decode cX4_goTo 37 = .ok (.iconst 0, 1) := by decide +kernel
theorem dX4_goTo_38 : decode cX4_goTo 38 = .ok (.goto 4, 3) := by decide +kernel
theorem dX4_goTo_41 : decode cX4_goTo 41 = .ok (.iconst 1, 1) := by decide +kernel
theorem dX4_goTo_42 : decode cX4_goTo 42 = .ok (.istore 5, 2) := by decide +kernel
theorem dX4_goTo_44 : decode cX4_goTo 44 = .ok (.aload_n 0, 1) := by decide +kernel
theorem dX4_goTo_45 : decode cX4_goTo 45 = .ok (.iload 5, 2) := by decide +kernel
theorem dX4_goTo_47 : decode cX4_goTo 47 = .ok (.iconst 1, 1) := by decide +kernel
theorem dX4_goTo_48 : decode cX4_goTo 48 = .ok (.invokevirtual 24, 3) := by decide +kernel
theorem dX4_goTo_51 : decode cX4_goTo 51 = .ok (.pop, 1) := by decide +kernel
theorem dX4_goTo_52 : decode cX4_goTo 52 = .ok (.iinc 3 (-1), 3) := by decide +kernel
theorem dX4_goTo_55 : decode cX4_goTo 55 = .ok (.goto (-42), 3) := by decide +kernel
theorem dX4_goTo_58 : decode cX4_goTo 58 = .ok (.iload_n 2, 1) := by decide +kernel
theorem dX4_goTo_59 : decode cX4_goTo 59 = .ok (.ireturn, 1) := by decide +kernel
theorem dX4_readIdentities_0 : decode cX4_readIdentities 0 = .ok (.iconst 0, 1) := by decide +kernel
theorem dX4_readIdentities_1 : decode cX4_readIdentities 1 = .ok (.istore_n 1, 1) := by decide +kernel
theorem dX4_readIdentities_2 : decode cX4_readIdentities 2 = .ok (.iload_n 1, 1) := by decide +kernel
theorem dX4_readIdentities_3 : decode cX4_readIdentities 3 = .ok (.iconst 5, 1) := by decide +kernel
theorem dX4_readIdentities_4 : decode cX4_readIdentities 4 = .ok (.if_icmp .ge 16, 3) := by decide +kernel
theorem dX4_readIdentities_7 : decode cX4_readIdentities 7 = .ok (.aload_n 0, 1) := by decide +kernel
theorem dX4_readIdentities_8 : decode cX4_readIdentities 8 = .ok (.iconst 1, 1) := by decide +kernel
theorem dX4_readIdentities_9 : decode cX4_readIdentities 9 = .ok (.iconst 1, 1) := by decide +kernel
theorem dX4_readIdentities_10 : decode cX4_readIdentities 10 = .ok (.invokevirtual 24, 3) := by decide +kernel
theorem dX4_readIdentities_13 : decode cX4_readIdentities 13 = .ok (.pop, 1) := by decide +kernel
theorem dX4_readIdentities_14 : decode cX4_readIdentities 14 = .ok (.iinc 1 1, 3) := by decide +kernel
theorem dX4_readIdentities_17 : decode cX4_readIdentities 17 = .ok (.goto (-15), 3) := by decide +kernel
theorem dX4_readIdentities_20 : decode cX4_readIdentities 20 = .ok (.aload_n 0, 1) := by decide +kernel
theorem dX4_readIdentities_21 : decode cX4_readIdentities 21 = .ok (.iconst 4, 1) := by decide +kernel
theorem dX4_readIdentities_22 : decode cX4_readIdentities 22 = .ok (.invokestatic 29, 3) := by decide +kernel
theorem dX4_readIdentities_25 : decode cX4_readIdentities 25 = .ok (.pop, 1) := by decide +kernel
theorem dX4_readIdentities_26 : decode cX4_readIdentities 26 = .ok (.aload_n 0, 1) := by decide +kernel
theorem dX4_readIdentities_27 : decode cX4_readIdentities 27 = .ok (.invokevirtual 33, 3) := by decide +kernel
theorem dX4_readIdentities_30 : decode cX4_readIdentities 30 = .ok (.iconst 0, 1) := by decide +kernel
theorem dX4_readIdentities_31 : decode cX4_readIdentities 31 = .ok (.istore_n 1, 1) := by decide +kernel
theorem dX4_readIdentities_32 : decode cX4_readIdentities 32 = .ok (.iload_n 1, 1) := by decide +kernel
theorem dX4_readIdentities_33 : decode cX4_readIdentities 33 = .ok (.bipush 8, 2) := by decide +kernel
theorem dX4_readIdentities_35 : decode cX4_readIdentities 35 = .ok (.if_icmp .ge 29, 3) := by decide +kernel
theorem dX4_readIdentities_38 : decode cX4_readIdentities 38 = .ok (.aload_n 0, 1) := by decide +kernel
theorem dX4_readIdentities_39 : decode cX4_readIdentities 39 = .ok (.invokestatic 36, 3) := by decide +kernel
theorem dX4_readIdentities_42 : decode cX4_readIdentities 42 = .ok (.istore_n 2, 1) := by decide +kernel
theorem dX4_readIdentities_43 : decode cX4_readIdentities 43 = .ok (.iload_n 2, 1) := by decide +kernel
theorem dX4_readIdentities_44 : decode cX4_readIdentities 44 = .ok (.sipush 255, 3) := by decide +kernel
theorem dX4_readIdentities_47 : decode cX4_readIdentities 47 = .ok (.if_icmp .ne 6, 3) := by decide +kernel
theorem dX4_readIdentities_50 : decode cX4_readIdentities 50 = .ok (.goto 14, 3) := by decide +kernel
theorem dX4_readIdentities_53 : decode cX4_readIdentities 53 = .ok (.aload_n 0, 1) := by decide +kernel
theorem dX4_readIdentities_54 : decode cX4_readIdentities 54 = .ok (.iload_n 2, 1) := by decide +kernel
theorem dX4_readIdentities_55 : decode cX4_readIdentities 55 = .ok (.invokevirtual 40, 3) := by decide +kernel
theorem dX4_readIdentities_58 : decode cX4_readIdentities 58 = .ok (.iinc 1 1, 3) := by decide +kernel
theorem dX4_readIdentities_61 : decode cX4_readIdentities 61 = .ok (.goto (-29), 3) := by decide +kernel
theorem dX4_readIdentities_64 : decode cX4_readIdentities 64 = .ok (.aload_n 0, 1) := by decide +kernel
theorem dX4_readIdentities_65 : decode cX4_readIdentities 65 = .ok (.iconst 1, 1) := by decide +kernel
theorem dX4_readIdentities_66 : decode cX4_readIdentities 66 = .ok (.invokestatic 29, 3) := by decide +kernel
theorem dX4_readIdentities_69 : decode cX4_readIdentities 69 = .ok (.pop, 1) := by decide +kernel
theorem dX4_readIdentities_70 : decode cX4_readIdentities 70 = .ok (.aload_n 0, 1) := by decide +kernel
theorem dX4_readIdentities_71 : decode cX4_readIdentities 71 = .ok (.getfield 44, 3) := by decide +kernel
theorem dX4_readIdentities_74 : decode cX4_readIdentities 74 = .ok (.ireturn, 1) := by decide +kernel
theorem dX4_readIdentity_0 : decode cX4_readIdentity 0 = .ok (.aload_n 0, 1) := by decide +kernel
theorem dX4_readIdentity_1 : decode cX4_readIdentity 1 = .ok (.iconst 0, 1) := by decide +kernel
theorem dX4_readIdentity_2 : decode cX4_readIdentity 2 = .ok (.iconst 1, 1) := by decide +kernel
theorem dX4_readIdentity_3 : decode cX4_readIdentity 3 = .ok (.invokevirtual 24, 3) := by decide +kernel
theorem dX4_readIdentity_6 : decode cX4_readIdentity 6 = .ok (.istore_n 1, 1) := by decide +kernel
theorem dX4_readIdentity_7 : decode cX4_readIdentity 7 = .ok (.iconst 1, 1) := by decide +kernel
theorem dX4_readIdentity_8 : decode cX4_readIdentity 8 = .ok (.istore_n 2, 1) := by decide +kernel
theorem dX4_readIdentity_9 : decode cX4_readIdentity 9 = .ok (.iload_n 1, 1) := by decide +kernel
theorem dX4_readIdentity_10 : decode cX4_readIdentity 10 = .ok (.ifCond .eq 26, 3) := by decide +kernel
theorem dX4_readIdentity_13 : decode cX4_readIdentity 13 = .ok (.iload_n 2, 1) := by decide +kernel
theorem dX4_readIdentity_14 : decode cX4_readIdentity 14 = .ok (.bipush 8, 2) := by decide +kernel
theorem dX4_readIdentity_16 : decode cX4_readIdentity 16 = .ok (.if_icmp .ge 20, 3) := by decide +kernel
theorem dX4_readIdentity_19 : decode cX4_readIdentity 19 = .ok (.iload_n 1, 1) := by decide +kernel
theorem dX4_readIdentity_20 : decode cX4_readIdentity 20 = .ok (.aload_n 0, 1) := by decide +kernel
theorem dX4_readIdentity_21 : decode cX4_readIdentity 21 = .ok (.iconst 0, 1) := by decide +kernel
theorem dX4_readIdentity_22 : decode cX4_readIdentity 22 = .ok (.iconst 1, 1) := by decide +kernel
theorem dX4_readIdentity_23 : decode cX4_readIdentity 23 = .ok (.invokevirtual 24, 3) := by decide +kernel
theorem dX4_readIdentity_26 : decode cX4_readIdentity 26 = .ok (.iload_n 2, 1) := by decide +kernel
theorem dX4_readIdentity_27 : decode cX4_readIdentity 27 = .ok (.ishl, 1) := by decide +kernel
theorem dX4_readIdentity_28 : decode cX4_readIdentity 28 = .ok (.ior, 1) := by decide +kernel
theorem dX4_readIdentity_29 : decode cX4_readIdentity 29 = .ok (.istore_n 1, 1) := by decide +kernel
theorem dX4_readIdentity_30 : decode cX4_readIdentity 30 = .ok (.iinc 2 1, 3) := by decide +kernel
theorem dX4_readIdentity_33 : decode cX4_readIdentity 33 = .ok (.goto (-24), 3) := by decide +kernel
theorem dX4_readIdentity_36 : decode cX4_readIdentity 36 = .ok (.iload_n 1, 1) := by decide +kernel
theorem dX4_readIdentity_37 : decode cX4_readIdentity 37 = .ok (.ireturn, 1) := by decide +kernel
theorem dX4_loadInstruction_0 : decode cX4_loadInstruction 0 = .ok (.aload_n 0, 1) := by decide +kernel
theorem dX4_loadInstruction_1 : decode cX4_loadInstruction 1 = .ok (.bipush 11, 2) := by decide +kernel
theorem dX4_loadInstruction_3 : decode cX4_loadInstruction 3 = .ok (.invokestatic 29, 3) := by decide +kernel
theorem dX4_loadInstruction_6 : decode cX4_loadInstruction 6 = .ok (.pop, 1) := by decide +kernel
theorem dX4_loadInstruction_7 : decode cX4_loadInstruction 7 = .ok (.aload_n 0, 1) := by decide +kernel
theorem dX4_loadInstruction_8 : decode cX4_loadInstruction 8 = .ok (.getfield 47, 3) := by decide +kernel
theorem dX4_loadInstruction_11 : decode cX4_loadInstruction 11 = .ok (.iconst 1, 1) := by decide +kernel
theorem dX4_loadInstruction_12 : decode cX4_loadInstruction 12 = .ok (.isub, 1) := by decide +kernel
theorem dX4_loadInstruction_13 : decode cX4_loadInstruction 13 = .ok (.istore_n 3, 1) := by decide +kernel
theorem dX4_loadInstruction_14 : decode cX4_loadInstruction 14 = .ok (.iload_n 3, 1) := by decide +kernel
theorem dX4_loadInstruction_15 : decode cX4_loadInstruction 15 = .ok (.ifCond .lt 54, 3) := by decide +kernel
theorem dX4_loadInstruction_18 : decode cX4_loadInstruction 18 = .ok (.aload_n 0, 1) := by decide +kernel
theorem dX4_loadInstruction_19 : decode cX4_loadInstruction 19 = .ok (.getfield 50, 3) := by decide +kernel
theorem dX4_loadInstruction_22 : decode cX4_loadInstruction 22 = .ok (.iload_n 3, 1) := by decide +kernel
theorem dX4_loadInstruction_23 : decode cX4_loadInstruction 23 = .ok (.aaload, 1) := by decide +kernel
theorem dX4_loadInstruction_24 : decode cX4_loadInstruction 24 = .ok (.getfield 54, 3) := by decide +kernel
theorem dX4_loadInstruction_27 : decode cX4_loadInstruction 27 = .ok (.istore 4, 2) := by decide +kernel
theorem dX4_loadInstruction_29 : decode cX4_loadInstruction 29 = .ok (.iload_n 3, 1) := by decide +kernel
theorem dX4_loadInstruction_30 : decode cX4_loadInstruction 30 = .ok (.iload_n 1, 1) := by decide +kernel
theorem dX4_loadInstruction_31 : decode cX4_loadInstruction 31 = .ok (.if_icmp .ne 7, 3) := by decide +kernel
theorem dX4_loadInstruction_34 : decode cX4_loadInstruction 34 = .ok (.iload_n 2, 1) := by decide +kernel
theorem dX4_loadInstruction_35 : decode cX4_loadInstruction 35 = .ok (.goto 8, 3) := by decide +kernel
theorem dX4_loadInstruction_38 : decode cX4_loadInstruction 38 = .ok (.iload 4, 2) := by decide +kernel
theorem dX4_loadInstruction_40 : decode cX4_loadInstruction 40 = .ok (.invokestatic 59, 3) := by decide +kernel
theorem dX4_loadInstruction_43 : decode cX4_loadInstruction 43 = .ok (.istore 5, 2) := by decide +kernel
theorem dX4_loadInstruction_45 : decode cX4_loadInstruction 45 = .ok (.aload_n 0, 1) := by decide +kernel
theorem dX4_loadInstruction_46 : decode cX4_loadInstruction 46 = .ok (.iload 5, 2) := by decide +kernel
theorem dX4_loadInstruction_48 : decode cX4_loadInstruction 48 = .ok (.iload 4, 2) := by decide +kernel
theorem dX4_loadInstruction_50 : decode cX4_loadInstruction 50 = .ok (.iload_n 3, 1) := by decide +kernel
theorem dX4_loadInstruction_51 : decode cX4_loadInstruction 51 = .ok (.ifCond .ne 7, 3) := by decide +kernel
theorem dX4_loadInstruction_54 : decode cX4_loadInstruction 54 = .ok (.iconst 1, 1) := by decide +kernel
theorem dX4_loadInstruction_55 : decode cX4_loadInstruction 55 = .ok (.goto 4, 3) := by decide +kernel
theorem dX4_loadInstruction_58 : decode cX4_loadInstruction 58 = .ok (.iconst 0, 1) := by decide +kernel
theorem dX4_loadInstruction_59 : decode cX4_loadInstruction 59 = .ok (.invokestatic 63, 3) := by decide +kernel
theorem dX4_loadInstruction_62 : decode cX4_loadInstruction 62 = .ok (.pop, 1) := by decide +kernel
theorem dX4_loadInstruction_63 : decode cX4_loadInstruction 63 = .ok (.iinc 3 (-1), 3) := by decide +kernel
theorem dX4_loadInstruction_66 : decode cX4_loadInstruction 66 = .ok (.goto (-52), 3) := by decide +kernel
theorem dX4_loadInstruction_69 : decode cX4_loadInstruction 69 = .ok (.aload_n 0, 1) := by decide +kernel
theorem dX4_loadInstruction_70 : decode cX4_loadInstruction 70 = .ok (.iconst 1, 1) := by decide +kernel
theorem dX4_loadInstruction_71 : decode cX4_loadInstruction 71 = .ok (.invokestatic 29, 3) := by decide +kernel
theorem dX4_loadInstruction_74 : decode cX4_loadInstruction 74 = .ok (.pop, 1) := by decide +kernel
theorem dX4_loadInstruction_75 : decode cX4_loadInstruction 75 = .ok (.return_, 1) := by decide +kernel
theorem dX4_exchangeData_0 : decode cX4_exchangeData 0 = .ok (.iconst 0, 1) := by decide +kernel
theorem dX4_exchangeData_1 : decode cX4_exchangeData 1 = .ok (.istore_n 3, 1) := by decide +kernel
theorem dX4_exchangeData_2 : decode cX4_exchangeData 2 = .ok (.aload_n 0, 1) := by decide +kernel
theorem dX4_exchangeData_3 : decode cX4_exchangeData 3 = .ok (.iconst 4, 1) := by decide +kernel
theorem dX4_exchangeData_4 : decode cX4_exchangeData 4 = .ok (.invokestatic 29, 3) := by decide +kernel
theorem dX4_exchangeData_7 : decode cX4_exchangeData 7 = .ok (.pop, 1) := by decide +kernel
theorem dX4_exchangeData_8 : decode cX4_exchangeData 8 = .ok (.aload_n 0, 1) := by decide +kernel
theorem dX4_exchangeData_9 : decode cX4_exchangeData 9 = .ok (.getfield 47, 3) := by decide +kernel
theorem dX4_exchangeData_12 : decode cX4_exchangeData 12 = .ok (.iconst 1, 1) := by decide +kernel
theorem dX4_exchangeData_13 : decode cX4_exchangeData 13 = .ok (.isub, 1) := by decide +kernel
theorem dX4_exchangeData_14 : decode cX4_exchangeData 14 = .ok (.istore 4, 2) := by decide +kernel
theorem dX4_exchangeData_16 : decode cX4_exchangeData 16 = .ok (.iload 4, 2) := by decide +kernel
theorem dX4_exchangeData_18 : decode cX4_exchangeData 18 = .ok (.ifCond .lt 59, 3) := by decide +kernel
theorem dX4_exchangeData_21 : decode cX4_exchangeData 21 = .ok (.iload 4, 2) := by decide +kernel
theorem dX4_exchangeData_23 : decode cX4_exchangeData 23 = .ok (.iload_n 1, 1) := by decide +kernel
theorem dX4_exchangeData_24 : decode cX4_exchangeData 24 = .ok (.if_icmp .ne 7, 3) := by decide +kernel
theorem dX4_exchangeData_27 : decode cX4_exchangeData 27 = .ok (.iload_n 2, 1) := by decide +kernel
theorem dX4_exchangeData_28 : decode cX4_exchangeData 28 = .ok (.goto 4, 3) := by decide +kernel
theorem dX4_exchangeData_31 : decode cX4_exchangeData 31 = .ok (.iconst 0, 1) := by decide +kernel
theorem dX4_exchangeData_32 : decode cX4_exchangeData 32 = .ok (.istore 5, 2) := by decide +kernel
theorem dX4_exchangeData_34 : decode cX4_exchangeData 34 = .ok (.aload_n 0, 1) := by decide +kernel
theorem dX4_exchangeData_35 : decode cX4_exchangeData 35 = .ok (.iload 5, 2) := by decide +kernel
theorem dX4_exchangeData_37 : decode cX4_exchangeData 37 = .ok (.aload_n 0, 1) := by decide +kernel
theorem dX4_exchangeData_38 : decode cX4_exchangeData 38 = .ok (.getfield 50, 3) := by decide +kernel
theorem dX4_exchangeData_41 : decode cX4_exchangeData 41 = .ok (.iload 4, 2) := by decide +kernel
theorem dX4_exchangeData_43 : decode cX4_exchangeData 43 = .ok (.aaload, 1) := by decide +kernel
theorem dX4_exchangeData_44 : decode cX4_exchangeData 44 = .ok (.invokevirtual 67, 3) := by decide +kernel
theorem dX4_exchangeData_47 : decode cX4_exchangeData 47 = .ok (.iload 4, 2) := by decide +kernel
theorem dX4_exchangeData_49 : decode cX4_exchangeData 49 = .ok (.ifCond .ne 7, 3) := by decide +kernel
theorem dX4_exchangeData_52 : decode cX4_exchangeData 52 = .ok (.iconst 1, 1) := by decide +kernel
theorem dX4_exchangeData_53 : decode cX4_exchangeData 53 = .ok (.goto 4, 3) := by decide +kernel
theorem dX4_exchangeData_56 : decode cX4_exchangeData 56 = .ok (.iconst 0, 1) := by decide +kernel
theorem dX4_exchangeData_57 : decode cX4_exchangeData 57 = .ok (.invokestatic 63, 3) := by decide +kernel
theorem dX4_exchangeData_60 : decode cX4_exchangeData 60 = .ok (.istore 6, 2) := by decide +kernel
theorem dX4_exchangeData_62 : decode cX4_exchangeData 62 = .ok (.iload 4, 2) := by decide +kernel
theorem dX4_exchangeData_64 : decode cX4_exchangeData 64 = .ok (.iload_n 1, 1) := by decide +kernel
theorem dX4_exchangeData_65 : decode cX4_exchangeData 65 = .ok (.if_icmp .ne 6, 3) := by decide +kernel
theorem dX4_exchangeData_68 : decode cX4_exchangeData 68 = .ok (.iload 6, 2) := by decide +kernel
theorem dX4_exchangeData_70 : decode cX4_exchangeData 70 = .ok (.istore_n 3, 1) := by decide +kernel
theorem dX4_exchangeData_71 : decode cX4_exchangeData 71 = .ok (.iinc 4 (-1), 3) := by decide +kernel
theorem dX4_exchangeData_74 : decode cX4_exchangeData 74 = .ok (.goto (-58), 3) := by decide +kernel
theorem dX4_exchangeData_77 : decode cX4_exchangeData 77 = .ok (.aload_n 0, 1) := by decide +kernel
theorem dX4_exchangeData_78 : decode cX4_exchangeData 78 = .ok (.iconst 1, 1) := by decide +kernel
theorem dX4_exchangeData_79 : decode cX4_exchangeData 79 = .ok (.invokestatic 29, 3) := by decide +kernel
theorem dX4_exchangeData_82 : decode cX4_exchangeData 82 = .ok (.pop, 1) := by decide +kernel
theorem dX4_exchangeData_83 : decode cX4_exchangeData 83 = .ok (.iload_n 3, 1) := by decide +kernel
theorem dX4_exchangeData_84 : decode cX4_exchangeData 84 = .ok (.ireturn, 1) := by decide +kernel
theorem dX4_shiftThrough_0 : decode cX4_shiftThrough 0 = .ok (.iconst 0, 1) := by decide +kernel
theorem dX4_shiftThrough_1 : decode cX4_shiftThrough 1 = .ok (.istore 4, 2) := by decide +kernel
theorem dX4_shiftThrough_3 : decode cX4_shiftThrough 3 = .ok (.iconst 0, 1) := by decide +kernel
theorem dX4_shiftThrough_4 : decode cX4_shiftThrough 4 = .ok (.istore 5, 2) := by decide +kernel
theorem dX4_shiftThrough_6 : decode cX4_shiftThrough 6 = .ok (.iload 5, 2) := by decide +kernel
theorem dX4_shiftThrough_8 : decode cX4_shiftThrough 8 = .ok (.iload_n 2, 1) := by decide +kernel
theorem dX4_shiftThrough_9 : decode cX4_shiftThrough 9 = .ok (.if_icmp .ge 48, 3) := by decide +kernel
theorem dX4_shiftThrough_12 : decode cX4_shiftThrough 12 = .ok (.iload_n 3, 1) := by decide +kernel
theorem dX4_shiftThrough_13 : decode cX4_shiftThrough 13 = .ok (.ifCond .eq 15, 3) := by decide +kernel
theorem dX4_shiftThrough_16 : decode cX4_shiftThrough 16 = .ok (.iload 5, 2) := by decide +kernel
theorem dX4_shiftThrough_18 : decode cX4_shiftThrough 18 = .ok (.iload_n 2, 1) := by decide +kernel
theorem dX4_shiftThrough_19 : decode cX4_shiftThrough 19 = .ok (.iconst 1, 1) := by decide +kernel
theorem dX4_shiftThrough_20 : decode cX4_shiftThrough 20 = .ok (.isub, 1) := by decide +kernel
theorem dX4_shiftThrough_21 : decode cX4_shiftThrough 21 = .ok (.if_icmp .ne 7, 3) := by decide +kernel
theorem dX4_shiftThrough_24 : decode cX4_shiftThrough 24 = .ok (.iconst 1, 1) := by decide +kernel
theorem dX4_shiftThrough_25 : decode cX4_shiftThrough 25 = .ok (.goto 4, 3) := by decide +kernel
theorem dX4_shiftThrough_28 : decode cX4_shiftThrough 28 = .ok (.iconst 0, 1) := by decide +kernel
theorem dX4_shiftThrough_29 : decode cX4_shiftThrough 29 = .ok (.istore 6, 2) := by decide +kernel
theorem dX4_shiftThrough_31 : decode cX4_shiftThrough 31 = .ok (.iload 4, 2) := by decide +kernel
theorem dX4_shiftThrough_33 : decode cX4_shiftThrough 33 = .ok (.aload_n 0, 1) := by decide +kernel
theorem dX4_shiftThrough_34 : decode cX4_shiftThrough 34 = .ok (.iload 6, 2) := by decide +kernel
theorem dX4_shiftThrough_36 : decode cX4_shiftThrough 36 = .ok (.iload_n 1, 1) := by decide +kernel
theorem dX4_shiftThrough_37 : decode cX4_shiftThrough 37 = .ok (.iload 5, 2) := by decide +kernel
theorem dX4_shiftThrough_39 : decode cX4_shiftThrough 39 = .ok (.ishr, 1) := by decide +kernel
theorem dX4_shiftThrough_40 : decode cX4_shiftThrough 40 = .ok (.iconst 1, 1) := by decide +kernel
theorem dX4_shiftThrough_41 : decode cX4_shiftThrough 41 = .ok (.iand, 1) := by decide +kernel
theorem dX4_shiftThrough_42 : decode cX4_shiftThrough 42 = .ok (.invokevirtual 24, 3) := by decide +kernel
theorem dX4_shiftThrough_45 : decode cX4_shiftThrough 45 = .ok (.iload 5, 2) := by decide +kernel
theorem dX4_shiftThrough_47 : decode cX4_shiftThrough 47 = .ok (.ishl, 1) := by decide +kernel
theorem dX4_shiftThrough_48 : decode cX4_shiftThrough 48 = .ok (.ior, 1) := by decide +kernel
theorem dX4_shiftThrough_49 : decode cX4_shiftThrough 49 = .ok (.istore 4, 2) := by decide +kernel
theorem dX4_shiftThrough_51 : decode cX4_shiftThrough 51 = .ok (.iinc 5 1, 3) := by decide +kernel
theorem dX4_shiftThrough_54 : decode cX4_shiftThrough 54 = .ok (.goto (-48), 3) := by decide +kernel
theorem dX4_shiftThrough_57 : decode cX4_shiftThrough 57 = .ok (.iload 4, 2) := by decide +kernel
theorem dX4_shiftThrough_59 : decode cX4_shiftThrough 59 = .ok (.ireturn, 1) := by decide +kernel
theorem dX4_carryOut_0 : decode cX4_carryOut 0 = .ok (.iconst 0, 1) := by decide +kernel
theorem dX4_carryOut_1 : decode cX4_carryOut 1 = .ok (.istore_n 2, 1) := by decide +kernel
theorem dX4_carryOut_2 : decode cX4_carryOut 2 = .ok (.iconst 0, 1) := by decide +kernel
theorem dX4_carryOut_3 : decode cX4_carryOut 3 = .ok (.istore_n 3, 1) := by decide +kernel
theorem dX4_carryOut_4 : decode cX4_carryOut 4 = .ok (.iconst 0, 1) := by decide +kernel
theorem dX4_carryOut_5 : decode cX4_carryOut 5 = .ok (.istore 4, 2) := by decide +kernel
theorem dX4_carryOut_7 : decode cX4_carryOut 7 = .ok (.iload 4, 2) := by decide +kernel
theorem dX4_carryOut_9 : decode cX4_carryOut 9 = .ok (.aload_n 1, 1) := by decide +kernel
theorem dX4_carryOut_10 : decode cX4_carryOut 10 = .ok (.getfield 71, 3) := by decide +kernel
theorem dX4_carryOut_13 : decode cX4_carryOut 13 = .ok (.if_icmp .ge 82, 3) := by decide +kernel
theorem dX4_carryOut_16 : decode cX4_carryOut 16 = .ok (.aload_n 1, 1) := by decide +kernel
theorem dX4_carryOut_17 : decode cX4_carryOut 17 = .ok (.getfield 76, 3) := by decide +kernel
theorem dX4_carryOut_20 : decode cX4_carryOut 20 = .ok (.iload 4, 2) := by decide +kernel
theorem dX4_carryOut_22 : decode cX4_carryOut 22 = .ok (.caload, 1) := by decide +kernel
theorem dX4_carryOut_23 : decode cX4_carryOut 23 = .ok (.istore 5, 2) := by decide +kernel
theorem dX4_carryOut_25 : decode cX4_carryOut 25 = .ok (.iload 5, 2) := by decide +kernel
theorem dX4_carryOut_27 : decode cX4_carryOut 27 = .ok (.bipush 63, 2) := by decide +kernel
theorem dX4_carryOut_29 : decode cX4_carryOut 29 = .ok (.if_icmp .ne 30, 3) := by decide +kernel
theorem dX4_carryOut_32 : decode cX4_carryOut 32 = .ok (.aload_n 0, 1) := by decide +kernel
theorem dX4_carryOut_33 : decode cX4_carryOut 33 = .ok (.iconst 0, 1) := by decide +kernel
theorem dX4_carryOut_34 : decode cX4_carryOut 34 = .ok (.iconst 1, 1) := by decide +kernel
theorem dX4_carryOut_35 : decode cX4_carryOut 35 = .ok (.invokevirtual 24, 3) := by decide +kernel
theorem dX4_carryOut_38 : decode cX4_carryOut 38 = .ok (.istore 6, 2) := by decide +kernel
theorem dX4_carryOut_40 : decode cX4_carryOut 40 = .ok (.iload_n 3, 1) := by decide +kernel
theorem dX4_carryOut_41 : decode cX4_carryOut 41 = .ok (.bipush 30, 2) := by decide +kernel
theorem dX4_carryOut_43 : decode cX4_carryOut 43 = .ok (.if_icmp .ge 13, 3) := by decide +kernel
theorem dX4_carryOut_46 : decode cX4_carryOut 46 = .ok (.iload_n 2, 1) := by decide +kernel
theorem dX4_carryOut_47 : decode cX4_carryOut 47 = .ok (.iload 6, 2) := by decide +kernel
theorem dX4_carryOut_49 : decode cX4_carryOut 49 = .ok (.iload_n 3, 1) := by decide +kernel
theorem dX4_carryOut_50 : decode cX4_carryOut 50 = .ok (.ishl, 1) := by decide +kernel
theorem dX4_carryOut_51 : decode cX4_carryOut 51 = .ok (.ior, 1) := by decide +kernel
theorem dX4_carryOut_52 : decode cX4_carryOut 52 = .ok (.istore_n 2, 1) := by decide +kernel
theorem dX4_carryOut_53 : decode cX4_carryOut 53 = .ok (.iinc 3 1, 3) := by decide +kernel
theorem dX4_carryOut_56 : decode cX4_carryOut 56 = .ok (.goto 33, 3) := by decide +kernel
theorem dX4_carryOut_59 : decode cX4_carryOut 59 = .ok (.iload 5, 2) := by decide +kernel
theorem dX4_carryOut_61 : decode cX4_carryOut 61 = .ok (.bipush 64, 2) := by decide +kernel
theorem dX4_carryOut_63 : decode cX4_carryOut 63 = .ok (.if_icmp .ne 20, 3) := by decide +kernel
theorem dX4_carryOut_66 : decode cX4_carryOut 66 = .ok (.iinc 4 1, 3) := by decide +kernel
theorem dX4_carryOut_69 : decode cX4_carryOut 69 = .ok (.aload_n 0, 1) := by decide +kernel
theorem dX4_carryOut_70 : decode cX4_carryOut 70 = .ok (.aload_n 1, 1) := by decide +kernel
theorem dX4_carryOut_71 : decode cX4_carryOut 71 = .ok (.iload 4, 2) := by decide +kernel
theorem dX4_carryOut_73 : decode cX4_carryOut 73 = .ok (.invokevirtual 80, 3) := by decide +kernel
theorem dX4_carryOut_76 : decode cX4_carryOut 76 = .ok (.invokestatic 29, 3) := by decide +kernel
theorem dX4_carryOut_79 : decode cX4_carryOut 79 = .ok (.pop, 1) := by decide +kernel
theorem dX4_carryOut_80 : decode cX4_carryOut 80 = .ok (.goto 9, 3) := by decide +kernel
theorem dX4_carryOut_83 : decode cX4_carryOut 83 = .ok (.aload_n 0, 1) := by decide +kernel
theorem dX4_carryOut_84 : decode cX4_carryOut 84 = .ok (.iload 5, 2) := by decide +kernel
theorem dX4_carryOut_86 : decode cX4_carryOut 86 = .ok (.invokestatic 83, 3) := by decide +kernel
theorem dX4_carryOut_89 : decode cX4_carryOut 89 = .ok (.iinc 4 1, 3) := by decide +kernel
theorem dX4_carryOut_92 : decode cX4_carryOut 92 = .ok (.goto (-85), 3) := by decide +kernel
theorem dX4_carryOut_95 : decode cX4_carryOut 95 = .ok (.iload_n 2, 1) := by decide +kernel
theorem dX4_carryOut_96 : decode cX4_carryOut 96 = .ok (.ireturn, 1) := by decide +kernel
theorem dX4_clockItem_0 : decode cX4_clockItem 0 = .ok (.iload_n 1, 1) := by decide +kernel
theorem dX4_clockItem_1 : decode cX4_clockItem 1 = .ok (.bipush 97, 2) := by decide +kernel
theorem dX4_clockItem_3 : decode cX4_clockItem 3 = .ok (.if_icmp .eq 9, 3) := by decide +kernel
theorem dX4_clockItem_6 : decode cX4_clockItem 6 = .ok (.iload_n 1, 1) := by decide +kernel
theorem dX4_clockItem_7 : decode cX4_clockItem 7 = .ok (.bipush 98, 2) := by decide +kernel
theorem dX4_clockItem_9 : decode cX4_clockItem 9 = .ok (.if_icmp .ne 7, 3) := by decide +kernel
theorem dX4_clockItem_12 : decode cX4_clockItem 12 = .ok (.iconst 1, 1) := by decide +kernel
theorem dX4_clockItem_13 : decode cX4_clockItem 13 = .ok (.goto 4, 3) := by decide +kernel
theorem dX4_clockItem_16 : decode cX4_clockItem 16 = .ok (.iconst 0, 1) := by decide +kernel
theorem dX4_clockItem_17 : decode cX4_clockItem 17 = .ok (.istore_n 2, 1) := by decide +kernel
theorem dX4_clockItem_18 : decode cX4_clockItem 18 = .ok (.iload_n 1, 1) := by decide +kernel
theorem dX4_clockItem_19 : decode cX4_clockItem 19 = .ok (.bipush 49, 2) := by decide +kernel
theorem dX4_clockItem_21 : decode cX4_clockItem 21 = .ok (.if_icmp .eq 9, 3) := by decide +kernel
theorem dX4_clockItem_24 : decode cX4_clockItem 24 = .ok (.iload_n 1, 1) := by decide +kernel
theorem dX4_clockItem_25 : decode cX4_clockItem 25 = .ok (.bipush 98, 2) := by decide +kernel
theorem dX4_clockItem_27 : decode cX4_clockItem 27 = .ok (.if_icmp .ne 7, 3) := by decide +kernel
theorem dX4_clockItem_30 : decode cX4_clockItem 30 = .ok (.iconst 1, 1) := by decide +kernel
theorem dX4_clockItem_31 : decode cX4_clockItem 31 = .ok (.goto 4, 3) := by decide +kernel
theorem dX4_clockItem_34 : decode cX4_clockItem 34 = .ok (.iconst 0, 1) := by decide +kernel
theorem dX4_clockItem_35 : decode cX4_clockItem 35 = .ok (.istore_n 3, 1) := by decide +kernel
theorem dX4_clockItem_36 : decode cX4_clockItem 36 = .ok (.aload_n 0, 1) := by decide +kernel
theorem dX4_clockItem_37 : decode cX4_clockItem 37 = .ok (.iload_n 2, 1) := by decide +kernel
theorem dX4_clockItem_38 : decode cX4_clockItem 38 = .ok (.iload_n 3, 1) := by decide +kernel
theorem dX4_clockItem_39 : decode cX4_clockItem 39 = .ok (.invokevirtual 24, 3) := by decide +kernel
theorem dX4_clockItem_42 : decode cX4_clockItem 42 = .ok (.pop, 1) := by decide +kernel
theorem dX4_clockItem_43 : decode cX4_clockItem 43 = .ok (.return_, 1) := by decide +kernel
theorem dX5_init_0 : decode cX5_init 0 = .ok (.aload_n 0, 1) := by decide +kernel
theorem dX5_init_1 : decode cX5_init 1 = .ok (.invokespecial 3, 3) := by decide +kernel
theorem dX5_init_4 : decode cX5_init 4 = .ok (.aload_n 0, 1) := by decide +kernel
theorem dX5_init_5 : decode cX5_init 5 = .ok (.bipush 80, 2) := by decide +kernel
theorem dX5_init_7 : decode cX5_init 7 = .ok (.newarray .char, 2) := by decide +kernel
theorem dX5_init_9 : decode cX5_init 9 = .ok (.putfield 9, 3) := by decide +kernel
theorem dX5_init_12 : decode cX5_init 12 = .ok (.aload_n 0, 1) := by decide +kernel
theorem dX5_init_13 : decode cX5_init 13 = .ok (.iconst 0, 1) := by decide +kernel
theorem dX5_init_14 : decode cX5_init 14 = .ok (.putfield 15, 3) := by decide +kernel
theorem dX5_init_17 : decode cX5_init 17 = .ok (.return_, 1) := by decide +kernel
theorem dX5_write_0 : decode cX5_write 0 = .ok (.aload_n 0, 1) := by decide +kernel
theorem dX5_write_1 : decode cX5_write 1 = .ok (.getfield 15, 3) := by decide +kernel
theorem dX5_write_4 : decode cX5_write 4 = .ok (.aload_n 0, 1) := by decide +kernel
theorem dX5_write_5 : decode cX5_write 5 = .ok (.getfield 9, 3) := by decide +kernel
theorem dX5_write_8 : decode cX5_write 8 = .ok (.arraylength, 1) := by decide +kernel
theorem dX5_write_9 : decode cX5_write 9 = .ok (.if_icmp .ge 24, 3) := by decide +kernel
theorem dX5_write_12 : decode cX5_write 12 = .ok (.aload_n 0, 1) := by decide +kernel
theorem dX5_write_13 : decode cX5_write 13 = .ok (.getfield 9, 3) := by decide +kernel
theorem dX5_write_16 : decode cX5_write 16 = .ok (.aload_n 0, 1) := by decide +kernel
theorem dX5_write_17 : decode cX5_write 17 = .ok (.getfield 15, 3) := by decide +kernel
theorem dX5_write_20 : decode cX5_write 20 = .ok (.iload_n 1, 1) := by decide +kernel
theorem dX5_write_21 : decode cX5_write 21 = .ok (.i2c, 1) := by decide +kernel
theorem dX5_write_22 : decode cX5_write 22 = .ok (.castore, 1) := by decide +kernel
theorem dX5_write_23 : decode cX5_write 23 = .ok (.aload_n 0, 1) := by decide +kernel
theorem dX5_write_24 : decode cX5_write 24 = .ok (.dup, 1) := by decide +kernel
theorem dX5_write_25 : decode cX5_write 25 = .ok (.getfield 15, 3) := by decide +kernel
theorem dX5_write_28 : decode cX5_write 28 = .ok (.iconst 1, 1) := by decide +kernel
theorem dX5_write_29 : decode cX5_write 29 = .ok (.iadd, 1) := by decide +kernel
theorem dX5_write_30 : decode cX5_write 30 = .ok (.putfield 15, 3) := by decide +kernel
theorem dX5_write_33 : decode cX5_write 33 = .ok (.aload_n 0, 1) := by decide +kernel
theorem dX5_write_34 : decode cX5_write 34 = .ok (.getfield 15, 3) := by decide +kernel
theorem dX5_write_37 : decode cX5_write 37 = .ok (.ireturn, 1) := by decide +kernel
theorem dX5_wipe_0 : decode cX5_wipe 0 = .ok (.aload_n 0, 1) := by decide +kernel
theorem dX5_wipe_1 : decode cX5_wipe 1 = .ok (.getfield 15, 3) := by decide +kernel
theorem dX5_wipe_4 : decode cX5_wipe 4 = .ok (.istore_n 1, 1) := by decide +kernel
theorem dX5_wipe_5 : decode cX5_wipe 5 = .ok (.aload_n 0, 1) := by decide +kernel
theorem dX5_wipe_6 : decode cX5_wipe 6 = .ok (.iconst 0, 1) := by decide +kernel
theorem dX5_wipe_7 : decode cX5_wipe 7 = .ok (.putfield 15, 3) := by decide +kernel
theorem dX5_wipe_10 : decode cX5_wipe 10 = .ok (.iload_n 1, 1) := by decide +kernel
theorem dX5_wipe_11 : decode cX5_wipe 11 = .ok (.ireturn, 1) := by decide +kernel
theorem dX5_firstFault_0 : decode cX5_firstFault 0 = .ok (.iconst 0, 1) := by decide +kernel
theorem dX5_firstFault_1 : decode cX5_firstFault 1 = .ok (.istore_n 1, 1) := by decide +kernel
theorem dX5_firstFault_2 : decode cX5_firstFault 2 = .ok (.iconst 0, 1) := by decide +kernel
theorem dX5_firstFault_3 : decode cX5_firstFault 3 = .ok (.istore_n 2, 1) := by decide +kernel
theorem dX5_firstFault_4 : decode cX5_firstFault 4 = .ok (.iload_n 2, 1) := by decide +kernel
theorem dX5_firstFault_5 : decode cX5_firstFault 5 = .ok (.aload_n 0, 1) := by decide +kernel
theorem dX5_firstFault_6 : decode cX5_firstFault 6 = .ok (.getfield 15, 3) := by decide +kernel
theorem dX5_firstFault_9 : decode cX5_firstFault 9 = .ok (.if_icmp .ge 65, 3) := by decide +kernel
theorem dX5_firstFault_12 : decode cX5_firstFault 12 = .ok (.aload_n 0, 1) := by decide +kernel
theorem dX5_firstFault_13 : decode cX5_firstFault 13 = .ok (.getfield 9, 3) := by decide +kernel
theorem dX5_firstFault_16 : decode cX5_firstFault 16 = .ok (.iload_n 2, 1) := by decide +kernel
theorem dX5_firstFault_17 : decode cX5_firstFault 17 = .ok (.caload, 1) := by decide +kernel
theorem dX5_firstFault_18 : decode cX5_firstFault 18 = .ok (.istore_n 3, 1) := by decide +kernel
theorem dX5_firstFault_19 : decode cX5_firstFault 19 = .ok (.iload_n 1, 1) := by decide +kernel
theorem dX5_firstFault_20 : decode cX5_firstFault 20 = .ok (.ifCond .eq 19, 3) := by decide +kernel
theorem dX5_firstFault_23 : decode cX5_firstFault 23 = .ok (.iload_n 3, 1) := by decide +kernel
theorem dX5_firstFault_24 : decode cX5_firstFault 24 = .ok (.invokestatic 19, 3) := by decide +kernel
theorem dX5_firstFault_27 : decode cX5_firstFault 27 = .ok (.iconst (-1), 1) := by decide +kernel
theorem dX5_firstFault_28 : decode cX5_firstFault 28 = .ok (.if_icmp .eq 7, 3) := by decide +kernel
theorem dX5_firstFault_31 : decode cX5_firstFault 31 = .ok (.iconst 1, 1) := by decide +kernel
theorem dX5_firstFault_32 : decode cX5_firstFault 32 = .ok (.goto 11, 3) := by decide +kernel
theorem dX5_firstFault_35 : decode cX5_firstFault 35 = .ok (.iconst 0, 1) := by decide +kernel
theorem dX5_firstFault_36 : decode cX5_firstFault 36 = .ok (.goto 7, 3) := by decide +kernel
theorem dX5_firstFault_39 : decode cX5_firstFault 39 = .ok (.iload_n 3, 1) := by decide +kernel
theorem dX5_firstFault_40 : decode cX5_firstFault 40 = .ok (.invokestatic 23, 3) := by decide +kernel
theorem dX5_firstFault_43 : decode cX5_firstFault 43 = .ok (.istore 4, 2) := by decide +kernel
theorem dX5_firstFault_45 : decode cX5_firstFault 45 = .ok (.iload 4, 2) := by decide +kernel
theorem dX5_firstFault_47 : decode cX5_firstFault 47 = .ok (.ifCond .ne 5, 3) := by decide +kernel
theorem dX5_firstFault_50 : decode cX5_firstFault 50 = .ok (.iload_n 2, 1) := by decide +kernel
theorem dX5_firstFault_51 : decode cX5_firstFault 51 = .ok (.ireturn, 1) := by decide +kernel
theorem dX5_firstFault_52 : decode cX5_firstFault 52 = .ok (.iload_n 1, 1) := by decide +kernel
theorem dX5_firstFault_53 : decode cX5_firstFault 53 = .ok (.ifCond .ne 13, 3) := by decide +kernel
theorem dX5_firstFault_56 : decode cX5_firstFault 56 = .ok (.iload_n 3, 1) := by decide +kernel
theorem dX5_firstFault_57 : decode cX5_firstFault 57 = .ok (.bipush 64, 2) := by decide +kernel
theorem dX5_firstFault_59 : decode cX5_firstFault 59 = .ok (.if_icmp .ne 7, 3) := by decide +kernel
theorem dX5_firstFault_62 : decode cX5_firstFault 62 = .ok (.iconst 1, 1) := by decide +kernel
theorem dX5_firstFault_63 : decode cX5_firstFault 63 = .ok (.goto 4, 3) := by decide +kernel
theorem dX5_firstFault_66 : decode cX5_firstFault 66 = .ok (.iconst 0, 1) := by decide +kernel
theorem dX5_firstFault_67 : decode cX5_firstFault 67 = .ok (.istore_n 1, 1) := by decide +kernel
theorem dX5_firstFault_68 : decode cX5_firstFault 68 = .ok (.iinc 2 1, 3) := by decide +kernel
theorem dX5_firstFault_71 : decode cX5_firstFault 71 = .ok (.goto (-67), 3) := by decide +kernel
theorem dX5_firstFault_74 : decode cX5_firstFault 74 = .ok (.aload_n 0, 1) := by decide +kernel
theorem dX5_firstFault_75 : decode cX5_firstFault 75 = .ok (.getfield 15, 3) := by decide +kernel
theorem dX5_firstFault_78 : decode cX5_firstFault 78 = .ok (.ifCond .le 11, 3) := by decide +kernel
theorem dX5_firstFault_81 : decode cX5_firstFault 81 = .ok (.iload_n 1, 1) := by decide +kernel
theorem dX5_firstFault_82 : decode cX5_firstFault 82 = .ok (.ifCond .ne 7, 3) := by decide +kernel
theorem dX5_firstFault_85 : decode cX5_firstFault 85 = .ok (.iconst 1, 1) := by decide +kernel
theorem dX5_firstFault_86 : decode cX5_firstFault 86 = .ok (.goto 4, 3) := by decide +kernel
theorem dX5_firstFault_89 : decode cX5_firstFault 89 = .ok (.iconst 0, 1) := by decide +kernel
theorem dX5_firstFault_90 : decode cX5_firstFault 90 = .ok (.istore_n 2, 1) := by decide +kernel
theorem dX5_firstFault_91 : decode cX5_firstFault 91 = .ok (.iload_n 2, 1) := by decide +kernel
theorem dX5_firstFault_92 : decode cX5_firstFault 92 = .ok (.ifCond .eq 8, 3) := by decide +kernel
theorem dX5_firstFault_95 : decode cX5_firstFault 95 = .ok (.bipush (-4), 2) := by decide +kernel
theorem dX5_firstFault_97 : decode cX5_firstFault 97 = .ok (.goto 7, 3) := by decide +kernel
theorem dX5_firstFault_100 : decode cX5_firstFault 100 = .ok (.aload_n 0, 1) := by decide +kernel
theorem dX5_firstFault_101 : decode cX5_firstFault 101 = .ok (.getfield 15, 3) := by decide +kernel
theorem dX5_firstFault_104 : decode cX5_firstFault 104 = .ok (.ireturn, 1) := by decide +kernel
theorem dX5_hexAt_0 : decode cX5_hexAt 0 = .ok (.iload_n 1, 1) := by decide +kernel
theorem dX5_hexAt_1 : decode cX5_hexAt 1 = .ok (.ifCond .lt 23, 3) := by decide +kernel
theorem dX5_hexAt_4 : decode cX5_hexAt 4 = .ok (.iload_n 1, 1) := by decide +kernel
theorem dX5_hexAt_5 : decode cX5_hexAt 5 = .ok (.aload_n 0, 1) := by decide +kernel
theorem dX5_hexAt_6 : decode cX5_hexAt 6 = .ok (.getfield 15, 3) := by decide +kernel
theorem dX5_hexAt_9 : decode cX5_hexAt 9 = .ok (.if_icmp .ge 15, 3) := by decide +kernel
theorem dX5_hexAt_12 : decode cX5_hexAt 12 = .ok (.aload_n 0, 1) := by decide +kernel
theorem dX5_hexAt_13 : decode cX5_hexAt 13 = .ok (.getfield 9, 3) := by decide +kernel
theorem dX5_hexAt_16 : decode cX5_hexAt 16 = .ok (.iload_n 1, 1) := by decide +kernel
theorem dX5_hexAt_17 : decode cX5_hexAt 17 = .ok (.caload, 1) := by decide +kernel
theorem dX5_hexAt_18 : decode cX5_hexAt 18 = .ok (.invokestatic 19, 3) := by decide +kernel
theorem dX5_hexAt_21 : decode cX5_hexAt 21 = .ok (.goto 4, 3) := by decide +kernel
theorem dX5_hexAt_24 : decode cX5_hexAt 24 = .ok (.iconst (-1), 1) := by decide +kernel
theorem dX5_hexAt_25 : decode cX5_hexAt 25 = .ok (.ireturn, 1) := by decide +kernel
theorem dX5_startsItem_0 : decode cX5_startsItem 0 = .ok (.iload_n 0, 1) := by decide +kernel
theorem dX5_startsItem_1 : decode cX5_startsItem 1 = .ok (.bipush 48, 2) := by decide +kernel
theorem dX5_startsItem_3 : decode cX5_startsItem 3 = .ok (.if_icmp .eq 33, 3) := by decide +kernel
theorem dX5_startsItem_6 : decode cX5_startsItem 6 = .ok (.iload_n 0, 1) := by decide +kernel
theorem dX5_startsItem_7 : decode cX5_startsItem 7 = .ok (.bipush 49, 2) := by decide +kernel
theorem dX5_startsItem_9 : decode cX5_startsItem 9 = .ok (.if_icmp .eq 27, 3) := by decide +kernel
theorem dX5_startsItem_12 : decode cX5_startsItem 12 = .ok (.iload_n 0, 1) := by decide +kernel
theorem dX5_startsItem_13 : decode cX5_startsItem 13 = .ok (.bipush 97, 2) := by decide +kernel
theorem dX5_startsItem_15 : decode cX5_startsItem 15 = .ok (.if_icmp .eq 21, 3) := by decide +kernel
theorem dX5_startsItem_18 : decode cX5_startsItem 18 = .ok (.iload_n 0, 1) := by decide +kernel
theorem dX5_startsItem_19 : decode cX5_startsItem 19 = .ok (.bipush 98, 2) := by decide +kernel
theorem dX5_startsItem_21 : decode cX5_startsItem 21 = .ok (.if_icmp .eq 15, 3) := by decide +kernel
theorem dX5_startsItem_24 : decode cX5_startsItem 24 = .ok (.iload_n 0, 1) := by decide +kernel
theorem dX5_startsItem_25 : decode cX5_startsItem 25 = .ok (.bipush 63, 2) := by decide +kernel
theorem dX5_startsItem_27 : decode cX5_startsItem 27 = .ok (.if_icmp .eq 9, 3) := by decide +kernel
theorem dX5_startsItem_30 : decode cX5_startsItem 30 = .ok (.iload_n 0, 1) := by decide +kernel
theorem dX5_startsItem_31 : decode cX5_startsItem 31 = .ok (.bipush 64, 2) := by decide +kernel
theorem dX5_startsItem_33 : decode cX5_startsItem 33 = .ok (.if_icmp .ne 7, 3) := by decide +kernel
theorem dX5_startsItem_36 : decode cX5_startsItem 36 = .ok (.iconst 1, 1) := by decide +kernel
theorem dX5_startsItem_37 : decode cX5_startsItem 37 = .ok (.goto 4, 3) := by decide +kernel
theorem dX5_startsItem_40 : decode cX5_startsItem 40 = .ok (.iconst 0, 1) := by decide +kernel
theorem dX5_startsItem_41 : decode cX5_startsItem 41 = .ok (.ireturn, 1) := by decide +kernel
theorem dX5_hexValue_0 : decode cX5_hexValue 0 = .ok (.iload_n 0, 1) := by decide +kernel
theorem dX5_hexValue_1 : decode cX5_hexValue 1 = .ok (.bipush 48, 2) := by decide +kernel
theorem dX5_hexValue_3 : decode cX5_hexValue 3 = .ok (.if_icmp .lt 14, 3) := by decide +kernel
theorem dX5_hexValue_6 : decode cX5_hexValue 6 = .ok (.iload_n 0, 1) := by decide +kernel
theorem dX5_hexValue_7 : decode cX5_hexValue 7 = .ok (.bipush 57, 2) := by decide +kernel
theorem dX5_hexValue_9 : decode cX5_hexValue 9 = .ok (.if_icmp .gt 8, 3) := by decide +kernel
theorem dX5_hexValue_12 : decode cX5_hexValue 12 = .ok (.iload_n 0, 1) := by decide +kernel
theorem dX5_hexValue_13 : decode cX5_hexValue 13 = .ok (.bipush 48, 2) := by decide +kernel
theorem dX5_hexValue_15 : decode cX5_hexValue 15 = .ok (.isub, 1) := by decide +kernel
theorem dX5_hexValue_16 : decode cX5_hexValue 16 = .ok (.ireturn, 1) := by decide +kernel
theorem dX5_hexValue_17 : decode cX5_hexValue 17 = .ok (.iload_n 0, 1) := by decide +kernel
theorem dX5_hexValue_18 : decode cX5_hexValue 18 = .ok (.bipush 97, 2) := by decide +kernel
theorem dX5_hexValue_20 : decode cX5_hexValue 20 = .ok (.if_icmp .lt 17, 3) := by decide +kernel
theorem dX5_hexValue_23 : decode cX5_hexValue 23 = .ok (.iload_n 0, 1) := by decide +kernel
theorem dX5_hexValue_24 : decode cX5_hexValue 24 = .ok (.bipush 102, 2) := by decide +kernel
theorem dX5_hexValue_26 : decode cX5_hexValue 26 = .ok (.if_icmp .gt 11, 3) := by decide +kernel
theorem dX5_hexValue_29 : decode cX5_hexValue 29 = .ok (.iload_n 0, 1) := by decide +kernel
theorem dX5_hexValue_30 : decode cX5_hexValue 30 = .ok (.bipush 97, 2) := by decide +kernel
theorem dX5_hexValue_32 : decode cX5_hexValue 32 = .ok (.isub, 1) := by decide +kernel
theorem dX5_hexValue_33 : decode cX5_hexValue 33 = .ok (.bipush 10, 2) := by decide +kernel
theorem dX5_hexValue_35 : decode cX5_hexValue 35 = .ok (.iadd, 1) := by decide +kernel
theorem dX5_hexValue_36 : decode cX5_hexValue 36 = .ok (.ireturn, 1) := by decide +kernel
theorem dX5_hexValue_37 : decode cX5_hexValue 37 = .ok (.iconst (-1), 1) := by decide +kernel
theorem dX5_hexValue_38 : decode cX5_hexValue 38 = .ok (.ireturn, 1) := by decide +kernel
theorem dX6_init_0 : decode cX6_init 0 = .ok (.aload_n 0, 1) := by decide +kernel
theorem dX6_init_1 : decode cX6_init 1 = .ok (.invokespecial 1, 3) := by decide +kernel
theorem dX6_init_4 : decode cX6_init 4 = .ok (.aload_n 0, 1) := by decide +kernel
theorem dX6_init_5 : decode cX6_init 5 = .ok (.new 7, 3) := by decide +kernel
theorem dX6_init_8 : decode cX6_init 8 = .ok (.dup, 1) := by decide +kernel
theorem dX6_init_9 : decode cX6_init 9 = .ok (.invokespecial 9, 3) := by decide +kernel
theorem dX6_init_12 : decode cX6_init 12 = .ok (.putfield 10, 3) := by decide +kernel
theorem dX6_init_15 : decode cX6_init 15 = .ok (.aload_n 0, 1) := by decide +kernel
theorem dX6_init_16 : decode cX6_init 16 = .ok (.new 7, 3) := by decide +kernel
theorem dX6_init_19 : decode cX6_init 19 = .ok (.dup, 1) := by decide +kernel
theorem dX6_init_20 : decode cX6_init 20 = .ok (.invokespecial 9, 3) := by decide +kernel
theorem dX6_init_23 : decode cX6_init 23 = .ok (.putfield 16, 3) := by decide +kernel
theorem dX6_init_26 : decode cX6_init 26 = .ok (.aload_n 0, 1) := by decide +kernel
theorem dX6_init_27 : decode cX6_init 27 = .ok (.new 7, 3) := by decide +kernel
theorem dX6_init_30 : decode cX6_init 30 = .ok (.dup, 1) := by decide +kernel
theorem dX6_init_31 : decode cX6_init 31 = .ok (.invokespecial 9, 3) := by decide +kernel
theorem dX6_init_34 : decode cX6_init 34 = .ok (.putfield 19, 3) := by decide +kernel
theorem dX6_init_37 : decode cX6_init 37 = .ok (.aload_n 0, 1) := by decide +kernel
theorem dX6_init_38 : decode cX6_init 38 = .ok (.iconst 0, 1) := by decide +kernel
theorem dX6_init_39 : decode cX6_init 39 = .ok (.putfield 22, 3) := by decide +kernel
theorem dX6_init_42 : decode cX6_init 42 = .ok (.aload_n 0, 1) := by decide +kernel
theorem dX6_init_43 : decode cX6_init 43 = .ok (.new 26, 3) := by decide +kernel
theorem dX6_init_46 : decode cX6_init 46 = .ok (.dup, 1) := by decide +kernel
theorem dX6_init_47 : decode cX6_init 47 = .ok (.invokespecial 28, 3) := by decide +kernel
theorem dX6_init_50 : decode cX6_init 50 = .ok (.putfield 29, 3) := by decide +kernel
theorem dX6_init_53 : decode cX6_init 53 = .ok (.aload_n 0, 1) := by decide +kernel
theorem dX6_init_54 : decode cX6_init 54 = .ok (.new 33, 3) := by decide +kernel
theorem dX6_init_57 : decode cX6_init 57 = .ok (.dup, 1) := by decide +kernel
theorem dX6_init_58 : decode cX6_init 58 = .ok (.invokespecial 35, 3) := by decide +kernel
theorem dX6_init_61 : decode cX6_init 61 = .ok (.putfield 36, 3) := by decide +kernel
theorem dX6_init_64 : decode cX6_init 64 = .ok (.return_, 1) := by decide +kernel
theorem dX6_add_0 : decode cX6_add 0 = .ok (.iload_n 1, 1) := by decide +kernel
theorem dX6_add_1 : decode cX6_add 1 = .ok (.iconst 2, 1) := by decide +kernel
theorem dX6_add_2 : decode cX6_add 2 = .ok (.bipush 6, 2) := by decide +kernel
theorem dX6_add_4 : decode cX6_add 4 = .ok (.invokestatic 40, 3) := by decide +kernel
theorem dX6_add_7 : decode cX6_add 7 = .ok (.ifCond .eq 20, 3) := by decide +kernel
theorem dX6_add_10 : decode cX6_add 10 = .ok (.iload_n 2, 1) := by decide +kernel
theorem dX6_add_11 : decode cX6_add 11 = .ok (.invokestatic 44, 3) := by decide +kernel
theorem dX6_add_14 : decode cX6_add 14 = .ok (.ifCond .eq 13, 3) := by decide +kernel
theorem dX6_add_17 : decode cX6_add 17 = .ok (.iload_n 3, 1) := by decide +kernel
theorem dX6_add_18 : decode cX6_add 18 = .ok (.iconst 1, 1) := by decide +kernel
theorem dX6_add_19 : decode cX6_add 19 = .ok (.bipush 8, 2) := by decide +kernel
theorem dX6_add_21 : decode cX6_add 21 = .ok (.invokestatic 40, 3) := by decide +kernel
theorem dX6_add_24 : decode cX6_add 24 = .ok (.ifCond .ne 6, 3) := by decide +kernel
theorem dX6_add_27 : decode cX6_add 27 = .ok (.bipush (-2), 2) := by decide +kernel
theorem dX6_add_29 : decode cX6_add 29 = .ok (.ireturn, 1) := by decide +kernel
theorem dX6_add_30 : decode cX6_add 30 = .ok (.aload_n 0, 1) := by decide +kernel
theorem dX6_add_31 : decode cX6_add 31 = .ok (.getfield 10, 3) := by decide +kernel
theorem dX6_add_34 : decode cX6_add 34 = .ok (.getfield 48, 3) := by decide +kernel
theorem dX6_add_37 : decode cX6_add 37 = .ok (.bipush 6, 2) := by decide +kernel
theorem dX6_add_39 : decode cX6_add 39 = .ok (.if_icmp .lt 6, 3) := by decide +kernel
theorem dX6_add_42 : decode cX6_add 42 = .ok (.bipush (-3), 2) := by decide +kernel
theorem dX6_add_44 : decode cX6_add 44 = .ok (.ireturn, 1) := by decide +kernel
theorem dX6_add_45 : decode cX6_add 45 = .ok (.aload_n 0, 1) := by decide +kernel
theorem dX6_add_46 : decode cX6_add 46 = .ok (.getfield 29, 3) := by decide +kernel
theorem dX6_add_49 : decode cX6_add 49 = .ok (.aload_n 0, 1) := by decide +kernel
theorem dX6_add_50 : decode cX6_add 50 = .ok (.getfield 10, 3) := by decide +kernel
theorem dX6_add_53 : decode cX6_add 53 = .ok (.invokevirtual 52, 3) := by decide +kernel
theorem dX6_add_56 : decode cX6_add 56 = .ok (.aload_n 0, 1) := by decide +kernel
theorem dX6_add_57 : decode cX6_add 57 = .ok (.getfield 10, 3) := by decide +kernel
theorem dX6_add_60 : decode cX6_add 60 = .ok (.iload_n 1, 1) := by decide +kernel
theorem dX6_add_61 : decode cX6_add 61 = .ok (.iload_n 2, 1) := by decide +kernel
theorem dX6_add_62 : decode cX6_add 62 = .ok (.iload_n 3, 1) := by decide +kernel
theorem dX6_add_63 : decode cX6_add 63 = .ok (.invokevirtual 56, 3) := by decide +kernel
theorem dX6_add_66 : decode cX6_add 66 = .ok (.ireturn, 1) := by decide +kernel
theorem dX6_take_0 : decode cX6_take 0 = .ok (.aload_n 0, 1) := by decide +kernel
theorem dX6_take_1 : decode cX6_take 1 = .ok (.getfield 10, 3) := by decide +kernel
theorem dX6_take_4 : decode cX6_take 4 = .ok (.iload_n 1, 1) := by decide +kernel
theorem dX6_take_5 : decode cX6_take 5 = .ok (.invokevirtual 60, 3) := by decide +kernel
theorem dX6_take_8 : decode cX6_take 8 = .ok (.ifCond .ne 5, 3) := by decide +kernel
theorem dX6_take_11 : decode cX6_take 11 = .ok (.iconst (-1), 1) := by decide +kernel
theorem dX6_take_12 : decode cX6_take 12 = .ok (.ireturn, 1) := by decide +kernel
theorem dX6_take_13 : decode cX6_take 13 = .ok (.aload_n 0, 1) := by decide +kernel
theorem dX6_take_14 : decode cX6_take 14 = .ok (.getfield 29, 3) := by decide +kernel
theorem dX6_take_17 : decode cX6_take 17 = .ok (.aload_n 0, 1) := by decide +kernel
theorem dX6_take_18 : decode cX6_take 18 = .ok (.getfield 10, 3) := by decide +kernel
theorem dX6_take_21 : decode cX6_take 21 = .ok (.invokevirtual 52, 3) := by decide +kernel
theorem dX6_take_24 : decode cX6_take 24 = .ok (.aload_n 0, 1) := by decide +kernel
theorem dX6_take_25 : decode cX6_take 25 = .ok (.getfield 10, 3) := by decide +kernel
theorem dX6_take_28 : decode cX6_take 28 = .ok (.iload_n 1, 1) := by decide +kernel
theorem dX6_take_29 : decode cX6_take 29 = .ok (.invokevirtual 63, 3) := by decide +kernel
theorem dX6_take_32 : decode cX6_take 32 = .ok (.ireturn, 1) := by decide +kernel
theorem dX6_setPins_0 : decode cX6_setPins 0 = .ok (.aload_n 0, 1) := by decide +kernel
theorem dX6_setPins_1 : decode cX6_setPins 1 = .ok (.getfield 10, 3) := by decide +kernel
theorem dX6_setPins_4 : decode cX6_setPins 4 = .ok (.iload_n 1, 1) := by decide +kernel
theorem dX6_setPins_5 : decode cX6_setPins 5 = .ok (.invokevirtual 60, 3) := by decide +kernel
theorem dX6_setPins_8 : decode cX6_setPins 8 = .ok (.ifCond .ne 5, 3) := by decide +kernel
theorem dX6_setPins_11 : decode cX6_setPins 11 = .ok (.iconst (-1), 1) := by decide +kernel
theorem dX6_setPins_12 : decode cX6_setPins 12 = .ok (.ireturn, 1) := by decide +kernel
theorem dX6_setPins_13 : decode cX6_setPins 13 = .ok (.iload_n 2, 1) := by decide +kernel
theorem dX6_setPins_14 : decode cX6_setPins 14 = .ok (.iconst 0, 1) := by decide +kernel
theorem dX6_setPins_15 : decode cX6_setPins 15 = .ok (.sipush 255, 3) := by decide +kernel
theorem dX6_setPins_18 : decode cX6_setPins 18 = .ok (.invokestatic 40, 3) := by decide +kernel
theorem dX6_setPins_21 : decode cX6_setPins 21 = .ok (.ifCond .ne 6, 3) := by decide +kernel
theorem dX6_setPins_24 : decode cX6_setPins 24 = .ok (.bipush (-2), 2) := by decide +kernel
theorem dX6_setPins_26 : decode cX6_setPins 26 = .ok (.ireturn, 1) := by decide +kernel
theorem dX6_setPins_27 : decode cX6_setPins 27 = .ok (.aload_n 0, 1) := by decide +kernel
theorem dX6_setPins_28 : decode cX6_setPins 28 = .ok (.getfield 29, 3) := by decide +kernel
theorem dX6_setPins_31 : decode cX6_setPins 31 = .ok (.aload_n 0, 1) := by decide +kernel
theorem dX6_setPins_32 : decode cX6_setPins 32 = .ok (.getfield 10, 3) := by decide +kernel
theorem dX6_setPins_35 : decode cX6_setPins 35 = .ok (.invokevirtual 52, 3) := by decide +kernel
theorem dX6_setPins_38 : decode cX6_setPins 38 = .ok (.aload_n 0, 1) := by decide +kernel
theorem dX6_setPins_39 : decode cX6_setPins 39 = .ok (.getfield 10, 3) := by decide +kernel
theorem dX6_setPins_42 : decode cX6_setPins 42 = .ok (.getfield 67, 3) := by decide +kernel
theorem dX6_setPins_45 : decode cX6_setPins 45 = .ok (.iload_n 1, 1) := by decide +kernel
theorem dX6_setPins_46 : decode cX6_setPins 46 = .ok (.aaload, 1) := by decide +kernel
theorem dX6_setPins_47 : decode cX6_setPins 47 = .ok (.iload_n 2, 1) := by decide +kernel
theorem dX6_setPins_48 : decode cX6_setPins 48 = .ok (.invokevirtual 71, 3) := by decide +kernel
theorem dX6_setPins_51 : decode cX6_setPins 51 = .ok (.ireturn, 1) := by decide +kernel
theorem dX6_breakChip_0 : decode cX6_breakChip 0 = .ok (.aload_n 0, 1) := by decide +kernel
theorem dX6_breakChip_1 : decode cX6_breakChip 1 = .ok (.getfield 10, 3) := by decide +kernel
theorem dX6_breakChip_4 : decode cX6_breakChip 4 = .ok (.iload_n 1, 1) := by decide +kernel
theorem dX6_breakChip_5 : decode cX6_breakChip 5 = .ok (.invokevirtual 60, 3) := by decide +kernel
theorem dX6_breakChip_8 : decode cX6_breakChip 8 = .ok (.ifCond .ne 5, 3) := by decide +kernel
theorem dX6_breakChip_11 : decode cX6_breakChip 11 = .ok (.iconst (-1), 1) := by decide +kernel
theorem dX6_breakChip_12 : decode cX6_breakChip 12 = .ok (.ireturn, 1) := by decide +kernel
theorem dX6_breakChip_13 : decode cX6_breakChip 13 = .ok (.aload_n 0, 1) := by decide +kernel
theorem dX6_breakChip_14 : decode cX6_breakChip 14 = .ok (.getfield 29, 3) := by decide +kernel
theorem dX6_breakChip_17 : decode cX6_breakChip 17 = .ok (.aload_n 0, 1) := by decide +kernel
theorem dX6_breakChip_18 : decode cX6_breakChip 18 = .ok (.getfield 10, 3) := by decide +kernel
theorem dX6_breakChip_21 : decode cX6_breakChip 21 = .ok (.invokevirtual 52, 3) := by decide +kernel
theorem dX6_breakChip_24 : decode cX6_breakChip 24 = .ok (.aload_n 0, 1) := by decide +kernel
theorem dX6_breakChip_25 : decode cX6_breakChip 25 = .ok (.getfield 10, 3) := by decide +kernel
theorem dX6_breakChip_28 : decode cX6_breakChip 28 = .ok (.getfield 67, 3) := by decide +kernel
theorem dX6_breakChip_31 : decode cX6_breakChip 31 = .ok (.iload_n 1, 1) := by decide +kernel
theorem dX6_breakChip_32 : decode cX6_breakChip 32 = .ok (.aaload, 1) := by decide +kernel
theorem dX6_breakChip_33 : decode cX6_breakChip 33 = .ok (.iload_n 2, 1) := by decide +kernel
theorem dX6_breakChip_34 : decode cX6_breakChip 34 = .ok (.putfield 76, 3) := by decide +kernel
theorem dX6_breakChip_37 : decode cX6_breakChip 37 = .ok (.aload_n 0, 1) := by decide +kernel
theorem dX6_breakChip_38 : decode cX6_breakChip 38 = .ok (.getfield 10, 3) := by decide +kernel
theorem dX6_breakChip_41 : decode cX6_breakChip 41 = .ok (.invokevirtual 79, 3) := by decide +kernel
theorem dX6_breakChip_44 : decode cX6_breakChip 44 = .ok (.ireturn, 1) := by decide +kernel
theorem dX6_clock_0 : decode cX6_clock 0 = .ok (.iload_n 1, 1) := by decide +kernel
theorem dX6_clock_1 : decode cX6_clock 1 = .ok (.iconst 0, 1) := by decide +kernel
theorem dX6_clock_2 : decode cX6_clock 2 = .ok (.iconst 1, 1) := by decide +kernel
theorem dX6_clock_3 : decode cX6_clock 3 = .ok (.invokestatic 40, 3) := by decide +kernel
theorem dX6_clock_6 : decode cX6_clock 6 = .ok (.ifCond .eq 12, 3) := by decide +kernel
theorem dX6_clock_9 : decode cX6_clock 9 = .ok (.iload_n 2, 1) := by decide +kernel
theorem dX6_clock_10 : decode cX6_clock 10 = .ok (.iconst 0, 1) := by decide +kernel
theorem dX6_clock_11 : decode cX6_clock 11 = .ok (.iconst 1, 1) := by decide +kernel
theorem dX6_clock_12 : decode cX6_clock 12 = .ok (.invokestatic 40, 3) := by decide +kernel
theorem dX6_clock_15 : decode cX6_clock 15 = .ok (.ifCond .ne 6, 3) := by decide +kernel
theorem dX6_clock_18 : decode cX6_clock 18 = .ok (.bipush (-2), 2) := by decide +kernel
theorem dX6_clock_20 : decode cX6_clock 20 = .ok (.ireturn, 1) := by decide +kernel
theorem dX6_clock_21 : decode cX6_clock 21 = .ok (.aload_n 0, 1) := by decide +kernel
theorem dX6_clock_22 : decode cX6_clock 22 = .ok (.getfield 29, 3) := by decide +kernel
theorem dX6_clock_25 : decode cX6_clock 25 = .ok (.aload_n 0, 1) := by decide +kernel
theorem dX6_clock_26 : decode cX6_clock 26 = .ok (.getfield 10, 3) := by decide +kernel
theorem dX6_clock_29 : decode cX6_clock 29 = .ok (.invokevirtual 52, 3) := by decide +kernel
theorem dX6_clock_32 : decode cX6_clock 32 = .ok (.aload_n 0, 1) := by decide +kernel
theorem dX6_clock_33 : decode cX6_clock 33 = .ok (.getfield 10, 3) := by decide +kernel
theorem dX6_clock_36 : decode cX6_clock 36 = .ok (.iload_n 1, 1) := by decide +kernel
theorem dX6_clock_37 : decode cX6_clock 37 = .ok (.iload_n 2, 1) := by decide +kernel
theorem dX6_clock_38 : decode cX6_clock 38 = .ok (.invokevirtual 83, 3) := by decide +kernel
theorem dX6_clock_41 : decode cX6_clock 41 = .ok (.ireturn, 1) := by decide +kernel
theorem dX6_move_0 : decode cX6_move 0 = .ok (.iload_n 1, 1) := by decide +kernel
theorem dX6_move_1 : decode cX6_move 1 = .ok (.invokestatic 87, 3) := by decide +kernel
theorem dX6_move_4 : decode cX6_move 4 = .ok (.ifCond .ne 6, 3) := by decide +kernel
theorem dX6_move_7 : decode cX6_move 7 = .ok (.bipush (-2), 2) := by decide +kernel
theorem dX6_move_9 : decode cX6_move 9 = .ok (.ireturn, 1) := by decide +kernel
theorem dX6_move_10 : decode cX6_move 10 = .ok (.aload_n 0, 1) := by decide +kernel
theorem dX6_move_11 : decode cX6_move 11 = .ok (.getfield 29, 3) := by decide +kernel
theorem dX6_move_14 : decode cX6_move 14 = .ok (.aload_n 0, 1) := by decide +kernel
theorem dX6_move_15 : decode cX6_move 15 = .ok (.getfield 10, 3) := by decide +kernel
theorem dX6_move_18 : decode cX6_move 18 = .ok (.invokevirtual 52, 3) := by decide +kernel
theorem dX6_move_21 : decode cX6_move 21 = .ok (.aload_n 0, 1) := by decide +kernel
theorem dX6_move_22 : decode cX6_move 22 = .ok (.getfield 10, 3) := by decide +kernel
theorem dX6_move_25 : decode cX6_move 25 = .ok (.iload_n 1, 1) := by decide +kernel
theorem dX6_move_26 : decode cX6_move 26 = .ok (.invokestatic 92, 3) := by decide +kernel
theorem dX6_move_29 : decode cX6_move 29 = .ok (.ireturn, 1) := by decide +kernel
theorem dX6_identify_0 : decode cX6_identify 0 = .ok (.aload_n 0, 1) := by decide +kernel
theorem dX6_identify_1 : decode cX6_identify 1 = .ok (.getfield 29, 3) := by decide +kernel
theorem dX6_identify_4 : decode cX6_identify 4 = .ok (.aload_n 0, 1) := by decide +kernel
theorem dX6_identify_5 : decode cX6_identify 5 = .ok (.getfield 10, 3) := by decide +kernel
theorem dX6_identify_8 : decode cX6_identify 8 = .ok (.invokevirtual 52, 3) := by decide +kernel
theorem dX6_identify_11 : decode cX6_identify 11 = .ok (.aload_n 0, 1) := by decide +kernel
theorem dX6_identify_12 : decode cX6_identify 12 = .ok (.getfield 10, 3) := by decide +kernel
theorem dX6_identify_15 : decode cX6_identify 15 = .ok (.invokestatic 98, 3) := by decide +kernel
theorem dX6_identify_18 : decode cX6_identify 18 = .ok (.ireturn, 1) := by decide +kernel
theorem dX6_load_0 : decode cX6_load 0 = .ok (.aload_n 0, 1) := by decide +kernel
theorem dX6_load_1 : decode cX6_load 1 = .ok (.getfield 10, 3) := by decide +kernel
theorem dX6_load_4 : decode cX6_load 4 = .ok (.iload_n 1, 1) := by decide +kernel
theorem dX6_load_5 : decode cX6_load 5 = .ok (.invokevirtual 60, 3) := by decide +kernel
theorem dX6_load_8 : decode cX6_load 8 = .ok (.ifCond .ne 5, 3) := by decide +kernel
theorem dX6_load_11 : decode cX6_load 11 = .ok (.iconst (-1), 1) := by decide +kernel
theorem dX6_load_12 : decode cX6_load 12 = .ok (.ireturn, 1) := by decide +kernel
theorem dX6_load_13 : decode cX6_load 13 = .ok (.iload_n 2, 1) := by decide +kernel
theorem dX6_load_14 : decode cX6_load 14 = .ok (.iconst 0, 1) := by decide +kernel
theorem dX6_load_15 : decode cX6_load 15 = .ok (.bipush 63, 2) := by decide +kernel
theorem dX6_load_17 : decode cX6_load 17 = .ok (.invokestatic 40, 3) := by decide +kernel
theorem dX6_load_20 : decode cX6_load 20 = .ok (.ifCond .ne 6, 3) := by decide +kernel
theorem dX6_load_23 : decode cX6_load 23 = .ok (.bipush (-2), 2) := by decide +kernel
theorem dX6_load_25 : decode cX6_load 25 = .ok (.ireturn, 1) := by decide +kernel
theorem dX6_load_26 : decode cX6_load 26 = .ok (.aload_n 0, 1) := by decide +kernel
theorem dX6_load_27 : decode cX6_load 27 = .ok (.getfield 29, 3) := by decide +kernel
theorem dX6_load_30 : decode cX6_load 30 = .ok (.aload_n 0, 1) := by decide +kernel
theorem dX6_load_31 : decode cX6_load 31 = .ok (.getfield 10, 3) := by decide +kernel
theorem dX6_load_34 : decode cX6_load 34 = .ok (.invokevirtual 52, 3) := by decide +kernel
theorem dX6_load_37 : decode cX6_load 37 = .ok (.aload_n 0, 1) := by decide +kernel
theorem dX6_load_38 : decode cX6_load 38 = .ok (.getfield 10, 3) := by decide +kernel
theorem dX6_load_41 : decode cX6_load 41 = .ok (.iload_n 1, 1) := by decide +kernel
theorem dX6_load_42 : decode cX6_load 42 = .ok (.iload_n 2, 1) := by decide +kernel
theorem dX6_load_43 : decode cX6_load 43 = .ok (.invokestatic 102, 3) := by decide +kernel
theorem dX6_load_46 : decode cX6_load 46 = .ok (.aload_n 0, 1) := by decide +kernel
theorem dX6_load_47 : decode cX6_load 47 = .ok (.getfield 10, 3) := by decide +kernel
theorem dX6_load_50 : decode cX6_load 50 = .ok (.getfield 67, 3) := by decide +kernel
theorem dX6_load_53 : decode cX6_load 53 = .ok (.iload_n 1, 1) := by decide +kernel
theorem dX6_load_54 : decode cX6_load 54 = .ok (.aaload, 1) := by decide +kernel
theorem dX6_load_55 : decode cX6_load 55 = .ok (.invokevirtual 106, 3) := by decide +kernel
theorem dX6_load_58 : decode cX6_load 58 = .ok (.ireturn, 1) := by decide +kernel
theorem dX6_exchange_0 : decode cX6_exchange 0 = .ok (.aload_n 0, 1) := by decide +kernel
theorem dX6_exchange_1 : decode cX6_exchange 1 = .ok (.iload_n 1, 1) := by decide +kernel
theorem dX6_exchange_2 : decode cX6_exchange 2 = .ok (.iload_n 2, 1) := by decide +kernel
theorem dX6_exchange_3 : decode cX6_exchange 3 = .ok (.invokevirtual 109, 3) := by decide +kernel
theorem dX6_exchange_6 : decode cX6_exchange 6 = .ok (.istore_n 3, 1) := by decide +kernel
theorem dX6_exchange_7 : decode cX6_exchange 7 = .ok (.iload_n 3, 1) := by decide +kernel
theorem dX6_exchange_8 : decode cX6_exchange 8 = .ok (.ifCond .eq 5, 3) := by decide +kernel
theorem dX6_exchange_11 : decode cX6_exchange 11 = .ok (.iload_n 3, 1) := by decide +kernel
theorem dX6_exchange_12 : decode cX6_exchange 12 = .ok (.ireturn, 1) := by decide +kernel
theorem dX6_exchange_13 : decode cX6_exchange 13 = .ok (.aload_n 0, 1) := by decide +kernel
theorem dX6_exchange_14 : decode cX6_exchange 14 = .ok (.getfield 29, 3) := by decide +kernel
theorem dX6_exchange_17 : decode cX6_exchange 17 = .ok (.aload_n 0, 1) := by decide +kernel
theorem dX6_exchange_18 : decode cX6_exchange 18 = .ok (.getfield 10, 3) := by decide +kernel
theorem dX6_exchange_21 : decode cX6_exchange 21 = .ok (.invokevirtual 52, 3) := by decide +kernel
theorem dX6_exchange_24 : decode cX6_exchange 24 = .ok (.aload_n 0, 1) := by decide +kernel
theorem dX6_exchange_25 : decode cX6_exchange 25 = .ok (.getfield 10, 3) := by decide +kernel
theorem dX6_exchange_28 : decode cX6_exchange 28 = .ok (.iload_n 1, 1) := by decide +kernel
theorem dX6_exchange_29 : decode cX6_exchange 29 = .ok (.iload_n 2, 1) := by decide +kernel
theorem dX6_exchange_30 : decode cX6_exchange 30 = .ok (.invokestatic 112, 3) := by decide +kernel
theorem dX6_exchange_33 : decode cX6_exchange 33 = .ok (.ireturn, 1) := by decide +kernel
theorem dX6_append_0 : decode cX6_append 0 = .ok (.iload_n 1, 1) := by decide +kernel
theorem dX6_append_1 : decode cX6_append 1 = .ok (.bipush 32, 2) := by decide +kernel
theorem dX6_append_3 : decode cX6_append 3 = .ok (.bipush 126, 2) := by decide +kernel
theorem dX6_append_5 : decode cX6_append 5 = .ok (.invokestatic 40, 3) := by decide +kernel
theorem dX6_append_8 : decode cX6_append 8 = .ok (.ifCond .ne 6, 3) := by decide +kernel
theorem dX6_append_11 : decode cX6_append 11 = .ok (.bipush (-2), 2) := by decide +kernel
theorem dX6_append_13 : decode cX6_append 13 = .ok (.ireturn, 1) := by decide +kernel
theorem dX6_append_14 : decode cX6_append 14 = .ok (.aload_n 0, 1) := by decide +kernel
theorem dX6_append_15 : decode cX6_append 15 = .ok (.getfield 36, 3) := by decide +kernel
theorem dX6_append_18 : decode cX6_append 18 = .ok (.getfield 116, 3) := by decide +kernel
theorem dX6_append_21 : decode cX6_append 21 = .ok (.bipush 80, 2) := by decide +kernel
theorem dX6_append_23 : decode cX6_append 23 = .ok (.if_icmp .lt 6, 3) := by decide +kernel
theorem dX6_append_26 : decode cX6_append 26 = .ok (.bipush (-3), 2) := by decide +kernel
theorem dX6_append_28 : decode cX6_append 28 = .ok (.ireturn, 1) := by decide +kernel
theorem dX6_append_29 : decode cX6_append 29 = .ok (.aload_n 0, 1) := by decide +kernel
theorem dX6_append_30 : decode cX6_append 30 = .ok (.getfield 36, 3) := by decide +kernel
theorem dX6_append_33 : decode cX6_append 33 = .ok (.iload_n 1, 1) := by decide +kernel
theorem dX6_append_34 : decode cX6_append 34 = .ok (.invokevirtual 119, 3) := by decide +kernel
theorem dX6_append_37 : decode cX6_append 37 = .ok (.ireturn, 1) := by decide +kernel
theorem dX6_clearText_0 : decode cX6_clearText 0 = .ok (.aload_n 0, 1) := by decide +kernel
theorem dX6_clearText_1 : decode cX6_clearText 1 = .ok (.getfield 36, 3) := by decide +kernel
theorem dX6_clearText_4 : decode cX6_clearText 4 = .ok (.invokevirtual 122, 3) := by decide +kernel
theorem dX6_clearText_7 : decode cX6_clearText 7 = .ok (.ireturn, 1) := by decide +kernel
theorem dX6_fault_0 : decode cX6_fault 0 = .ok (.aload_n 0, 1) := by decide +kernel
theorem dX6_fault_1 : decode cX6_fault 1 = .ok (.getfield 36, 3) := by decide +kernel
theorem dX6_fault_4 : decode cX6_fault 4 = .ok (.invokevirtual 125, 3) := by decide +kernel
theorem dX6_fault_7 : decode cX6_fault 7 = .ok (.ireturn, 1) := by decide +kernel
theorem dX6_run_0 : decode cX6_run 0 = .ok (.aload_n 0, 1) := by decide +kernel
theorem dX6_run_1 : decode cX6_run 1 = .ok (.getfield 36, 3) := by decide +kernel
theorem dX6_run_4 : decode cX6_run 4 = .ok (.invokevirtual 125, 3) := by decide +kernel
theorem dX6_run_7 : decode cX6_run 7 = .ok (.istore_n 1, 1) := by decide +kernel
theorem dX6_run_8 : decode cX6_run 8 = .ok (.iload_n 1, 1) := by decide +kernel
theorem dX6_run_9 : decode cX6_run 9 = .ok (.bipush (-4), 2) := by decide +kernel
theorem dX6_run_11 : decode cX6_run 11 = .ok (.if_icmp .eq 8, 3) := by decide +kernel
theorem dX6_run_14 : decode cX6_run 14 = .ok (.bipush (-100), 2) := by decide +kernel
theorem dX6_run_16 : decode cX6_run 16 = .ok (.iload_n 1, 1) := by decide +kernel
theorem dX6_run_17 : decode cX6_run 17 = .ok (.isub, 1) := by decide +kernel
theorem dX6_run_18 : decode cX6_run 18 = .ok (.ireturn, 1) := by decide +kernel
theorem dX6_run_19 : decode cX6_run 19 = .ok (.aload_n 0, 1) := by decide +kernel
theorem dX6_run_20 : decode cX6_run 20 = .ok (.getfield 29, 3) := by decide +kernel
theorem dX6_run_23 : decode cX6_run 23 = .ok (.aload_n 0, 1) := by decide +kernel
theorem dX6_run_24 : decode cX6_run 24 = .ok (.getfield 10, 3) := by decide +kernel
theorem dX6_run_27 : decode cX6_run 27 = .ok (.invokevirtual 52, 3) := by decide +kernel
theorem dX6_run_30 : decode cX6_run 30 = .ok (.aload_n 0, 1) := by decide +kernel
theorem dX6_run_31 : decode cX6_run 31 = .ok (.getfield 10, 3) := by decide +kernel
theorem dX6_run_34 : decode cX6_run 34 = .ok (.aload_n 0, 1) := by decide +kernel
theorem dX6_run_35 : decode cX6_run 35 = .ok (.getfield 36, 3) := by decide +kernel
theorem dX6_run_38 : decode cX6_run 38 = .ok (.invokestatic 128, 3) := by decide +kernel
theorem dX6_run_41 : decode cX6_run 41 = .ok (.ireturn, 1) := by decide +kernel
theorem dX6_undo_0 : decode cX6_undo 0 = .ok (.aload_n 0, 1) := by decide +kernel
theorem dX6_undo_1 : decode cX6_undo 1 = .ok (.getfield 29, 3) := by decide +kernel
theorem dX6_undo_4 : decode cX6_undo 4 = .ok (.aload_n 0, 1) := by decide +kernel
theorem dX6_undo_5 : decode cX6_undo 5 = .ok (.getfield 10, 3) := by decide +kernel
theorem dX6_undo_8 : decode cX6_undo 8 = .ok (.invokevirtual 132, 3) := by decide +kernel
theorem dX6_undo_11 : decode cX6_undo 11 = .ok (.ireturn, 1) := by decide +kernel
theorem dX6_save_0 : decode cX6_save 0 = .ok (.aload_n 0, 1) := by decide +kernel
theorem dX6_save_1 : decode cX6_save 1 = .ok (.getfield 19, 3) := by decide +kernel
theorem dX6_save_4 : decode cX6_save 4 = .ok (.aload_n 0, 1) := by decide +kernel
theorem dX6_save_5 : decode cX6_save 5 = .ok (.getfield 10, 3) := by decide +kernel
theorem dX6_save_8 : decode cX6_save 8 = .ok (.invokevirtual 135, 3) := by decide +kernel
theorem dX6_save_11 : decode cX6_save 11 = .ok (.aload_n 0, 1) := by decide +kernel
theorem dX6_save_12 : decode cX6_save 12 = .ok (.iconst 1, 1) := by decide +kernel
theorem dX6_save_13 : decode cX6_save 13 = .ok (.putfield 22, 3) := by decide +kernel
theorem dX6_save_16 : decode cX6_save 16 = .ok (.aload_n 0, 1) := by decide +kernel
theorem dX6_save_17 : decode cX6_save 17 = .ok (.getfield 10, 3) := by decide +kernel
theorem dX6_save_20 : decode cX6_save 20 = .ok (.getfield 48, 3) := by decide +kernel
theorem dX6_save_23 : decode cX6_save 23 = .ok (.ireturn, 1) := by decide +kernel
theorem dX6_restore_0 : decode cX6_restore 0 = .ok (.aload_n 0, 1) := by decide +kernel
theorem dX6_restore_1 : decode cX6_restore 1 = .ok (.getfield 22, 3) := by decide +kernel
theorem dX6_restore_4 : decode cX6_restore 4 = .ok (.ifCond .ne 5, 3) := by decide +kernel
theorem dX6_restore_7 : decode cX6_restore 7 = .ok (.iconst (-1), 1) := by decide +kernel
theorem dX6_restore_8 : decode cX6_restore 8 = .ok (.ireturn, 1) := by decide +kernel
theorem dX6_restore_9 : decode cX6_restore 9 = .ok (.aload_n 0, 1) := by decide +kernel
theorem dX6_restore_10 : decode cX6_restore 10 = .ok (.getfield 29, 3) := by decide +kernel
theorem dX6_restore_13 : decode cX6_restore 13 = .ok (.aload_n 0, 1) := by decide +kernel
theorem dX6_restore_14 : decode cX6_restore 14 = .ok (.getfield 10, 3) := by decide +kernel
theorem dX6_restore_17 : decode cX6_restore 17 = .ok (.invokevirtual 52, 3) := by decide +kernel
theorem dX6_restore_20 : decode cX6_restore 20 = .ok (.aload_n 0, 1) := by decide +kernel
theorem dX6_restore_21 : decode cX6_restore 21 = .ok (.getfield 10, 3) := by decide +kernel
theorem dX6_restore_24 : decode cX6_restore 24 = .ok (.aload_n 0, 1) := by decide +kernel
theorem dX6_restore_25 : decode cX6_restore 25 = .ok (.getfield 19, 3) := by decide +kernel
theorem dX6_restore_28 : decode cX6_restore 28 = .ok (.invokevirtual 135, 3) := by decide +kernel
theorem dX6_restore_31 : decode cX6_restore 31 = .ok (.aload_n 0, 1) := by decide +kernel
theorem dX6_restore_32 : decode cX6_restore 32 = .ok (.getfield 10, 3) := by decide +kernel
theorem dX6_restore_35 : decode cX6_restore 35 = .ok (.getfield 48, 3) := by decide +kernel
theorem dX6_restore_38 : decode cX6_restore 38 = .ok (.ireturn, 1) := by decide +kernel
theorem dX6_chip_0 : decode cX6_chip 0 = .ok (.aload_n 0, 1) := by decide +kernel
theorem dX6_chip_1 : decode cX6_chip 1 = .ok (.getfield 10, 3) := by decide +kernel
theorem dX6_chip_4 : decode cX6_chip 4 = .ok (.iload_n 1, 1) := by decide +kernel
theorem dX6_chip_5 : decode cX6_chip 5 = .ok (.invokevirtual 60, 3) := by decide +kernel
theorem dX6_chip_8 : decode cX6_chip 8 = .ok (.ifCond .ne 5, 3) := by decide +kernel
theorem dX6_chip_11 : decode cX6_chip 11 = .ok (.iconst (-1), 1) := by decide +kernel
theorem dX6_chip_12 : decode cX6_chip 12 = .ok (.ireturn, 1) := by decide +kernel
theorem dX6_chip_13 : decode cX6_chip 13 = .ok (.aload_n 0, 1) := by decide +kernel
theorem dX6_chip_14 : decode cX6_chip 14 = .ok (.getfield 10, 3) := by decide +kernel
theorem dX6_chip_17 : decode cX6_chip 17 = .ok (.getfield 67, 3) := by decide +kernel
theorem dX6_chip_20 : decode cX6_chip 20 = .ok (.iload_n 1, 1) := by decide +kernel
theorem dX6_chip_21 : decode cX6_chip 21 = .ok (.aaload, 1) := by decide +kernel
theorem dX6_chip_22 : decode cX6_chip 22 = .ok (.iload_n 2, 1) := by decide +kernel
theorem dX6_chip_23 : decode cX6_chip 23 = .ok (.invokevirtual 138, 3) := by decide +kernel
theorem dX6_chip_26 : decode cX6_chip 26 = .ok (.ireturn, 1) := by decide +kernel
theorem dX6_count_0 : decode cX6_count 0 = .ok (.iload_n 1, 1) := by decide +kernel
theorem dX6_count_1 : decode cX6_count 1 = .ok (.tableswitch 123 0 8 #[51, 59, 67, 75, 83, 91, 99, 107, 115], 51) := by decide +kernel
theorem dX6_count_52 : decode cX6_count 52 = .ok (.aload_n 0, 1) := by decide +kernel
theorem dX6_count_53 : decode cX6_count 53 = .ok (.getfield 10, 3) := by decide +kernel
theorem dX6_count_56 : decode cX6_count 56 = .ok (.getfield 48, 3) := by decide +kernel
theorem dX6_count_59 : decode cX6_count 59 = .ok (.ireturn, 1) := by decide +kernel
theorem dX6_count_60 : decode cX6_count 60 = .ok (.aload_n 0, 1) := by decide +kernel
theorem dX6_count_61 : decode cX6_count 61 = .ok (.getfield 10, 3) := by decide +kernel
theorem dX6_count_64 : decode cX6_count 64 = .ok (.invokevirtual 79, 3) := by decide +kernel
theorem dX6_count_67 : decode cX6_count 67 = .ok (.ireturn, 1) := by decide +kernel
theorem dX6_count_68 : decode cX6_count 68 = .ok (.aload_n 0, 1) := by decide +kernel
theorem dX6_count_69 : decode cX6_count 69 = .ok (.getfield 10, 3) := by decide +kernel
theorem dX6_count_72 : decode cX6_count 72 = .ok (.getfield 141, 3) := by decide +kernel
theorem dX6_count_75 : decode cX6_count 75 = .ok (.ireturn, 1) := by decide +kernel
theorem dX6_count_76 : decode cX6_count 76 = .ok (.aload_n 0, 1) := by decide +kernel
theorem dX6_count_77 : decode cX6_count 77 = .ok (.getfield 10, 3) := by decide +kernel
theorem dX6_count_80 : decode cX6_count 80 = .ok (.getfield 144, 3) := by decide +kernel
theorem dX6_count_83 : decode cX6_count 83 = .ok (.ireturn, 1) := by decide +kernel
theorem dX6_count_84 : decode cX6_count 84 = .ok (.aload_n 0, 1) := by decide +kernel
theorem dX6_count_85 : decode cX6_count 85 = .ok (.getfield 10, 3) := by decide +kernel
theorem dX6_count_88 : decode cX6_count 88 = .ok (.invokevirtual 147, 3) := by decide +kernel
theorem dX6_count_91 : decode cX6_count 91 = .ok (.ireturn, 1) := by decide +kernel
theorem dX6_count_92 : decode cX6_count 92 = .ok (.aload_n 0, 1) := by decide +kernel
theorem dX6_count_93 : decode cX6_count 93 = .ok (.getfield 10, 3) := by decide +kernel
theorem dX6_count_96 : decode cX6_count 96 = .ok (.invokevirtual 150, 3) := by decide +kernel
theorem dX6_count_99 : decode cX6_count 99 = .ok (.ireturn, 1) := by decide +kernel
theorem dX6_count_100 : decode cX6_count 100 = .ok (.aload_n 0, 1) := by decide +kernel
theorem dX6_count_101 : decode cX6_count 101 = .ok (.getfield 10, 3) := by decide +kernel
theorem dX6_count_104 : decode cX6_count 104 = .ok (.getfield 153, 3) := by decide +kernel
theorem dX6_count_107 : decode cX6_count 107 = .ok (.ireturn, 1) := by decide +kernel
theorem dX6_count_108 : decode cX6_count 108 = .ok (.aload_n 0, 1) := by decide +kernel
theorem dX6_count_109 : decode cX6_count 109 = .ok (.getfield 29, 3) := by decide +kernel
theorem dX6_count_112 : decode cX6_count 112 = .ok (.getfield 156, 3) := by decide +kernel
theorem dX6_count_115 : decode cX6_count 115 = .ok (.ireturn, 1) := by decide +kernel
theorem dX6_count_116 : decode cX6_count 116 = .ok (.aload_n 0, 1) := by decide +kernel
theorem dX6_count_117 : decode cX6_count 117 = .ok (.getfield 36, 3) := by decide +kernel
theorem dX6_count_120 : decode cX6_count 120 = .ok (.getfield 116, 3) := by decide +kernel
theorem dX6_count_123 : decode cX6_count 123 = .ok (.ireturn, 1) := by decide +kernel
theorem dX6_count_124 : decode cX6_count 124 = .ok (.bipush (-2), 2) := by decide +kernel
theorem dX6_count_126 : decode cX6_count 126 = .ok (.ireturn, 1) := by decide +kernel
theorem dX6_found_0 : decode cX6_found 0 = .ok (.iload_n 1, 1) := by decide +kernel
theorem dX6_found_1 : decode cX6_found 1 = .ok (.ifCond .ge 6, 3) := by decide +kernel
theorem dX6_found_4 : decode cX6_found 4 = .ok (.bipush (-2), 2) := by decide +kernel
theorem dX6_found_6 : decode cX6_found 6 = .ok (.ireturn, 1) := by decide +kernel
theorem dX6_found_7 : decode cX6_found 7 = .ok (.iload_n 1, 1) := by decide +kernel
theorem dX6_found_8 : decode cX6_found 8 = .ok (.aload_n 0, 1) := by decide +kernel
theorem dX6_found_9 : decode cX6_found 9 = .ok (.getfield 10, 3) := by decide +kernel
theorem dX6_found_12 : decode cX6_found 12 = .ok (.getfield 153, 3) := by decide +kernel
theorem dX6_found_15 : decode cX6_found 15 = .ok (.if_icmp .lt 6, 3) := by decide +kernel
theorem dX6_found_18 : decode cX6_found 18 = .ok (.bipush (-4), 2) := by decide +kernel
theorem dX6_found_20 : decode cX6_found 20 = .ok (.ireturn, 1) := by decide +kernel
theorem dX6_found_21 : decode cX6_found 21 = .ok (.aload_n 0, 1) := by decide +kernel
theorem dX6_found_22 : decode cX6_found 22 = .ok (.getfield 10, 3) := by decide +kernel
theorem dX6_found_25 : decode cX6_found 25 = .ok (.getfield 157, 3) := by decide +kernel
theorem dX6_found_28 : decode cX6_found 28 = .ok (.iload_n 1, 1) := by decide +kernel
theorem dX6_found_29 : decode cX6_found 29 = .ok (.iaload, 1) := by decide +kernel
theorem dX6_found_30 : decode cX6_found 30 = .ok (.ireturn, 1) := by decide +kernel
theorem dX6_distance_0 : decode cX6_distance 0 = .ok (.iload_n 1, 1) := by decide +kernel
theorem dX6_distance_1 : decode cX6_distance 1 = .ok (.invokestatic 87, 3) := by decide +kernel
theorem dX6_distance_4 : decode cX6_distance 4 = .ok (.ifCond .eq 10, 3) := by decide +kernel
theorem dX6_distance_7 : decode cX6_distance 7 = .ok (.iload_n 2, 1) := by decide +kernel
theorem dX6_distance_8 : decode cX6_distance 8 = .ok (.invokestatic 87, 3) := by decide +kernel
theorem dX6_distance_11 : decode cX6_distance 11 = .ok (.ifCond .ne 6, 3) := by decide +kernel
theorem dX6_distance_14 : decode cX6_distance 14 = .ok (.bipush (-2), 2) := by decide +kernel
theorem dX6_distance_16 : decode cX6_distance 16 = .ok (.ireturn, 1) := by decide +kernel
theorem dX6_distance_17 : decode cX6_distance 17 = .ok (.iload_n 1, 1) := by decide +kernel
theorem dX6_distance_18 : decode cX6_distance 18 = .ok (.iload_n 2, 1) := by decide +kernel
theorem dX6_distance_19 : decode cX6_distance 19 = .ok (.invokestatic 161, 3) := by decide +kernel
theorem dX6_distance_22 : decode cX6_distance 22 = .ok (.ireturn, 1) := by decide +kernel
theorem dX6_peek_0 : decode cX6_peek 0 = .ok (.iload_n 1, 1) := by decide +kernel
theorem dX6_peek_1 : decode cX6_peek 1 = .ok (.iconst 0, 1) := by decide +kernel
theorem dX6_peek_2 : decode cX6_peek 2 = .ok (.iconst 1, 1) := by decide +kernel
theorem dX6_peek_3 : decode cX6_peek 3 = .ok (.invokestatic 40, 3) := by decide +kernel
theorem dX6_peek_6 : decode cX6_peek 6 = .ok (.ifCond .ne 6, 3) := by decide +kernel
theorem dX6_peek_9 : decode cX6_peek 9 = .ok (.bipush (-2), 2) := by decide +kernel
theorem dX6_peek_11 : decode cX6_peek 11 = .ok (.ireturn, 1) := by decide +kernel
theorem dX6_peek_12 : decode cX6_peek 12 = .ok (.aload_n 0, 1) := by decide +kernel
theorem dX6_peek_13 : decode cX6_peek 13 = .ok (.getfield 10, 3) := by decide +kernel
theorem dX6_peek_16 : decode cX6_peek 16 = .ok (.iload_n 1, 1) := by decide +kernel
theorem dX6_peek_17 : decode cX6_peek 17 = .ok (.invokevirtual 164, 3) := by decide +kernel
theorem dX6_peek_20 : decode cX6_peek 20 = .ok (.ireturn, 1) := by decide +kernel
theorem dX6_ifIdentified_0 : decode cX6_ifIdentified 0 = .ok (.aload_n 0, 1) := by decide +kernel
theorem dX6_ifIdentified_1 : decode cX6_ifIdentified 1 = .ok (.getfield 16, 3) := by decide +kernel
theorem dX6_ifIdentified_4 : decode cX6_ifIdentified 4 = .ok (.aload_n 0, 1) := by decide +kernel
theorem dX6_ifIdentified_5 : decode cX6_ifIdentified 5 = .ok (.getfield 10, 3) := by decide +kernel
theorem dX6_ifIdentified_8 : decode cX6_ifIdentified 8 = .ok (.invokevirtual 135, 3) := by decide +kernel
theorem dX6_ifIdentified_11 : decode cX6_ifIdentified 11 = .ok (.aload_n 0, 1) := by decide +kernel
theorem dX6_ifIdentified_12 : decode cX6_ifIdentified 12 = .ok (.getfield 16, 3) := by decide +kernel
theorem dX6_ifIdentified_15 : decode cX6_ifIdentified 15 = .ok (.invokestatic 98, 3) := by decide +kernel
theorem dX6_ifIdentified_18 : decode cX6_ifIdentified 18 = .ok (.ireturn, 1) := by decide +kernel
theorem dX6_ifExchanged_0 : decode cX6_ifExchanged 0 = .ok (.aload_n 0, 1) := by decide +kernel
theorem dX6_ifExchanged_1 : decode cX6_ifExchanged 1 = .ok (.iload_n 1, 1) := by decide +kernel
theorem dX6_ifExchanged_2 : decode cX6_ifExchanged 2 = .ok (.iload_n 2, 1) := by decide +kernel
theorem dX6_ifExchanged_3 : decode cX6_ifExchanged 3 = .ok (.invokevirtual 109, 3) := by decide +kernel
theorem dX6_ifExchanged_6 : decode cX6_ifExchanged 6 = .ok (.istore_n 3, 1) := by decide +kernel
theorem dX6_ifExchanged_7 : decode cX6_ifExchanged 7 = .ok (.iload_n 3, 1) := by decide +kernel
theorem dX6_ifExchanged_8 : decode cX6_ifExchanged 8 = .ok (.ifCond .eq 5, 3) := by decide +kernel
theorem dX6_ifExchanged_11 : decode cX6_ifExchanged 11 = .ok (.iload_n 3, 1) := by decide +kernel
theorem dX6_ifExchanged_12 : decode cX6_ifExchanged 12 = .ok (.ireturn, 1) := by decide +kernel
theorem dX6_ifExchanged_13 : decode cX6_ifExchanged 13 = .ok (.aload_n 0, 1) := by decide +kernel
theorem dX6_ifExchanged_14 : decode cX6_ifExchanged 14 = .ok (.getfield 16, 3) := by decide +kernel
theorem dX6_ifExchanged_17 : decode cX6_ifExchanged 17 = .ok (.aload_n 0, 1) := by decide +kernel
theorem dX6_ifExchanged_18 : decode cX6_ifExchanged 18 = .ok (.getfield 10, 3) := by decide +kernel
theorem dX6_ifExchanged_21 : decode cX6_ifExchanged 21 = .ok (.invokevirtual 135, 3) := by decide +kernel
theorem dX6_ifExchanged_24 : decode cX6_ifExchanged 24 = .ok (.aload_n 0, 1) := by decide +kernel
theorem dX6_ifExchanged_25 : decode cX6_ifExchanged 25 = .ok (.getfield 16, 3) := by decide +kernel
theorem dX6_ifExchanged_28 : decode cX6_ifExchanged 28 = .ok (.iload_n 1, 1) := by decide +kernel
theorem dX6_ifExchanged_29 : decode cX6_ifExchanged 29 = .ok (.iload_n 2, 1) := by decide +kernel
theorem dX6_ifExchanged_30 : decode cX6_ifExchanged 30 = .ok (.invokestatic 112, 3) := by decide +kernel
theorem dX6_ifExchanged_33 : decode cX6_ifExchanged 33 = .ok (.ireturn, 1) := by decide +kernel
theorem dX6_bypassed_0 : decode cX6_bypassed 0 = .ok (.aload_n 0, 1) := by decide +kernel
theorem dX6_bypassed_1 : decode cX6_bypassed 1 = .ok (.getfield 10, 3) := by decide +kernel
theorem dX6_bypassed_4 : decode cX6_bypassed 4 = .ok (.getfield 48, 3) := by decide +kernel
theorem dX6_bypassed_7 : decode cX6_bypassed 7 = .ok (.ifCond .gt 5, 3) := by decide +kernel
theorem dX6_bypassed_10 : decode cX6_bypassed 10 = .ok (.fconst 0, 1) := by decide +kernel
theorem dX6_bypassed_11 : decode cX6_bypassed 11 = .ok (.freturn, 1) := by decide +kernel
theorem dX6_bypassed_12 : decode cX6_bypassed 12 = .ok (.aload_n 0, 1) := by decide +kernel
theorem dX6_bypassed_13 : decode cX6_bypassed 13 = .ok (.getfield 10, 3) := by decide +kernel
theorem dX6_bypassed_16 : decode cX6_bypassed 16 = .ok (.invokevirtual 167, 3) := by decide +kernel
theorem dX6_bypassed_19 : decode cX6_bypassed 19 = .ok (.i2f, 1) := by decide +kernel
theorem dX6_bypassed_20 : decode cX6_bypassed 20 = .ok (.aload_n 0, 1) := by decide +kernel
theorem dX6_bypassed_21 : decode cX6_bypassed 21 = .ok (.getfield 10, 3) := by decide +kernel
theorem dX6_bypassed_24 : decode cX6_bypassed 24 = .ok (.getfield 48, 3) := by decide +kernel
theorem dX6_bypassed_27 : decode cX6_bypassed 27 = .ok (.i2f, 1) := by decide +kernel
theorem dX6_bypassed_28 : decode cX6_bypassed 28 = .ok (.fdiv, 1) := by decide +kernel
theorem dX6_bypassed_29 : decode cX6_bypassed 29 = .ok (.freturn, 1) := by decide +kernel
theorem dX6_isWithin_0 : decode cX6_isWithin 0 = .ok (.iload_n 0, 1) := by decide +kernel
theorem dX6_isWithin_1 : decode cX6_isWithin 1 = .ok (.iload_n 1, 1) := by decide +kernel
theorem dX6_isWithin_2 : decode cX6_isWithin 2 = .ok (.if_icmp .lt 12, 3) := by decide +kernel
theorem dX6_isWithin_5 : decode cX6_isWithin 5 = .ok (.iload_n 0, 1) := by decide +kernel
theorem dX6_isWithin_6 : decode cX6_isWithin 6 = .ok (.iload_n 2, 1) := by decide +kernel
theorem dX6_isWithin_7 : decode cX6_isWithin 7 = .ok (.if_icmp .gt 7, 3) := by decide +kernel
theorem dX6_isWithin_10 : decode cX6_isWithin 10 = .ok (.iconst 1, 1) := by decide +kernel
theorem dX6_isWithin_11 : decode cX6_isWithin 11 = .ok (.goto 4, 3) := by decide +kernel
theorem dX6_isWithin_14 : decode cX6_isWithin 14 = .ok (.iconst 0, 1) := by decide +kernel
theorem dX6_isWithin_15 : decode cX6_isWithin 15 = .ok (.ireturn, 1) := by decide +kernel
theorem dX6_isIdentity_0 : decode cX6_isIdentity 0 = .ok (.iload_n 0, 1) := by decide +kernel
theorem dX6_isIdentity_1 : decode cX6_isIdentity 1 = .ok (.ifCond .eq 21, 3) := by decide +kernel
theorem dX6_isIdentity_4 : decode cX6_isIdentity 4 = .ok (.iload_n 0, 1) := by decide +kernel
theorem dX6_isIdentity_5 : decode cX6_isIdentity 5 = .ok (.iconst 1, 1) := by decide +kernel
theorem dX6_isIdentity_6 : decode cX6_isIdentity 6 = .ok (.sipush 253, 3) := by decide +kernel
theorem dX6_isIdentity_9 : decode cX6_isIdentity 9 = .ok (.invokestatic 40, 3) := by decide +kernel
theorem dX6_isIdentity_12 : decode cX6_isIdentity 12 = .ok (.ifCond .eq 14, 3) := by decide +kernel
theorem dX6_isIdentity_15 : decode cX6_isIdentity 15 = .ok (.iload_n 0, 1) := by decide +kernel
theorem dX6_isIdentity_16 : decode cX6_isIdentity 16 = .ok (.iconst 2, 1) := by decide +kernel
theorem dX6_isIdentity_17 : decode cX6_isIdentity 17 = .ok (.irem, 1) := by decide +kernel
theorem dX6_isIdentity_18 : decode cX6_isIdentity 18 = .ok (.iconst 1, 1) := by decide +kernel
theorem dX6_isIdentity_19 : decode cX6_isIdentity 19 = .ok (.if_icmp .ne 7, 3) := by decide +kernel
theorem dX6_isIdentity_22 : decode cX6_isIdentity 22 = .ok (.iconst 1, 1) := by decide +kernel
theorem dX6_isIdentity_23 : decode cX6_isIdentity 23 = .ok (.goto 4, 3) := by decide +kernel
theorem dX6_isIdentity_26 : decode cX6_isIdentity 26 = .ok (.iconst 0, 1) := by decide +kernel
theorem dX6_isIdentity_27 : decode cX6_isIdentity 27 = .ok (.ireturn, 1) := by decide +kernel
theorem dX6_exchangeError_0 : decode cX6_exchangeError 0 = .ok (.aload_n 0, 1) := by decide +kernel
theorem dX6_exchangeError_1 : decode cX6_exchangeError 1 = .ok (.getfield 10, 3) := by decide +kernel
theorem dX6_exchangeError_4 : decode cX6_exchangeError 4 = .ok (.iload_n 1, 1) := by decide +kernel
theorem dX6_exchangeError_5 : decode cX6_exchangeError 5 = .ok (.invokevirtual 60, 3) := by decide +kernel
theorem dX6_exchangeError_8 : decode cX6_exchangeError 8 = .ok (.ifCond .ne 5, 3) := by decide +kernel
theorem dX6_exchangeError_11 : decode cX6_exchangeError 11 = .ok (.iconst (-1), 1) := by decide +kernel
theorem dX6_exchangeError_12 : decode cX6_exchangeError 12 = .ok (.ireturn, 1) := by decide +kernel
theorem dX6_exchangeError_13 : decode cX6_exchangeError 13 = .ok (.iload_n 2, 1) := by decide +kernel
theorem dX6_exchangeError_14 : decode cX6_exchangeError 14 = .ok (.iconst 0, 1) := by decide +kernel
theorem dX6_exchangeError_15 : decode cX6_exchangeError 15 = .ok (.sipush 255, 3) := by decide +kernel
theorem dX6_exchangeError_18 : decode cX6_exchangeError 18 = .ok (.invokestatic 40, 3) := by decide +kernel
theorem dX6_exchangeError_21 : decode cX6_exchangeError 21 = .ok (.ifCond .eq 7, 3) := by decide +kernel
theorem dX6_exchangeError_24 : decode cX6_exchangeError 24 = .ok (.iconst 0, 1) := by decide +kernel
theorem dX6_exchangeError_25 : decode cX6_exchangeError 25 = .ok (.goto 5, 3) := by decide +kernel
theorem dX6_exchangeError_28 : decode cX6_exchangeError 28 = .ok (.bipush (-2), 2) := by decide +kernel
theorem dX6_exchangeError_30 : decode cX6_exchangeError 30 = .ok (.ireturn, 1) := by decide +kernel
theorem dX6_allOnes_0 : decode cX6_allOnes 0 = .ok (.iconst 1, 1) := by decide +kernel
theorem dX6_allOnes_1 : decode cX6_allOnes 1 = .ok (.iload_n 0, 1) := by decide +kernel
theorem dX6_allOnes_2 : decode cX6_allOnes 2 = .ok (.ishl, 1) := by decide +kernel
theorem dX6_allOnes_3 : decode cX6_allOnes 3 = .ok (.iconst 1, 1) := by decide +kernel
theorem dX6_allOnes_4 : decode cX6_allOnes 4 = .ok (.isub, 1) := by decide +kernel
theorem dX6_allOnes_5 : decode cX6_allOnes 5 = .ok (.ireturn, 1) := by decide +kernel
end
section
theorem dL_cell_0 : decode cL_cell 0 = .ok (.iload_n 1, 1) := by decide +kernel
theorem dL_cell_1 : decode cL_cell 1 = .ok (.aload_n 0, 1) := by decide +kernel
theorem dL_cell_2 : decode cL_cell 2 = .ok (.arraylength, 1) := by decide +kernel
theorem dL_cell_3 : decode cL_cell 3 = .ok (.if_icmp .ge 9, 3) := by decide +kernel
theorem dL_cell_6 : decode cL_cell 6 = .ok (.aload_n 0, 1) := by decide +kernel
theorem dL_cell_7 : decode cL_cell 7 = .ok (.iload_n 1, 1) := by decide +kernel
theorem dL_cell_8 : decode cL_cell 8 = .ok (.iaload, 1) := by decide +kernel
theorem dL_cell_9 : decode cL_cell 9 = .ok (.goto 14, 3) := by decide +kernel
theorem dL_cell_12 : decode cL_cell 12 = .ok (.ldc 7, 2) := by decide +kernel
theorem dL_cell_14 : decode cL_cell 14 = .ok (.iload_n 1, 1) := by decide +kernel
theorem dL_cell_15 : decode cL_cell 15 = .ok (.sipush 173, 3) := by decide +kernel
theorem dL_cell_18 : decode cL_cell 18 = .ok (.iadd, 1) := by decide +kernel
theorem dL_cell_19 : decode cL_cell 19 = .ok (.imul, 1) := by decide +kernel
theorem dL_cell_20 : decode cL_cell 20 = .ok (.ldc 8, 2) := by decide +kernel
theorem dL_cell_22 : decode cL_cell 22 = .ok (.iadd, 1) := by decide +kernel
theorem dL_cell_23 : decode cL_cell 23 = .ok (.ldc 9, 2) := by decide +kernel
theorem dL_cell_25 : decode cL_cell 25 = .ok (.iand, 1) := by decide +kernel
theorem dL_cell_26 : decode cL_cell 26 = .ok (.ireturn, 1) := by decide +kernel
theorem dL_seen_0 : decode cL_seen 0 = .ok (.ldc2_w 10, 3) := by decide +kernel
theorem dL_seen_3 : decode cL_seen 3 = .ok (.lstore_n 1, 1) := by decide +kernel
theorem dL_seen_4 : decode cL_seen 4 = .ok (.iconst 0, 1) := by decide +kernel
theorem dL_seen_5 : decode cL_seen 5 = .ok (.istore_n 3, 1) := by decide +kernel
theorem dL_seen_6 : decode cL_seen 6 = .ok (.iload_n 3, 1) := by decide +kernel
theorem dL_seen_7 : decode cL_seen 7 = .ok (.bipush 7, 2) := by decide +kernel
theorem dL_seen_9 : decode cL_seen 9 = .ok (.if_icmp .ge 22, 3) := by decide +kernel
theorem dL_seen_12 : decode cL_seen 12 = .ok (.ldc2_w 12, 3) := by decide +kernel
theorem dL_seen_15 : decode cL_seen 15 = .ok (.lload_n 1, 1) := by decide +kernel
theorem dL_seen_16 : decode cL_seen 16 = .ok (.lmul, 1) := by decide +kernel
theorem dL_seen_17 : decode cL_seen 17 = .ok (.aload_n 0, 1) := by decide +kernel
theorem dL_seen_18 : decode cL_seen 18 = .ok (.iload_n 3, 1) := by decide +kernel
theorem dL_seen_19 : decode cL_seen 19 = .ok (.invokevirtual 14, 3) := by decide +kernel
theorem dL_seen_22 : decode cL_seen 22 = .ok (.i2l, 1) := by decide +kernel
theorem dL_seen_23 : decode cL_seen 23 = .ok (.ladd, 1) := by decide +kernel
theorem dL_seen_24 : decode cL_seen 24 = .ok (.lstore_n 1, 1) := by decide +kernel
theorem dL_seen_25 : decode cL_seen 25 = .ok (.iinc 3 1, 3) := by decide +kernel
theorem dL_seen_28 : decode cL_seen 28 = .ok (.goto (-22), 3) := by decide +kernel
theorem dL_seen_31 : decode cL_seen 31 = .ok (.iconst 0, 1) := by decide +kernel
theorem dL_seen_32 : decode cL_seen 32 = .ok (.istore_n 3, 1) := by decide +kernel
theorem dL_seen_33 : decode cL_seen 33 = .ok (.iload_n 3, 1) := by decide +kernel
theorem dL_seen_34 : decode cL_seen 34 = .ok (.bipush 60, 2) := by decide +kernel
theorem dL_seen_36 : decode cL_seen 36 = .ok (.if_icmp .ge 29, 3) := by decide +kernel
theorem dL_seen_39 : decode cL_seen 39 = .ok (.ldc2_w 12, 3) := by decide +kernel
theorem dL_seen_42 : decode cL_seen 42 = .ok (.lload_n 1, 1) := by decide +kernel
theorem dL_seen_43 : decode cL_seen 43 = .ok (.lmul, 1) := by decide +kernel
theorem dL_seen_44 : decode cL_seen 44 = .ok (.aload_n 0, 1) := by decide +kernel
theorem dL_seen_45 : decode cL_seen 45 = .ok (.iload_n 3, 1) := by decide +kernel
theorem dL_seen_46 : decode cL_seen 46 = .ok (.bipush 10, 2) := by decide +kernel
theorem dL_seen_48 : decode cL_seen 48 = .ok (.idiv, 1) := by decide +kernel
theorem dL_seen_49 : decode cL_seen 49 = .ok (.iload_n 3, 1) := by decide +kernel
theorem dL_seen_50 : decode cL_seen 50 = .ok (.bipush 10, 2) := by decide +kernel
theorem dL_seen_52 : decode cL_seen 52 = .ok (.irem, 1) := by decide +kernel
theorem dL_seen_53 : decode cL_seen 53 = .ok (.invokevirtual 20, 3) := by decide +kernel
theorem dL_seen_56 : decode cL_seen 56 = .ok (.i2l, 1) := by decide +kernel
theorem dL_seen_57 : decode cL_seen 57 = .ok (.ladd, 1) := by decide +kernel
theorem dL_seen_58 : decode cL_seen 58 = .ok (.lstore_n 1, 1) := by decide +kernel
theorem dL_seen_59 : decode cL_seen 59 = .ok (.iinc 3 1, 3) := by decide +kernel
theorem dL_seen_62 : decode cL_seen 62 = .ok (.goto (-29), 3) := by decide +kernel
theorem dL_seen_65 : decode cL_seen 65 = .ok (.iconst 0, 1) := by decide +kernel
theorem dL_seen_66 : decode cL_seen 66 = .ok (.istore_n 3, 1) := by decide +kernel
theorem dL_seen_67 : decode cL_seen 67 = .ok (.iload_n 3, 1) := by decide +kernel
theorem dL_seen_68 : decode cL_seen 68 = .ok (.bipush 8, 2) := by decide +kernel
theorem dL_seen_70 : decode cL_seen 70 = .ok (.if_icmp .ge 22, 3) := by decide +kernel
theorem dL_seen_73 : decode cL_seen 73 = .ok (.ldc2_w 12, 3) := by decide +kernel
theorem dL_seen_76 : decode cL_seen 76 = .ok (.lload_n 1, 1) := by decide +kernel
theorem dL_seen_77 : decode cL_seen 77 = .ok (.lmul, 1) := by decide +kernel
theorem dL_seen_78 : decode cL_seen 78 = .ok (.aload_n 0, 1) := by decide +kernel
theorem dL_seen_79 : decode cL_seen 79 = .ok (.iload_n 3, 1) := by decide +kernel
theorem dL_seen_80 : decode cL_seen 80 = .ok (.invokevirtual 24, 3) := by decide +kernel
theorem dL_seen_83 : decode cL_seen 83 = .ok (.i2l, 1) := by decide +kernel
theorem dL_seen_84 : decode cL_seen 84 = .ok (.ladd, 1) := by decide +kernel
theorem dL_seen_85 : decode cL_seen 85 = .ok (.lstore_n 1, 1) := by decide +kernel
theorem dL_seen_86 : decode cL_seen 86 = .ok (.iinc 3 1, 3) := by decide +kernel
theorem dL_seen_89 : decode cL_seen 89 = .ok (.goto (-22), 3) := by decide +kernel
theorem dL_seen_92 : decode cL_seen 92 = .ok (.lload_n 1, 1) := by decide +kernel
theorem dL_seen_93 : decode cL_seen 93 = .ok (.lreturn, 1) := by decide +kernel
theorem dL_isWhole_0 : decode cL_isWhole 0 = .ok (.iconst 0, 1) := by decide +kernel
theorem dL_isWhole_1 : decode cL_isWhole 1 = .ok (.istore_n 1, 1) := by decide +kernel
theorem dL_isWhole_2 : decode cL_isWhole 2 = .ok (.iconst 0, 1) := by decide +kernel
theorem dL_isWhole_3 : decode cL_isWhole 3 = .ok (.istore_n 2, 1) := by decide +kernel
theorem dL_isWhole_4 : decode cL_isWhole 4 = .ok (.iconst 0, 1) := by decide +kernel
theorem dL_isWhole_5 : decode cL_isWhole 5 = .ok (.istore_n 3, 1) := by decide +kernel
theorem dL_isWhole_6 : decode cL_isWhole 6 = .ok (.iconst 0, 1) := by decide +kernel
theorem dL_isWhole_7 : decode cL_isWhole 7 = .ok (.istore 4, 2) := by decide +kernel
theorem dL_isWhole_9 : decode cL_isWhole 9 = .ok (.aload_n 0, 1) := by decide +kernel
theorem dL_isWhole_10 : decode cL_isWhole 10 = .ok (.iconst 0, 1) := by decide +kernel
theorem dL_isWhole_11 : decode cL_isWhole 11 = .ok (.invokevirtual 14, 3) := by decide +kernel
theorem dL_isWhole_14 : decode cL_isWhole 14 = .ok (.istore 5, 2) := by decide +kernel
theorem dL_isWhole_16 : decode cL_isWhole 16 = .ok (.iload 5, 2) := by decide +kernel
theorem dL_isWhole_18 : decode cL_isWhole 18 = .ok (.ifCond .lt 32, 3) := by decide +kernel
theorem dL_isWhole_21 : decode cL_isWhole 21 = .ok (.iload 5, 2) := by decide +kernel
theorem dL_isWhole_23 : decode cL_isWhole 23 = .ok (.bipush 7, 2) := by decide +kernel
theorem dL_isWhole_25 : decode cL_isWhole 25 = .ok (.if_icmp .ge 25, 3) := by decide +kernel
theorem dL_isWhole_28 : decode cL_isWhole 28 = .ok (.aload_n 0, 1) := by decide +kernel
theorem dL_isWhole_29 : decode cL_isWhole 29 = .ok (.iconst 2, 1) := by decide +kernel
theorem dL_isWhole_30 : decode cL_isWhole 30 = .ok (.invokevirtual 14, 3) := by decide +kernel
theorem dL_isWhole_33 : decode cL_isWhole 33 = .ok (.ifCond .lt 17, 3) := by decide +kernel
theorem dL_isWhole_36 : decode cL_isWhole 36 = .ok (.aload_n 0, 1) := by decide +kernel
theorem dL_isWhole_37 : decode cL_isWhole 37 = .ok (.iconst 2, 1) := by decide +kernel
theorem dL_isWhole_38 : decode cL_isWhole 38 = .ok (.invokevirtual 14, 3) := by decide +kernel
theorem dL_isWhole_41 : decode cL_isWhole 41 = .ok (.bipush 16, 2) := by decide +kernel
theorem dL_isWhole_43 : decode cL_isWhole 43 = .ok (.if_icmp .ge 7, 3) := by decide +kernel
theorem dL_isWhole_46 : decode cL_isWhole 46 = .ok (.iconst 1, 1) := by decide +kernel
theorem dL_isWhole_47 : decode cL_isWhole 47 = .ok (.goto 4, 3) := by decide +kernel
theorem dL_isWhole_50 : decode cL_isWhole 50 = .ok (.iconst 0, 1) := by decide +kernel
theorem dL_isWhole_51 : decode cL_isWhole 51 = .ok (.istore 6, 2) := by decide +kernel
theorem dL_isWhole_53 : decode cL_isWhole 53 = .ok (.iconst 0, 1) := by decide +kernel
theorem dL_isWhole_54 : decode cL_isWhole 54 = .ok (.istore 7, 2) := by decide +kernel
theorem dL_isWhole_56 : decode cL_isWhole 56 = .ok (.iload 7, 2) := by decide +kernel
theorem dL_isWhole_58 : decode cL_isWhole 58 = .ok (.iload 5, 2) := by decide +kernel
theorem dL_isWhole_60 : decode cL_isWhole 60 = .ok (.if_icmp .ge 290, 3) := by decide +kernel
theorem dL_isWhole_63 : decode cL_isWhole 63 = .ok (.iload 6, 2) := by decide +kernel
theorem dL_isWhole_65 : decode cL_isWhole 65 = .ok (.ifCond .eq 285, 3) := by decide +kernel
theorem dL_isWhole_68 : decode cL_isWhole 68 = .ok (.aload_n 0, 1) := by decide +kernel
theorem dL_isWhole_69 : decode cL_isWhole 69 = .ok (.iload 7, 2) := by decide +kernel
theorem dL_isWhole_71 : decode cL_isWhole 71 = .ok (.iconst 0, 1) := by decide +kernel
theorem dL_isWhole_72 : decode cL_isWhole 72 = .ok (.invokevirtual 20, 3) := by decide +kernel
theorem dL_isWhole_75 : decode cL_isWhole 75 = .ok (.istore 8, 2) := by decide +kernel
theorem dL_isWhole_77 : decode cL_isWhole 77 = .ok (.aload_n 0, 1) := by decide +kernel
theorem dL_isWhole_78 : decode cL_isWhole 78 = .ok (.iload 7, 2) := by decide +kernel
theorem dL_isWhole_80 : decode cL_isWhole 80 = .ok (.iconst 1, 1) := by decide +kernel
theorem dL_isWhole_81 : decode cL_isWhole 81 = .ok (.invokevirtual 20, 3) := by decide +kernel
theorem dL_isWhole_84 : decode cL_isWhole 84 = .ok (.istore 9, 2) := by decide +kernel
theorem dL_isWhole_86 : decode cL_isWhole 86 = .ok (.aload_n 0, 1) := by decide +kernel
theorem dL_isWhole_87 : decode cL_isWhole 87 = .ok (.iload 7, 2) := by decide +kernel
theorem dL_isWhole_89 : decode cL_isWhole 89 = .ok (.iconst 2, 1) := by decide +kernel
theorem dL_isWhole_90 : decode cL_isWhole 90 = .ok (.invokevirtual 20, 3) := by decide +kernel
theorem dL_isWhole_93 : decode cL_isWhole 93 = .ok (.istore 10, 2) := by decide +kernel
theorem dL_isWhole_95 : decode cL_isWhole 95 = .ok (.aload_n 0, 1) := by decide +kernel
theorem dL_isWhole_96 : decode cL_isWhole 96 = .ok (.iload 7, 2) := by decide +kernel
theorem dL_isWhole_98 : decode cL_isWhole 98 = .ok (.bipush 6, 2) := by decide +kernel
theorem dL_isWhole_100 : decode cL_isWhole 100 = .ok (.invokevirtual 20, 3) := by decide +kernel
theorem dL_isWhole_103 : decode cL_isWhole 103 = .ok (.istore 11, 2) := by decide +kernel
theorem dL_isWhole_105 : decode cL_isWhole 105 = .ok (.aload_n 0, 1) := by decide +kernel
theorem dL_isWhole_106 : decode cL_isWhole 106 = .ok (.iload 7, 2) := by decide +kernel
theorem dL_isWhole_108 : decode cL_isWhole 108 = .ok (.bipush 9, 2) := by decide +kernel
theorem dL_isWhole_110 : decode cL_isWhole 110 = .ok (.invokevirtual 20, 3) := by decide +kernel
theorem dL_isWhole_113 : decode cL_isWhole 113 = .ok (.istore 12, 2) := by decide +kernel
theorem dL_isWhole_115 : decode cL_isWhole 115 = .ok (.iload 11, 2) := by decide +kernel
theorem dL_isWhole_117 : decode cL_isWhole 117 = .ok (.ifCond .eq 9, 3) := by decide +kernel
theorem dL_isWhole_120 : decode cL_isWhole 120 = .ok (.iload 11, 2) := by decide +kernel
theorem dL_isWhole_122 : decode cL_isWhole 122 = .ok (.iconst 2, 1) := by decide +kernel
theorem dL_isWhole_123 : decode cL_isWhole 123 = .ok (.if_icmp .ne 7, 3) := by decide +kernel
theorem dL_isWhole_126 : decode cL_isWhole 126 = .ok (.iconst 1, 1) := by decide +kernel
theorem dL_isWhole_127 : decode cL_isWhole 127 = .ok (.goto 4, 3) := by decide +kernel
theorem dL_isWhole_130 : decode cL_isWhole 130 = .ok (.iconst 0, 1) := by decide +kernel
theorem dL_isWhole_131 : decode cL_isWhole 131 = .ok (.istore 13, 2) := by decide +kernel
theorem dL_isWhole_133 : decode cL_isWhole 133 = .ok (.iload 11, 2) := by decide +kernel
theorem dL_isWhole_135 : decode cL_isWhole 135 = .ok (.iconst 1, 1) := by decide +kernel
theorem dL_isWhole_136 : decode cL_isWhole 136 = .ok (.if_icmp .ne 12, 3) := by decide +kernel
theorem dL_isWhole_139 : decode cL_isWhole 139 = .ok (.iload 9, 2) := by decide +kernel
theorem dL_isWhole_141 : decode cL_isWhole 141 = .ok (.ifCond .le 7, 3) := by decide +kernel
theorem dL_isWhole_144 : decode cL_isWhole 144 = .ok (.iconst 1, 1) := by decide +kernel
theorem dL_isWhole_145 : decode cL_isWhole 145 = .ok (.goto 4, 3) := by decide +kernel
theorem dL_isWhole_148 : decode cL_isWhole 148 = .ok (.iconst 0, 1) := by decide +kernel
theorem dL_isWhole_149 : decode cL_isWhole 149 = .ok (.istore 14, 2) := by decide +kernel
theorem dL_isWhole_151 : decode cL_isWhole 151 = .ok (.iload_n 1, 1) := by decide +kernel
theorem dL_isWhole_152 : decode cL_isWhole 152 = .ok (.aload_n 0, 1) := by decide +kernel
theorem dL_isWhole_153 : decode cL_isWhole 153 = .ok (.iload 7, 2) := by decide +kernel
theorem dL_isWhole_155 : decode cL_isWhole 155 = .ok (.iconst 5, 1) := by decide +kernel
theorem dL_isWhole_156 : decode cL_isWhole 156 = .ok (.invokevirtual 20, 3) := by decide +kernel
theorem dL_isWhole_159 : decode cL_isWhole 159 = .ok (.iadd, 1) := by decide +kernel
theorem dL_isWhole_160 : decode cL_isWhole 160 = .ok (.istore_n 1, 1) := by decide +kernel
theorem dL_isWhole_161 : decode cL_isWhole 161 = .ok (.iload_n 2, 1) := by decide +kernel
theorem dL_isWhole_162 : decode cL_isWhole 162 = .ok (.iload 8, 2) := by decide +kernel
theorem dL_isWhole_164 : decode cL_isWhole 164 = .ok (.iadd, 1) := by decide +kernel
theorem dL_isWhole_165 : decode cL_isWhole 165 = .ok (.istore_n 2, 1) := by decide +kernel
theorem dL_isWhole_166 : decode cL_isWhole 166 = .ok (.iload_n 3, 1) := by decide +kernel
theorem dL_isWhole_167 : decode cL_isWhole 167 = .ok (.iload 12, 2) := by decide +kernel
theorem dL_isWhole_169 : decode cL_isWhole 169 = .ok (.iadd, 1) := by decide +kernel
theorem dL_isWhole_170 : decode cL_isWhole 170 = .ok (.istore_n 3, 1) := by decide +kernel
theorem dL_isWhole_171 : decode cL_isWhole 171 = .ok (.iload 4, 2) := by decide +kernel
theorem dL_isWhole_173 : decode cL_isWhole 173 = .ok (.iload 13, 2) := by decide +kernel
theorem dL_isWhole_175 : decode cL_isWhole 175 = .ok (.ifCond .ne 8, 3) := by decide +kernel
theorem dL_isWhole_178 : decode cL_isWhole 178 = .ok (.iload 14, 2) := by decide +kernel
theorem dL_isWhole_180 : decode cL_isWhole 180 = .ok (.ifCond .eq 7, 3) := by decide +kernel
theorem dL_isWhole_183 : decode cL_isWhole 183 = .ok (.iconst 0, 1) := by decide +kernel
theorem dL_isWhole_184 : decode cL_isWhole 184 = .ok (.goto 4, 3) := by decide +kernel
theorem dL_isWhole_187 : decode cL_isWhole 187 = .ok (.iconst 1, 1) := by decide +kernel
theorem dL_isWhole_188 : decode cL_isWhole 188 = .ok (.iadd, 1) := by decide +kernel
theorem dL_isWhole_189 : decode cL_isWhole 189 = .ok (.istore 4, 2) := by decide +kernel
theorem dL_isWhole_191 : decode cL_isWhole 191 = .ok (.iload 8, 2) := by decide +kernel
theorem dL_isWhole_193 : decode cL_isWhole 193 = .ok (.iconst 1, 1) := by decide +kernel
theorem dL_isWhole_194 : decode cL_isWhole 194 = .ok (.if_icmp .le 147, 3) := by decide +kernel
theorem dL_isWhole_197 : decode cL_isWhole 197 = .ok (.iload 8, 2) := by decide +kernel
theorem dL_isWhole_199 : decode cL_isWhole 199 = .ok (.bipush 7, 2) := by decide +kernel
theorem dL_isWhole_201 : decode cL_isWhole 201 = .ok (.if_icmp .ge 140, 3) := by decide +kernel
theorem dL_isWhole_204 : decode cL_isWhole 204 = .ok (.iload 9, 2) := by decide +kernel
theorem dL_isWhole_206 : decode cL_isWhole 206 = .ok (.ifCond .eq 19, 3) := by decide +kernel
theorem dL_isWhole_209 : decode cL_isWhole 209 = .ok (.iload 9, 2) := by decide +kernel
theorem dL_isWhole_211 : decode cL_isWhole 211 = .ok (.iconst 2, 1) := by decide +kernel
theorem dL_isWhole_212 : decode cL_isWhole 212 = .ok (.irem, 1) := by decide +kernel
theorem dL_isWhole_213 : decode cL_isWhole 213 = .ok (.iconst 1, 1) := by decide +kernel
theorem dL_isWhole_214 : decode cL_isWhole 214 = .ok (.if_icmp .ne 127, 3) := by decide +kernel
theorem dL_isWhole_217 : decode cL_isWhole 217 = .ok (.iload 9, 2) := by decide +kernel
theorem dL_isWhole_219 : decode cL_isWhole 219 = .ok (.sipush 254, 3) := by decide +kernel
theorem dL_isWhole_222 : decode cL_isWhole 222 = .ok (.if_icmp .ge 119, 3) := by decide +kernel
theorem dL_isWhole_225 : decode cL_isWhole 225 = .ok (.iload 10, 2) := by decide +kernel
theorem dL_isWhole_227 : decode cL_isWhole 227 = .ok (.ifCond .le 114, 3) := by decide +kernel
theorem dL_isWhole_230 : decode cL_isWhole 230 = .ok (.iload 10, 2) := by decide +kernel
theorem dL_isWhole_232 : decode cL_isWhole 232 = .ok (.bipush 9, 2) := by decide +kernel
theorem dL_isWhole_234 : decode cL_isWhole 234 = .ok (.if_icmp .ge 107, 3) := by decide +kernel
theorem dL_isWhole_237 : decode cL_isWhole 237 = .ok (.iload 12, 2) := by decide +kernel
theorem dL_isWhole_239 : decode cL_isWhole 239 = .ok (.iload 13, 2) := by decide +kernel
theorem dL_isWhole_241 : decode cL_isWhole 241 = .ok (.ifCond .eq 8, 3) := by decide +kernel
theorem dL_isWhole_244 : decode cL_isWhole 244 = .ok (.iload 10, 2) := by decide +kernel
theorem dL_isWhole_246 : decode cL_isWhole 246 = .ok (.goto 14, 3) := by decide +kernel
theorem dL_isWhole_249 : decode cL_isWhole 249 = .ok (.iload 14, 2) := by decide +kernel
theorem dL_isWhole_251 : decode cL_isWhole 251 = .ok (.ifCond .eq 8, 3) := by decide +kernel
theorem dL_isWhole_254 : decode cL_isWhole 254 = .ok (.bipush 8, 2) := by decide +kernel
theorem dL_isWhole_256 : decode cL_isWhole 256 = .ok (.goto 4, 3) := by decide +kernel
theorem dL_isWhole_259 : decode cL_isWhole 259 = .ok (.iconst 1, 1) := by decide +kernel
theorem dL_isWhole_260 : decode cL_isWhole 260 = .ok (.if_icmp .ne 81, 3) := by decide +kernel
theorem dL_isWhole_263 : decode cL_isWhole 263 = .ok (.aload_n 0, 1) := by decide +kernel
theorem dL_isWhole_264 : decode cL_isWhole 264 = .ok (.iload 7, 2) := by decide +kernel
theorem dL_isWhole_266 : decode cL_isWhole 266 = .ok (.iconst 3, 1) := by decide +kernel
theorem dL_isWhole_267 : decode cL_isWhole 267 = .ok (.invokevirtual 20, 3) := by decide +kernel
theorem dL_isWhole_270 : decode cL_isWhole 270 = .ok (.iload 10, 2) := by decide +kernel
theorem dL_isWhole_272 : decode cL_isWhole 272 = .ok (.ishr, 1) := by decide +kernel
theorem dL_isWhole_273 : decode cL_isWhole 273 = .ok (.ifCond .ne 68, 3) := by decide +kernel
theorem dL_isWhole_276 : decode cL_isWhole 276 = .ok (.aload_n 0, 1) := by decide +kernel
theorem dL_isWhole_277 : decode cL_isWhole 277 = .ok (.iload 7, 2) := by decide +kernel
theorem dL_isWhole_279 : decode cL_isWhole 279 = .ok (.iconst 4, 1) := by decide +kernel
theorem dL_isWhole_280 : decode cL_isWhole 280 = .ok (.invokevirtual 20, 3) := by decide +kernel
theorem dL_isWhole_283 : decode cL_isWhole 283 = .ok (.iload 10, 2) := by decide +kernel
theorem dL_isWhole_285 : decode cL_isWhole 285 = .ok (.ishr, 1) := by decide +kernel
theorem dL_isWhole_286 : decode cL_isWhole 286 = .ok (.ifCond .ne 55, 3) := by decide +kernel
theorem dL_isWhole_289 : decode cL_isWhole 289 = .ok (.iload 11, 2) := by decide +kernel
theorem dL_isWhole_291 : decode cL_isWhole 291 = .ok (.iload 8, 2) := by decide +kernel
theorem dL_isWhole_293 : decode cL_isWhole 293 = .ok (.ishr, 1) := by decide +kernel
theorem dL_isWhole_294 : decode cL_isWhole 294 = .ok (.ifCond .ne 47, 3) := by decide +kernel
theorem dL_isWhole_297 : decode cL_isWhole 297 = .ok (.aload_n 0, 1) := by decide +kernel
theorem dL_isWhole_298 : decode cL_isWhole 298 = .ok (.iload 7, 2) := by decide +kernel
theorem dL_isWhole_300 : decode cL_isWhole 300 = .ok (.bipush 7, 2) := by decide +kernel
theorem dL_isWhole_302 : decode cL_isWhole 302 = .ok (.invokevirtual 20, 3) := by decide +kernel
theorem dL_isWhole_305 : decode cL_isWhole 305 = .ok (.iload 8, 2) := by decide +kernel
theorem dL_isWhole_307 : decode cL_isWhole 307 = .ok (.ishr, 1) := by decide +kernel
theorem dL_isWhole_308 : decode cL_isWhole 308 = .ok (.ifCond .ne 33, 3) := by decide +kernel
theorem dL_isWhole_311 : decode cL_isWhole 311 = .ok (.aload_n 0, 1) := by decide +kernel
theorem dL_isWhole_312 : decode cL_isWhole 312 = .ok (.iload 7, 2) := by decide +kernel
theorem dL_isWhole_314 : decode cL_isWhole 314 = .ok (.bipush 8, 2) := by decide +kernel
theorem dL_isWhole_316 : decode cL_isWhole 316 = .ok (.invokevirtual 20, 3) := by decide +kernel
theorem dL_isWhole_319 : decode cL_isWhole 319 = .ok (.iload 12, 2) := by decide +kernel
theorem dL_isWhole_321 : decode cL_isWhole 321 = .ok (.ishr, 1) := by decide +kernel
theorem dL_isWhole_322 : decode cL_isWhole 322 = .ok (.ifCond .ne 19, 3) := by decide +kernel
theorem dL_isWhole_325 : decode cL_isWhole 325 = .ok (.aload_n 0, 1) := by decide +kernel
theorem dL_isWhole_326 : decode cL_isWhole 326 = .ok (.iload 7, 2) := by decide +kernel
theorem dL_isWhole_328 : decode cL_isWhole 328 = .ok (.iconst 5, 1) := by decide +kernel
theorem dL_isWhole_329 : decode cL_isWhole 329 = .ok (.invokevirtual 20, 3) := by decide +kernel
theorem dL_isWhole_332 : decode cL_isWhole 332 = .ok (.iconst 1, 1) := by decide +kernel
theorem dL_isWhole_333 : decode cL_isWhole 333 = .ok (.ishr, 1) := by decide +kernel
theorem dL_isWhole_334 : decode cL_isWhole 334 = .ok (.ifCond .ne 7, 3) := by decide +kernel
theorem dL_isWhole_337 : decode cL_isWhole 337 = .ok (.iconst 1, 1) := by decide +kernel
theorem dL_isWhole_338 : decode cL_isWhole 338 = .ok (.goto 4, 3) := by decide +kernel
theorem dL_isWhole_341 : decode cL_isWhole 341 = .ok (.iconst 0, 1) := by decide +kernel
theorem dL_isWhole_342 : decode cL_isWhole 342 = .ok (.istore 6, 2) := by decide +kernel
theorem dL_isWhole_344 : decode cL_isWhole 344 = .ok (.iinc 7 1, 3) := by decide +kernel
theorem dL_isWhole_347 : decode cL_isWhole 347 = .ok (.goto (-291), 3) := by decide +kernel
theorem dL_isWhole_350 : decode cL_isWhole 350 = .ok (.aload_n 0, 1) := by decide +kernel
theorem dL_isWhole_351 : decode cL_isWhole 351 = .ok (.iconst 2, 1) := by decide +kernel
theorem dL_isWhole_352 : decode cL_isWhole 352 = .ok (.invokevirtual 14, 3) := by decide +kernel
theorem dL_isWhole_355 : decode cL_isWhole 355 = .ok (.istore 7, 2) := by decide +kernel
theorem dL_isWhole_357 : decode cL_isWhole 357 = .ok (.iload 5, 2) := by decide +kernel
theorem dL_isWhole_359 : decode cL_isWhole 359 = .ok (.ifCond .ne 7, 3) := by decide +kernel
theorem dL_isWhole_362 : decode cL_isWhole 362 = .ok (.iconst 0, 1) := by decide +kernel
theorem dL_isWhole_363 : decode cL_isWhole 363 = .ok (.goto 53, 3) := by decide +kernel
theorem dL_isWhole_366 : decode cL_isWhole 366 = .ok (.aload_n 0, 1) := by decide +kernel
theorem dL_isWhole_367 : decode cL_isWhole 367 = .ok (.iload 5, 2) := by decide +kernel
theorem dL_isWhole_369 : decode cL_isWhole 369 = .ok (.iconst 1, 1) := by decide +kernel
theorem dL_isWhole_370 : decode cL_isWhole 370 = .ok (.isub, 1) := by decide +kernel
theorem dL_isWhole_371 : decode cL_isWhole 371 = .ok (.iconst 5, 1) := by decide +kernel
theorem dL_isWhole_372 : decode cL_isWhole 372 = .ok (.invokevirtual 20, 3) := by decide +kernel
theorem dL_isWhole_375 : decode cL_isWhole 375 = .ok (.iconst 1, 1) := by decide +kernel
theorem dL_isWhole_376 : decode cL_isWhole 376 = .ok (.if_icmp .ne 7, 3) := by decide +kernel
theorem dL_isWhole_379 : decode cL_isWhole 379 = .ok (.iconst 1, 1) := by decide +kernel
theorem dL_isWhole_380 : decode cL_isWhole 380 = .ok (.goto 36, 3) := by decide +kernel
theorem dL_isWhole_383 : decode cL_isWhole 383 = .ok (.iload 7, 2) := by decide +kernel
theorem dL_isWhole_385 : decode cL_isWhole 385 = .ok (.iconst 4, 1) := by decide +kernel
theorem dL_isWhole_386 : decode cL_isWhole 386 = .ok (.if_icmp .ne 18, 3) := by decide +kernel
theorem dL_isWhole_389 : decode cL_isWhole 389 = .ok (.aload_n 0, 1) := by decide +kernel
theorem dL_isWhole_390 : decode cL_isWhole 390 = .ok (.iload 5, 2) := by decide +kernel
theorem dL_isWhole_392 : decode cL_isWhole 392 = .ok (.iconst 1, 1) := by decide +kernel
theorem dL_isWhole_393 : decode cL_isWhole 393 = .ok (.isub, 1) := by decide +kernel
theorem dL_isWhole_394 : decode cL_isWhole 394 = .ok (.bipush 8, 2) := by decide +kernel
theorem dL_isWhole_396 : decode cL_isWhole 396 = .ok (.invokevirtual 20, 3) := by decide +kernel
theorem dL_isWhole_399 : decode cL_isWhole 399 = .ok (.iconst 2, 1) := by decide +kernel
theorem dL_isWhole_400 : decode cL_isWhole 400 = .ok (.irem, 1) := by decide +kernel
theorem dL_isWhole_401 : decode cL_isWhole 401 = .ok (.goto 15, 3) := by decide +kernel
theorem dL_isWhole_404 : decode cL_isWhole 404 = .ok (.aload_n 0, 1) := by decide +kernel
theorem dL_isWhole_405 : decode cL_isWhole 405 = .ok (.iload 5, 2) := by decide +kernel
theorem dL_isWhole_407 : decode cL_isWhole 407 = .ok (.iconst 1, 1) := by decide +kernel
theorem dL_isWhole_408 : decode cL_isWhole 408 = .ok (.isub, 1) := by decide +kernel
theorem dL_isWhole_409 : decode cL_isWhole 409 = .ok (.bipush 7, 2) := by decide +kernel
theorem dL_isWhole_411 : decode cL_isWhole 411 = .ok (.invokevirtual 20, 3) := by decide +kernel
theorem dL_isWhole_414 : decode cL_isWhole 414 = .ok (.iconst 2, 1) := by decide +kernel
theorem dL_isWhole_415 : decode cL_isWhole 415 = .ok (.irem, 1) := by decide +kernel
theorem dL_isWhole_416 : decode cL_isWhole 416 = .ok (.istore 8, 2) := by decide +kernel
theorem dL_isWhole_418 : decode cL_isWhole 418 = .ok (.iload 7, 2) := by decide +kernel
theorem dL_isWhole_420 : decode cL_isWhole 420 = .ok (.iconst 4, 1) := by decide +kernel
theorem dL_isWhole_421 : decode cL_isWhole 421 = .ok (.if_icmp .eq 10, 3) := by decide +kernel
theorem dL_isWhole_424 : decode cL_isWhole 424 = .ok (.iload 7, 2) := by decide +kernel
theorem dL_isWhole_426 : decode cL_isWhole 426 = .ok (.bipush 11, 2) := by decide +kernel
theorem dL_isWhole_428 : decode cL_isWhole 428 = .ok (.if_icmp .ne 7, 3) := by decide +kernel
theorem dL_isWhole_431 : decode cL_isWhole 431 = .ok (.iconst 1, 1) := by decide +kernel
theorem dL_isWhole_432 : decode cL_isWhole 432 = .ok (.goto 4, 3) := by decide +kernel
theorem dL_isWhole_435 : decode cL_isWhole 435 = .ok (.iconst 0, 1) := by decide +kernel
theorem dL_isWhole_436 : decode cL_isWhole 436 = .ok (.istore 9, 2) := by decide +kernel
theorem dL_isWhole_438 : decode cL_isWhole 438 = .ok (.iload 6, 2) := by decide +kernel
theorem dL_isWhole_440 : decode cL_isWhole 440 = .ok (.ifCond .eq 59, 3) := by decide +kernel
theorem dL_isWhole_443 : decode cL_isWhole 443 = .ok (.aload_n 0, 1) := by decide +kernel
theorem dL_isWhole_444 : decode cL_isWhole 444 = .ok (.iconst 0, 1) := by decide +kernel
theorem dL_isWhole_445 : decode cL_isWhole 445 = .ok (.invokevirtual 27, 3) := by decide +kernel
theorem dL_isWhole_448 : decode cL_isWhole 448 = .ok (.iload 9, 2) := by decide +kernel
theorem dL_isWhole_450 : decode cL_isWhole 450 = .ok (.ifCond .ne 7, 3) := by decide +kernel
theorem dL_isWhole_453 : decode cL_isWhole 453 = .ok (.iconst 1, 1) := by decide +kernel
theorem dL_isWhole_454 : decode cL_isWhole 454 = .ok (.goto 14, 3) := by decide +kernel
theorem dL_isWhole_457 : decode cL_isWhole 457 = .ok (.iload 5, 2) := by decide +kernel
theorem dL_isWhole_459 : decode cL_isWhole 459 = .ok (.ifCond .ne 7, 3) := by decide +kernel
theorem dL_isWhole_462 : decode cL_isWhole 462 = .ok (.iconst 0, 1) := by decide +kernel
theorem dL_isWhole_463 : decode cL_isWhole 463 = .ok (.goto 5, 3) := by decide +kernel
theorem dL_isWhole_466 : decode cL_isWhole 466 = .ok (.iload 8, 2) := by decide +kernel
theorem dL_isWhole_468 : decode cL_isWhole 468 = .ok (.if_icmp .ne 31, 3) := by decide +kernel
theorem dL_isWhole_471 : decode cL_isWhole 471 = .ok (.aload_n 0, 1) := by decide +kernel
theorem dL_isWhole_472 : decode cL_isWhole 472 = .ok (.iconst 1, 1) := by decide +kernel
theorem dL_isWhole_473 : decode cL_isWhole 473 = .ok (.invokevirtual 27, 3) := by decide +kernel
theorem dL_isWhole_476 : decode cL_isWhole 476 = .ok (.iload 9, 2) := by decide +kernel
theorem dL_isWhole_478 : decode cL_isWhole 478 = .ok (.ifCond .eq 8, 3) := by decide +kernel
theorem dL_isWhole_481 : decode cL_isWhole 481 = .ok (.iload 5, 2) := by decide +kernel
theorem dL_isWhole_483 : decode cL_isWhole 483 = .ok (.ifCond .ne 7, 3) := by decide +kernel
theorem dL_isWhole_486 : decode cL_isWhole 486 = .ok (.iconst 1, 1) := by decide +kernel
theorem dL_isWhole_487 : decode cL_isWhole 487 = .ok (.goto 5, 3) := by decide +kernel
theorem dL_isWhole_490 : decode cL_isWhole 490 = .ok (.iload 8, 2) := by decide +kernel
theorem dL_isWhole_492 : decode cL_isWhole 492 = .ok (.if_icmp .ne 7, 3) := by decide +kernel
theorem dL_isWhole_495 : decode cL_isWhole 495 = .ok (.iconst 1, 1) := by decide +kernel
theorem dL_isWhole_496 : decode cL_isWhole 496 = .ok (.goto 4, 3) := by decide +kernel
theorem dL_isWhole_499 : decode cL_isWhole 499 = .ok (.iconst 0, 1) := by decide +kernel
theorem dL_isWhole_500 : decode cL_isWhole 500 = .ok (.istore 6, 2) := by decide +kernel
theorem dL_isWhole_502 : decode cL_isWhole 502 = .ok (.iconst 0, 1) := by decide +kernel
theorem dL_isWhole_503 : decode cL_isWhole 503 = .ok (.istore 10, 2) := by decide +kernel
theorem dL_isWhole_505 : decode cL_isWhole 505 = .ok (.iload 10, 2) := by decide +kernel
theorem dL_isWhole_507 : decode cL_isWhole 507 = .ok (.aload_n 0, 1) := by decide +kernel
theorem dL_isWhole_508 : decode cL_isWhole 508 = .ok (.bipush 6, 2) := by decide +kernel
theorem dL_isWhole_510 : decode cL_isWhole 510 = .ok (.invokevirtual 14, 3) := by decide +kernel
theorem dL_isWhole_513 : decode cL_isWhole 513 = .ok (.if_icmp .ge 54, 3) := by decide +kernel
theorem dL_isWhole_516 : decode cL_isWhole 516 = .ok (.iload 6, 2) := by decide +kernel
theorem dL_isWhole_518 : decode cL_isWhole 518 = .ok (.ifCond .eq 49, 3) := by decide +kernel
theorem dL_isWhole_521 : decode cL_isWhole 521 = .ok (.aload_n 0, 1) := by decide +kernel
theorem dL_isWhole_522 : decode cL_isWhole 522 = .ok (.iload 10, 2) := by decide +kernel
theorem dL_isWhole_524 : decode cL_isWhole 524 = .ok (.invokevirtual 24, 3) := by decide +kernel
theorem dL_isWhole_527 : decode cL_isWhole 527 = .ok (.ifCond .eq 27, 3) := by decide +kernel
theorem dL_isWhole_530 : decode cL_isWhole 530 = .ok (.aload_n 0, 1) := by decide +kernel
theorem dL_isWhole_531 : decode cL_isWhole 531 = .ok (.iload 10, 2) := by decide +kernel
theorem dL_isWhole_533 : decode cL_isWhole 533 = .ok (.invokevirtual 24, 3) := by decide +kernel
theorem dL_isWhole_536 : decode cL_isWhole 536 = .ok (.iconst 2, 1) := by decide +kernel
theorem dL_isWhole_537 : decode cL_isWhole 537 = .ok (.irem, 1) := by decide +kernel
theorem dL_isWhole_538 : decode cL_isWhole 538 = .ok (.iconst 1, 1) := by decide +kernel
theorem dL_isWhole_539 : decode cL_isWhole 539 = .ok (.if_icmp .ne 19, 3) := by decide +kernel
theorem dL_isWhole_542 : decode cL_isWhole 542 = .ok (.aload_n 0, 1) := by decide +kernel
theorem dL_isWhole_543 : decode cL_isWhole 543 = .ok (.iload 10, 2) := by decide +kernel
theorem dL_isWhole_545 : decode cL_isWhole 545 = .ok (.invokevirtual 24, 3) := by decide +kernel
theorem dL_isWhole_548 : decode cL_isWhole 548 = .ok (.sipush 255, 3) := by decide +kernel
theorem dL_isWhole_551 : decode cL_isWhole 551 = .ok (.if_icmp .ge 7, 3) := by decide +kernel
theorem dL_isWhole_554 : decode cL_isWhole 554 = .ok (.iconst 1, 1) := by decide +kernel
theorem dL_isWhole_555 : decode cL_isWhole 555 = .ok (.goto 4, 3) := by decide +kernel
theorem dL_isWhole_558 : decode cL_isWhole 558 = .ok (.iconst 0, 1) := by decide +kernel
theorem dL_isWhole_559 : decode cL_isWhole 559 = .ok (.istore 6, 2) := by decide +kernel
theorem dL_isWhole_561 : decode cL_isWhole 561 = .ok (.iinc 10 1, 3) := by decide +kernel
theorem dL_isWhole_564 : decode cL_isWhole 564 = .ok (.goto (-59), 3) := by decide +kernel
theorem dL_isWhole_567 : decode cL_isWhole 567 = .ok (.iload 6, 2) := by decide +kernel
theorem dL_isWhole_569 : decode cL_isWhole 569 = .ok (.ifCond .eq 136, 3) := by decide +kernel
theorem dL_isWhole_572 : decode cL_isWhole 572 = .ok (.aload_n 0, 1) := by decide +kernel
theorem dL_isWhole_573 : decode cL_isWhole 573 = .ok (.bipush 6, 2) := by decide +kernel
theorem dL_isWhole_575 : decode cL_isWhole 575 = .ok (.invokevirtual 14, 3) := by decide +kernel
theorem dL_isWhole_578 : decode cL_isWhole 578 = .ok (.bipush 9, 2) := by decide +kernel
theorem dL_isWhole_580 : decode cL_isWhole 580 = .ok (.if_icmp .ge 125, 3) := by decide +kernel
theorem dL_isWhole_583 : decode cL_isWhole 583 = .ok (.iload_n 1, 1) := by decide +kernel
theorem dL_isWhole_584 : decode cL_isWhole 584 = .ok (.aload_n 0, 1) := by decide +kernel
theorem dL_isWhole_585 : decode cL_isWhole 585 = .ok (.iconst 1, 1) := by decide +kernel
theorem dL_isWhole_586 : decode cL_isWhole 586 = .ok (.invokevirtual 14, 3) := by decide +kernel
theorem dL_isWhole_589 : decode cL_isWhole 589 = .ok (.if_icmp .ne 116, 3) := by decide +kernel
theorem dL_isWhole_592 : decode cL_isWhole 592 = .ok (.iload_n 2, 1) := by decide +kernel
theorem dL_isWhole_593 : decode cL_isWhole 593 = .ok (.aload_n 0, 1) := by decide +kernel
theorem dL_isWhole_594 : decode cL_isWhole 594 = .ok (.iconst 4, 1) := by decide +kernel
theorem dL_isWhole_595 : decode cL_isWhole 595 = .ok (.invokevirtual 14, 3) := by decide +kernel
theorem dL_isWhole_598 : decode cL_isWhole 598 = .ok (.if_icmp .ne 107, 3) := by decide +kernel
theorem dL_isWhole_601 : decode cL_isWhole 601 = .ok (.iload_n 3, 1) := by decide +kernel
theorem dL_isWhole_602 : decode cL_isWhole 602 = .ok (.aload_n 0, 1) := by decide +kernel
theorem dL_isWhole_603 : decode cL_isWhole 603 = .ok (.iconst 5, 1) := by decide +kernel
theorem dL_isWhole_604 : decode cL_isWhole 604 = .ok (.invokevirtual 14, 3) := by decide +kernel
theorem dL_isWhole_607 : decode cL_isWhole 607 = .ok (.if_icmp .ne 98, 3) := by decide +kernel
theorem dL_isWhole_610 : decode cL_isWhole 610 = .ok (.iload 5, 2) := by decide +kernel
theorem dL_isWhole_612 : decode cL_isWhole 612 = .ok (.ifCond .ne 15, 3) := by decide +kernel
theorem dL_isWhole_615 : decode cL_isWhole 615 = .ok (.aload_n 0, 1) := by decide +kernel
theorem dL_isWhole_616 : decode cL_isWhole 616 = .ok (.invokevirtual 30, 3) := by decide +kernel
theorem dL_isWhole_619 : decode cL_isWhole 619 = .ok (.fconst 0, 1) := by decide +kernel
theorem dL_isWhole_620 : decode cL_isWhole 620 = .ok (.fcmp .l, 1) := by decide +kernel
theorem dL_isWhole_621 : decode cL_isWhole 621 = .ok (.ifCond .ne 84, 3) := by decide +kernel
theorem dL_isWhole_624 : decode cL_isWhole 624 = .ok (.goto 77, 3) := by decide +kernel
theorem dL_isWhole_627 : decode cL_isWhole 627 = .ok (.aload_n 0, 1) := by decide +kernel
theorem dL_isWhole_628 : decode cL_isWhole 628 = .ok (.invokevirtual 30, 3) := by decide +kernel
theorem dL_isWhole_631 : decode cL_isWhole 631 = .ok (.fconst 0, 1) := by decide +kernel
theorem dL_isWhole_632 : decode cL_isWhole 632 = .ok (.fcmp .l, 1) := by decide +kernel
theorem dL_isWhole_633 : decode cL_isWhole 633 = .ok (.ifCond .lt 72, 3) := by decide +kernel
theorem dL_isWhole_636 : decode cL_isWhole 636 = .ok (.aload_n 0, 1) := by decide +kernel
theorem dL_isWhole_637 : decode cL_isWhole 637 = .ok (.invokevirtual 30, 3) := by decide +kernel
theorem dL_isWhole_640 : decode cL_isWhole 640 = .ok (.fconst 1, 1) := by decide +kernel
theorem dL_isWhole_641 : decode cL_isWhole 641 = .ok (.fcmp .g, 1) := by decide +kernel
theorem dL_isWhole_642 : decode cL_isWhole 642 = .ok (.ifCond .gt 63, 3) := by decide +kernel
theorem dL_isWhole_645 : decode cL_isWhole 645 = .ok (.aload_n 0, 1) := by decide +kernel
theorem dL_isWhole_646 : decode cL_isWhole 646 = .ok (.invokevirtual 30, 3) := by decide +kernel
theorem dL_isWhole_649 : decode cL_isWhole 649 = .ok (.fconst 0, 1) := by decide +kernel
theorem dL_isWhole_650 : decode cL_isWhole 650 = .ok (.fcmp .l, 1) := by decide +kernel
theorem dL_isWhole_651 : decode cL_isWhole 651 = .ok (.ifCond .ne 7, 3) := by decide +kernel
theorem dL_isWhole_654 : decode cL_isWhole 654 = .ok (.iconst 1, 1) := by decide +kernel
theorem dL_isWhole_655 : decode cL_isWhole 655 = .ok (.goto 4, 3) := by decide +kernel
theorem dL_isWhole_658 : decode cL_isWhole 658 = .ok (.iconst 0, 1) := by decide +kernel
theorem dL_isWhole_659 : decode cL_isWhole 659 = .ok (.iload 4, 2) := by decide +kernel
theorem dL_isWhole_661 : decode cL_isWhole 661 = .ok (.ifCond .ne 7, 3) := by decide +kernel
theorem dL_isWhole_664 : decode cL_isWhole 664 = .ok (.iconst 1, 1) := by decide +kernel
theorem dL_isWhole_665 : decode cL_isWhole 665 = .ok (.goto 4, 3) := by decide +kernel
theorem dL_isWhole_668 : decode cL_isWhole 668 = .ok (.iconst 0, 1) := by decide +kernel
theorem dL_isWhole_669 : decode cL_isWhole 669 = .ok (.if_icmp .ne 36, 3) := by decide +kernel
theorem dL_isWhole_672 : decode cL_isWhole 672 = .ok (.aload_n 0, 1) := by decide +kernel
theorem dL_isWhole_673 : decode cL_isWhole 673 = .ok (.invokevirtual 30, 3) := by decide +kernel
theorem dL_isWhole_676 : decode cL_isWhole 676 = .ok (.fconst 1, 1) := by decide +kernel
theorem dL_isWhole_677 : decode cL_isWhole 677 = .ok (.fcmp .l, 1) := by decide +kernel
theorem dL_isWhole_678 : decode cL_isWhole 678 = .ok (.ifCond .ne 7, 3) := by decide +kernel
theorem dL_isWhole_681 : decode cL_isWhole 681 = .ok (.iconst 1, 1) := by decide +kernel
theorem dL_isWhole_682 : decode cL_isWhole 682 = .ok (.goto 4, 3) := by decide +kernel
theorem dL_isWhole_685 : decode cL_isWhole 685 = .ok (.iconst 0, 1) := by decide +kernel
theorem dL_isWhole_686 : decode cL_isWhole 686 = .ok (.iload 4, 2) := by decide +kernel
theorem dL_isWhole_688 : decode cL_isWhole 688 = .ok (.iload 5, 2) := by decide +kernel
theorem dL_isWhole_690 : decode cL_isWhole 690 = .ok (.if_icmp .ne 7, 3) := by decide +kernel
theorem dL_isWhole_693 : decode cL_isWhole 693 = .ok (.iconst 1, 1) := by decide +kernel
theorem dL_isWhole_694 : decode cL_isWhole 694 = .ok (.goto 4, 3) := by decide +kernel
theorem dL_isWhole_697 : decode cL_isWhole 697 = .ok (.iconst 0, 1) := by decide +kernel
theorem dL_isWhole_698 : decode cL_isWhole 698 = .ok (.if_icmp .ne 7, 3) := by decide +kernel
theorem dL_isWhole_701 : decode cL_isWhole 701 = .ok (.iconst 1, 1) := by decide +kernel
theorem dL_isWhole_702 : decode cL_isWhole 702 = .ok (.goto 4, 3) := by decide +kernel
theorem dL_isWhole_705 : decode cL_isWhole 705 = .ok (.iconst 0, 1) := by decide +kernel
theorem dL_isWhole_706 : decode cL_isWhole 706 = .ok (.ireturn, 1) := by decide +kernel
theorem dL_refusesAny_0 : decode cL_refusesAny 0 = .ok (.iload_n 1, 1) := by decide +kernel
theorem dL_refusesAny_1 : decode cL_refusesAny 1 = .ok (.iconst 2, 1) := by decide +kernel
theorem dL_refusesAny_2 : decode cL_refusesAny 2 = .ok (.irem, 1) := by decide +kernel
theorem dL_refusesAny_3 : decode cL_refusesAny 3 = .ok (.ifCond .ne 12, 3) := by decide +kernel
theorem dL_refusesAny_6 : decode cL_refusesAny 6 = .ok (.iconst (-1), 1) := by decide +kernel
theorem dL_refusesAny_7 : decode cL_refusesAny 7 = .ok (.iload_n 1, 1) := by decide +kernel
theorem dL_refusesAny_8 : decode cL_refusesAny 8 = .ok (.bipush 99, 2) := by decide +kernel
theorem dL_refusesAny_10 : decode cL_refusesAny 10 = .ok (.irem, 1) := by decide +kernel
theorem dL_refusesAny_11 : decode cL_refusesAny 11 = .ok (.isub, 1) := by decide +kernel
theorem dL_refusesAny_12 : decode cL_refusesAny 12 = .ok (.goto 10, 3) := by decide +kernel
theorem dL_refusesAny_15 : decode cL_refusesAny 15 = .ok (.bipush 6, 2) := by decide +kernel
theorem dL_refusesAny_17 : decode cL_refusesAny 17 = .ok (.iload_n 1, 1) := by decide +kernel
theorem dL_refusesAny_18 : decode cL_refusesAny 18 = .ok (.bipush 99, 2) := by decide +kernel
theorem dL_refusesAny_20 : decode cL_refusesAny 20 = .ok (.irem, 1) := by decide +kernel
theorem dL_refusesAny_21 : decode cL_refusesAny 21 = .ok (.iadd, 1) := by decide +kernel
theorem dL_refusesAny_22 : decode cL_refusesAny 22 = .ok (.istore_n 2, 1) := by decide +kernel
theorem dL_refusesAny_23 : decode cL_refusesAny 23 = .ok (.iload_n 1, 1) := by decide +kernel
theorem dL_refusesAny_24 : decode cL_refusesAny 24 = .ok (.iconst 2, 1) := by decide +kernel
theorem dL_refusesAny_25 : decode cL_refusesAny 25 = .ok (.irem, 1) := by decide +kernel
theorem dL_refusesAny_26 : decode cL_refusesAny 26 = .ok (.ifCond .ne 12, 3) := by decide +kernel
theorem dL_refusesAny_29 : decode cL_refusesAny 29 = .ok (.iconst (-1), 1) := by decide +kernel
theorem dL_refusesAny_30 : decode cL_refusesAny 30 = .ok (.iload_n 1, 1) := by decide +kernel
theorem dL_refusesAny_31 : decode cL_refusesAny 31 = .ok (.bipush 99, 2) := by decide +kernel
theorem dL_refusesAny_33 : decode cL_refusesAny 33 = .ok (.irem, 1) := by decide +kernel
theorem dL_refusesAny_34 : decode cL_refusesAny 34 = .ok (.isub, 1) := by decide +kernel
theorem dL_refusesAny_35 : decode cL_refusesAny 35 = .ok (.goto 11, 3) := by decide +kernel
theorem dL_refusesAny_38 : decode cL_refusesAny 38 = .ok (.sipush 256, 3) := by decide +kernel
theorem dL_refusesAny_41 : decode cL_refusesAny 41 = .ok (.iload_n 1, 1) := by decide +kernel
theorem dL_refusesAny_42 : decode cL_refusesAny 42 = .ok (.bipush 99, 2) := by decide +kernel
theorem dL_refusesAny_44 : decode cL_refusesAny 44 = .ok (.irem, 1) := by decide +kernel
theorem dL_refusesAny_45 : decode cL_refusesAny 45 = .ok (.iadd, 1) := by decide +kernel
theorem dL_refusesAny_46 : decode cL_refusesAny 46 = .ok (.istore_n 3, 1) := by decide +kernel
theorem dL_refusesAny_47 : decode cL_refusesAny 47 = .ok (.iload_n 1, 1) := by decide +kernel
theorem dL_refusesAny_48 : decode cL_refusesAny 48 = .ok (.iconst 2, 1) := by decide +kernel
theorem dL_refusesAny_49 : decode cL_refusesAny 49 = .ok (.irem, 1) := by decide +kernel
theorem dL_refusesAny_50 : decode cL_refusesAny 50 = .ok (.ifCond .ne 12, 3) := by decide +kernel
theorem dL_refusesAny_53 : decode cL_refusesAny 53 = .ok (.iconst (-1), 1) := by decide +kernel
theorem dL_refusesAny_54 : decode cL_refusesAny 54 = .ok (.iload_n 1, 1) := by decide +kernel
theorem dL_refusesAny_55 : decode cL_refusesAny 55 = .ok (.bipush 99, 2) := by decide +kernel
theorem dL_refusesAny_57 : decode cL_refusesAny 57 = .ok (.irem, 1) := by decide +kernel
theorem dL_refusesAny_58 : decode cL_refusesAny 58 = .ok (.isub, 1) := by decide +kernel
theorem dL_refusesAny_59 : decode cL_refusesAny 59 = .ok (.goto 9, 3) := by decide +kernel
theorem dL_refusesAny_62 : decode cL_refusesAny 62 = .ok (.iconst 2, 1) := by decide +kernel
theorem dL_refusesAny_63 : decode cL_refusesAny 63 = .ok (.iload_n 1, 1) := by decide +kernel
theorem dL_refusesAny_64 : decode cL_refusesAny 64 = .ok (.bipush 99, 2) := by decide +kernel
theorem dL_refusesAny_66 : decode cL_refusesAny 66 = .ok (.irem, 1) := by decide +kernel
theorem dL_refusesAny_67 : decode cL_refusesAny 67 = .ok (.iadd, 1) := by decide +kernel
theorem dL_refusesAny_68 : decode cL_refusesAny 68 = .ok (.istore 4, 2) := by decide +kernel
theorem dL_refusesAny_70 : decode cL_refusesAny 70 = .ok (.iload_n 1, 1) := by decide +kernel
theorem dL_refusesAny_71 : decode cL_refusesAny 71 = .ok (.iconst 2, 1) := by decide +kernel
theorem dL_refusesAny_72 : decode cL_refusesAny 72 = .ok (.irem, 1) := by decide +kernel
theorem dL_refusesAny_73 : decode cL_refusesAny 73 = .ok (.ifCond .ne 12, 3) := by decide +kernel
theorem dL_refusesAny_76 : decode cL_refusesAny 76 = .ok (.iconst (-1), 1) := by decide +kernel
theorem dL_refusesAny_77 : decode cL_refusesAny 77 = .ok (.iload_n 1, 1) := by decide +kernel
theorem dL_refusesAny_78 : decode cL_refusesAny 78 = .ok (.bipush 99, 2) := by decide +kernel
theorem dL_refusesAny_80 : decode cL_refusesAny 80 = .ok (.irem, 1) := by decide +kernel
theorem dL_refusesAny_81 : decode cL_refusesAny 81 = .ok (.isub, 1) := by decide +kernel
theorem dL_refusesAny_82 : decode cL_refusesAny 82 = .ok (.goto 10, 3) := by decide +kernel
theorem dL_refusesAny_85 : decode cL_refusesAny 85 = .ok (.bipush 16, 2) := by decide +kernel
theorem dL_refusesAny_87 : decode cL_refusesAny 87 = .ok (.iload_n 1, 1) := by decide +kernel
theorem dL_refusesAny_88 : decode cL_refusesAny 88 = .ok (.bipush 99, 2) := by decide +kernel
theorem dL_refusesAny_90 : decode cL_refusesAny 90 = .ok (.irem, 1) := by decide +kernel
theorem dL_refusesAny_91 : decode cL_refusesAny 91 = .ok (.iadd, 1) := by decide +kernel
theorem dL_refusesAny_92 : decode cL_refusesAny 92 = .ok (.istore 5, 2) := by decide +kernel
theorem dL_refusesAny_94 : decode cL_refusesAny 94 = .ok (.aload_n 0, 1) := by decide +kernel
theorem dL_refusesAny_95 : decode cL_refusesAny 95 = .ok (.iload_n 1, 1) := by decide +kernel
theorem dL_refusesAny_96 : decode cL_refusesAny 96 = .ok (.iconst 2, 1) := by decide +kernel
theorem dL_refusesAny_97 : decode cL_refusesAny 97 = .ok (.irem, 1) := by decide +kernel
theorem dL_refusesAny_98 : decode cL_refusesAny 98 = .ok (.ifCond .ne 7, 3) := by decide +kernel
theorem dL_refusesAny_101 : decode cL_refusesAny 101 = .ok (.iconst 1, 1) := by decide +kernel
theorem dL_refusesAny_102 : decode cL_refusesAny 102 = .ok (.goto 5, 3) := by decide +kernel
theorem dL_refusesAny_105 : decode cL_refusesAny 105 = .ok (.bipush 7, 2) := by decide +kernel
theorem dL_refusesAny_107 : decode cL_refusesAny 107 = .ok (.iconst 0, 1) := by decide +kernel
theorem dL_refusesAny_108 : decode cL_refusesAny 108 = .ok (.iconst 1, 1) := by decide +kernel
theorem dL_refusesAny_109 : decode cL_refusesAny 109 = .ok (.invokevirtual 34, 3) := by decide +kernel
theorem dL_refusesAny_112 : decode cL_refusesAny 112 = .ok (.bipush (-2), 2) := by decide +kernel
theorem dL_refusesAny_114 : decode cL_refusesAny 114 = .ok (.if_icmp .ne 260, 3) := by decide +kernel
theorem dL_refusesAny_117 : decode cL_refusesAny 117 = .ok (.aload_n 0, 1) := by decide +kernel
theorem dL_refusesAny_118 : decode cL_refusesAny 118 = .ok (.iconst 2, 1) := by decide +kernel
theorem dL_refusesAny_119 : decode cL_refusesAny 119 = .ok (.iload_n 1, 1) := by decide +kernel
theorem dL_refusesAny_120 : decode cL_refusesAny 120 = .ok (.iconst 3, 1) := by decide +kernel
theorem dL_refusesAny_121 : decode cL_refusesAny 121 = .ok (.irem, 1) := by decide +kernel
theorem dL_refusesAny_122 : decode cL_refusesAny 122 = .ok (.ifCond .ne 14, 3) := by decide +kernel
theorem dL_refusesAny_125 : decode cL_refusesAny 125 = .ok (.iconst 2, 1) := by decide +kernel
theorem dL_refusesAny_126 : decode cL_refusesAny 126 = .ok (.iload_n 1, 1) := by decide +kernel
theorem dL_refusesAny_127 : decode cL_refusesAny 127 = .ok (.bipush 126, 2) := by decide +kernel
theorem dL_refusesAny_129 : decode cL_refusesAny 129 = .ok (.irem, 1) := by decide +kernel
theorem dL_refusesAny_130 : decode cL_refusesAny 130 = .ok (.iconst 2, 1) := by decide +kernel
theorem dL_refusesAny_131 : decode cL_refusesAny 131 = .ok (.imul, 1) := by decide +kernel
theorem dL_refusesAny_132 : decode cL_refusesAny 132 = .ok (.iadd, 1) := by decide +kernel
theorem dL_refusesAny_133 : decode cL_refusesAny 133 = .ok (.goto 17, 3) := by decide +kernel
theorem dL_refusesAny_136 : decode cL_refusesAny 136 = .ok (.iload_n 1, 1) := by decide +kernel
theorem dL_refusesAny_137 : decode cL_refusesAny 137 = .ok (.iconst 3, 1) := by decide +kernel
theorem dL_refusesAny_138 : decode cL_refusesAny 138 = .ok (.irem, 1) := by decide +kernel
theorem dL_refusesAny_139 : decode cL_refusesAny 139 = .ok (.iconst 1, 1) := by decide +kernel
theorem dL_refusesAny_140 : decode cL_refusesAny 140 = .ok (.if_icmp .ne 9, 3) := by decide +kernel
theorem dL_refusesAny_143 : decode cL_refusesAny 143 = .ok (.sipush 255, 3) := by decide +kernel
theorem dL_refusesAny_146 : decode cL_refusesAny 146 = .ok (.goto 4, 3) := by decide +kernel
theorem dL_refusesAny_149 : decode cL_refusesAny 149 = .ok (.iconst (-1), 1) := by decide +kernel
theorem dL_refusesAny_150 : decode cL_refusesAny 150 = .ok (.iconst 1, 1) := by decide +kernel
theorem dL_refusesAny_151 : decode cL_refusesAny 151 = .ok (.invokevirtual 34, 3) := by decide +kernel
theorem dL_refusesAny_154 : decode cL_refusesAny 154 = .ok (.bipush (-2), 2) := by decide +kernel
theorem dL_refusesAny_156 : decode cL_refusesAny 156 = .ok (.if_icmp .ne 218, 3) := by decide +kernel
theorem dL_refusesAny_159 : decode cL_refusesAny 159 = .ok (.aload_n 0, 1) := by decide +kernel
theorem dL_refusesAny_160 : decode cL_refusesAny 160 = .ok (.iconst 2, 1) := by decide +kernel
theorem dL_refusesAny_161 : decode cL_refusesAny 161 = .ok (.iconst 0, 1) := by decide +kernel
theorem dL_refusesAny_162 : decode cL_refusesAny 162 = .ok (.iload_n 1, 1) := by decide +kernel
theorem dL_refusesAny_163 : decode cL_refusesAny 163 = .ok (.iconst 2, 1) := by decide +kernel
theorem dL_refusesAny_164 : decode cL_refusesAny 164 = .ok (.irem, 1) := by decide +kernel
theorem dL_refusesAny_165 : decode cL_refusesAny 165 = .ok (.ifCond .ne 7, 3) := by decide +kernel
theorem dL_refusesAny_168 : decode cL_refusesAny 168 = .ok (.iconst 0, 1) := by decide +kernel
theorem dL_refusesAny_169 : decode cL_refusesAny 169 = .ok (.goto 5, 3) := by decide +kernel
theorem dL_refusesAny_172 : decode cL_refusesAny 172 = .ok (.bipush 9, 2) := by decide +kernel
theorem dL_refusesAny_174 : decode cL_refusesAny 174 = .ok (.invokevirtual 34, 3) := by decide +kernel
theorem dL_refusesAny_177 : decode cL_refusesAny 177 = .ok (.bipush (-2), 2) := by decide +kernel
theorem dL_refusesAny_179 : decode cL_refusesAny 179 = .ok (.if_icmp .ne 195, 3) := by decide +kernel
theorem dL_refusesAny_182 : decode cL_refusesAny 182 = .ok (.aload_n 0, 1) := by decide +kernel
theorem dL_refusesAny_183 : decode cL_refusesAny 183 = .ok (.iconst 0, 1) := by decide +kernel
theorem dL_refusesAny_184 : decode cL_refusesAny 184 = .ok (.invokevirtual 14, 3) := by decide +kernel
theorem dL_refusesAny_187 : decode cL_refusesAny 187 = .ok (.bipush 6, 2) := by decide +kernel
theorem dL_refusesAny_189 : decode cL_refusesAny 189 = .ok (.if_icmp .lt 15, 3) := by decide +kernel
theorem dL_refusesAny_192 : decode cL_refusesAny 192 = .ok (.aload_n 0, 1) := by decide +kernel
theorem dL_refusesAny_193 : decode cL_refusesAny 193 = .ok (.iconst 2, 1) := by decide +kernel
theorem dL_refusesAny_194 : decode cL_refusesAny 194 = .ok (.iconst 0, 1) := by decide +kernel
theorem dL_refusesAny_195 : decode cL_refusesAny 195 = .ok (.iconst 1, 1) := by decide +kernel
theorem dL_refusesAny_196 : decode cL_refusesAny 196 = .ok (.invokevirtual 34, 3) := by decide +kernel
theorem dL_refusesAny_199 : decode cL_refusesAny 199 = .ok (.bipush (-3), 2) := by decide +kernel
theorem dL_refusesAny_201 : decode cL_refusesAny 201 = .ok (.if_icmp .ne 173, 3) := by decide +kernel
theorem dL_refusesAny_204 : decode cL_refusesAny 204 = .ok (.aload_n 0, 1) := by decide +kernel
theorem dL_refusesAny_205 : decode cL_refusesAny 205 = .ok (.iload_n 2, 1) := by decide +kernel
theorem dL_refusesAny_206 : decode cL_refusesAny 206 = .ok (.invokevirtual 40, 3) := by decide +kernel
theorem dL_refusesAny_209 : decode cL_refusesAny 209 = .ok (.iconst (-1), 1) := by decide +kernel
theorem dL_refusesAny_210 : decode cL_refusesAny 210 = .ok (.if_icmp .ne 164, 3) := by decide +kernel
theorem dL_refusesAny_213 : decode cL_refusesAny 213 = .ok (.aload_n 0, 1) := by decide +kernel
theorem dL_refusesAny_214 : decode cL_refusesAny 214 = .ok (.aload_n 0, 1) := by decide +kernel
theorem dL_refusesAny_215 : decode cL_refusesAny 215 = .ok (.iconst 0, 1) := by decide +kernel
theorem dL_refusesAny_216 : decode cL_refusesAny 216 = .ok (.invokevirtual 14, 3) := by decide +kernel
theorem dL_refusesAny_219 : decode cL_refusesAny 219 = .ok (.invokevirtual 40, 3) := by decide +kernel
theorem dL_refusesAny_222 : decode cL_refusesAny 222 = .ok (.iconst (-1), 1) := by decide +kernel
theorem dL_refusesAny_223 : decode cL_refusesAny 223 = .ok (.if_icmp .ne 151, 3) := by decide +kernel
theorem dL_refusesAny_226 : decode cL_refusesAny 226 = .ok (.aload_n 0, 1) := by decide +kernel
theorem dL_refusesAny_227 : decode cL_refusesAny 227 = .ok (.iload_n 2, 1) := by decide +kernel
theorem dL_refusesAny_228 : decode cL_refusesAny 228 = .ok (.iload_n 3, 1) := by decide +kernel
theorem dL_refusesAny_229 : decode cL_refusesAny 229 = .ok (.invokevirtual 43, 3) := by decide +kernel
theorem dL_refusesAny_232 : decode cL_refusesAny 232 = .ok (.iconst (-1), 1) := by decide +kernel
theorem dL_refusesAny_233 : decode cL_refusesAny 233 = .ok (.if_icmp .ne 141, 3) := by decide +kernel
theorem dL_refusesAny_236 : decode cL_refusesAny 236 = .ok (.aload_n 0, 1) := by decide +kernel
theorem dL_refusesAny_237 : decode cL_refusesAny 237 = .ok (.iconst 0, 1) := by decide +kernel
theorem dL_refusesAny_238 : decode cL_refusesAny 238 = .ok (.invokevirtual 14, 3) := by decide +kernel
theorem dL_refusesAny_241 : decode cL_refusesAny 241 = .ok (.ifCond .eq 14, 3) := by decide +kernel
theorem dL_refusesAny_244 : decode cL_refusesAny 244 = .ok (.aload_n 0, 1) := by decide +kernel
theorem dL_refusesAny_245 : decode cL_refusesAny 245 = .ok (.iconst 0, 1) := by decide +kernel
theorem dL_refusesAny_246 : decode cL_refusesAny 246 = .ok (.iload_n 3, 1) := by decide +kernel
theorem dL_refusesAny_247 : decode cL_refusesAny 247 = .ok (.invokevirtual 43, 3) := by decide +kernel
theorem dL_refusesAny_250 : decode cL_refusesAny 250 = .ok (.bipush (-2), 2) := by decide +kernel
theorem dL_refusesAny_252 : decode cL_refusesAny 252 = .ok (.if_icmp .ne 122, 3) := by decide +kernel
theorem dL_refusesAny_255 : decode cL_refusesAny 255 = .ok (.aload_n 0, 1) := by decide +kernel
theorem dL_refusesAny_256 : decode cL_refusesAny 256 = .ok (.iload_n 2, 1) := by decide +kernel
theorem dL_refusesAny_257 : decode cL_refusesAny 257 = .ok (.iconst 1, 1) := by decide +kernel
theorem dL_refusesAny_258 : decode cL_refusesAny 258 = .ok (.invokevirtual 46, 3) := by decide +kernel
theorem dL_refusesAny_261 : decode cL_refusesAny 261 = .ok (.iconst (-1), 1) := by decide +kernel
theorem dL_refusesAny_262 : decode cL_refusesAny 262 = .ok (.if_icmp .ne 112, 3) := by decide +kernel
theorem dL_refusesAny_265 : decode cL_refusesAny 265 = .ok (.aload_n 0, 1) := by decide +kernel
theorem dL_refusesAny_266 : decode cL_refusesAny 266 = .ok (.iload 4, 2) := by decide +kernel
theorem dL_refusesAny_268 : decode cL_refusesAny 268 = .ok (.iconst 0, 1) := by decide +kernel
theorem dL_refusesAny_269 : decode cL_refusesAny 269 = .ok (.invokevirtual 50, 3) := by decide +kernel
theorem dL_refusesAny_272 : decode cL_refusesAny 272 = .ok (.bipush (-2), 2) := by decide +kernel
theorem dL_refusesAny_274 : decode cL_refusesAny 274 = .ok (.if_icmp .ne 100, 3) := by decide +kernel
theorem dL_refusesAny_277 : decode cL_refusesAny 277 = .ok (.aload_n 0, 1) := by decide +kernel
theorem dL_refusesAny_278 : decode cL_refusesAny 278 = .ok (.iconst 0, 1) := by decide +kernel
theorem dL_refusesAny_279 : decode cL_refusesAny 279 = .ok (.iload 4, 2) := by decide +kernel
theorem dL_refusesAny_281 : decode cL_refusesAny 281 = .ok (.invokevirtual 50, 3) := by decide +kernel
theorem dL_refusesAny_284 : decode cL_refusesAny 284 = .ok (.bipush (-2), 2) := by decide +kernel
theorem dL_refusesAny_286 : decode cL_refusesAny 286 = .ok (.if_icmp .ne 88, 3) := by decide +kernel
theorem dL_refusesAny_289 : decode cL_refusesAny 289 = .ok (.aload_n 0, 1) := by decide +kernel
theorem dL_refusesAny_290 : decode cL_refusesAny 290 = .ok (.iload 5, 2) := by decide +kernel
theorem dL_refusesAny_292 : decode cL_refusesAny 292 = .ok (.invokevirtual 53, 3) := by decide +kernel
theorem dL_refusesAny_295 : decode cL_refusesAny 295 = .ok (.bipush (-2), 2) := by decide +kernel
theorem dL_refusesAny_297 : decode cL_refusesAny 297 = .ok (.if_icmp .ne 77, 3) := by decide +kernel
theorem dL_refusesAny_300 : decode cL_refusesAny 300 = .ok (.aload_n 0, 1) := by decide +kernel
theorem dL_refusesAny_301 : decode cL_refusesAny 301 = .ok (.iload_n 2, 1) := by decide +kernel
theorem dL_refusesAny_302 : decode cL_refusesAny 302 = .ok (.bipush 99, 2) := by decide +kernel
theorem dL_refusesAny_304 : decode cL_refusesAny 304 = .ok (.invokevirtual 56, 3) := by decide +kernel
theorem dL_refusesAny_307 : decode cL_refusesAny 307 = .ok (.iconst (-1), 1) := by decide +kernel
theorem dL_refusesAny_308 : decode cL_refusesAny 308 = .ok (.if_icmp .ne 66, 3) := by decide +kernel
theorem dL_refusesAny_311 : decode cL_refusesAny 311 = .ok (.aload_n 0, 1) := by decide +kernel
theorem dL_refusesAny_312 : decode cL_refusesAny 312 = .ok (.iconst 0, 1) := by decide +kernel
theorem dL_refusesAny_313 : decode cL_refusesAny 313 = .ok (.invokevirtual 14, 3) := by decide +kernel
theorem dL_refusesAny_316 : decode cL_refusesAny 316 = .ok (.ifCond .eq 25, 3) := by decide +kernel
theorem dL_refusesAny_319 : decode cL_refusesAny 319 = .ok (.aload_n 0, 1) := by decide +kernel
theorem dL_refusesAny_320 : decode cL_refusesAny 320 = .ok (.iconst 0, 1) := by decide +kernel
theorem dL_refusesAny_321 : decode cL_refusesAny 321 = .ok (.iload_n 1, 1) := by decide +kernel
theorem dL_refusesAny_322 : decode cL_refusesAny 322 = .ok (.iconst 2, 1) := by decide +kernel
theorem dL_refusesAny_323 : decode cL_refusesAny 323 = .ok (.irem, 1) := by decide +kernel
theorem dL_refusesAny_324 : decode cL_refusesAny 324 = .ok (.ifCond .ne 7, 3) := by decide +kernel
theorem dL_refusesAny_327 : decode cL_refusesAny 327 = .ok (.iconst (-1), 1) := by decide +kernel
theorem dL_refusesAny_328 : decode cL_refusesAny 328 = .ok (.goto 5, 3) := by decide +kernel
theorem dL_refusesAny_331 : decode cL_refusesAny 331 = .ok (.bipush 64, 2) := by decide +kernel
theorem dL_refusesAny_333 : decode cL_refusesAny 333 = .ok (.invokevirtual 56, 3) := by decide +kernel
theorem dL_refusesAny_336 : decode cL_refusesAny 336 = .ok (.bipush (-2), 2) := by decide +kernel
theorem dL_refusesAny_338 : decode cL_refusesAny 338 = .ok (.if_icmp .ne 36, 3) := by decide +kernel
theorem dL_refusesAny_341 : decode cL_refusesAny 341 = .ok (.aload_n 0, 1) := by decide +kernel
theorem dL_refusesAny_342 : decode cL_refusesAny 342 = .ok (.iload_n 2, 1) := by decide +kernel
theorem dL_refusesAny_343 : decode cL_refusesAny 343 = .ok (.iload_n 3, 1) := by decide +kernel
theorem dL_refusesAny_344 : decode cL_refusesAny 344 = .ok (.invokevirtual 59, 3) := by decide +kernel
theorem dL_refusesAny_347 : decode cL_refusesAny 347 = .ok (.iconst (-1), 1) := by decide +kernel
theorem dL_refusesAny_348 : decode cL_refusesAny 348 = .ok (.if_icmp .ne 26, 3) := by decide +kernel
theorem dL_refusesAny_351 : decode cL_refusesAny 351 = .ok (.aload_n 0, 1) := by decide +kernel
theorem dL_refusesAny_352 : decode cL_refusesAny 352 = .ok (.iconst 0, 1) := by decide +kernel
theorem dL_refusesAny_353 : decode cL_refusesAny 353 = .ok (.invokevirtual 14, 3) := by decide +kernel
theorem dL_refusesAny_356 : decode cL_refusesAny 356 = .ok (.ifCond .eq 14, 3) := by decide +kernel
theorem dL_refusesAny_359 : decode cL_refusesAny 359 = .ok (.aload_n 0, 1) := by decide +kernel
theorem dL_refusesAny_360 : decode cL_refusesAny 360 = .ok (.iconst 0, 1) := by decide +kernel
theorem dL_refusesAny_361 : decode cL_refusesAny 361 = .ok (.iload_n 3, 1) := by decide +kernel
theorem dL_refusesAny_362 : decode cL_refusesAny 362 = .ok (.invokevirtual 59, 3) := by decide +kernel
theorem dL_refusesAny_365 : decode cL_refusesAny 365 = .ok (.bipush (-2), 2) := by decide +kernel
theorem dL_refusesAny_367 : decode cL_refusesAny 367 = .ok (.if_icmp .ne 7, 3) := by decide +kernel
theorem dL_refusesAny_370 : decode cL_refusesAny 370 = .ok (.iconst 1, 1) := by decide +kernel
theorem dL_refusesAny_371 : decode cL_refusesAny 371 = .ok (.goto 4, 3) := by decide +kernel
theorem dL_refusesAny_374 : decode cL_refusesAny 374 = .ok (.iconst 0, 1) := by decide +kernel
theorem dL_refusesAny_375 : decode cL_refusesAny 375 = .ok (.istore 6, 2) := by decide +kernel
theorem dL_refusesAny_377 : decode cL_refusesAny 377 = .ok (.iload 6, 2) := by decide +kernel
theorem dL_refusesAny_379 : decode cL_refusesAny 379 = .ok (.ifCond .eq 181, 3) := by decide +kernel
theorem dL_refusesAny_382 : decode cL_refusesAny 382 = .ok (.aload_n 0, 1) := by decide +kernel
theorem dL_refusesAny_383 : decode cL_refusesAny 383 = .ok (.iload_n 2, 1) := by decide +kernel
theorem dL_refusesAny_384 : decode cL_refusesAny 384 = .ok (.bipush 99, 2) := by decide +kernel
theorem dL_refusesAny_386 : decode cL_refusesAny 386 = .ok (.invokevirtual 20, 3) := by decide +kernel
theorem dL_refusesAny_389 : decode cL_refusesAny 389 = .ok (.iconst (-1), 1) := by decide +kernel
theorem dL_refusesAny_390 : decode cL_refusesAny 390 = .ok (.if_icmp .ne 170, 3) := by decide +kernel
theorem dL_refusesAny_393 : decode cL_refusesAny 393 = .ok (.aload_n 0, 1) := by decide +kernel
theorem dL_refusesAny_394 : decode cL_refusesAny 394 = .ok (.iconst 0, 1) := by decide +kernel
theorem dL_refusesAny_395 : decode cL_refusesAny 395 = .ok (.invokevirtual 14, 3) := by decide +kernel
theorem dL_refusesAny_398 : decode cL_refusesAny 398 = .ok (.ifCond .eq 25, 3) := by decide +kernel
theorem dL_refusesAny_401 : decode cL_refusesAny 401 = .ok (.aload_n 0, 1) := by decide +kernel
theorem dL_refusesAny_402 : decode cL_refusesAny 402 = .ok (.iconst 0, 1) := by decide +kernel
theorem dL_refusesAny_403 : decode cL_refusesAny 403 = .ok (.iload_n 1, 1) := by decide +kernel
theorem dL_refusesAny_404 : decode cL_refusesAny 404 = .ok (.iconst 2, 1) := by decide +kernel
theorem dL_refusesAny_405 : decode cL_refusesAny 405 = .ok (.irem, 1) := by decide +kernel
theorem dL_refusesAny_406 : decode cL_refusesAny 406 = .ok (.ifCond .ne 7, 3) := by decide +kernel
theorem dL_refusesAny_409 : decode cL_refusesAny 409 = .ok (.iconst (-1), 1) := by decide +kernel
theorem dL_refusesAny_410 : decode cL_refusesAny 410 = .ok (.goto 5, 3) := by decide +kernel
theorem dL_refusesAny_413 : decode cL_refusesAny 413 = .ok (.bipush 10, 2) := by decide +kernel
theorem dL_refusesAny_415 : decode cL_refusesAny 415 = .ok (.invokevirtual 20, 3) := by decide +kernel
theorem dL_refusesAny_418 : decode cL_refusesAny 418 = .ok (.bipush (-2), 2) := by decide +kernel
theorem dL_refusesAny_420 : decode cL_refusesAny 420 = .ok (.if_icmp .ne 140, 3) := by decide +kernel
theorem dL_refusesAny_423 : decode cL_refusesAny 423 = .ok (.aload_n 0, 1) := by decide +kernel
theorem dL_refusesAny_424 : decode cL_refusesAny 424 = .ok (.iload_n 1, 1) := by decide +kernel
theorem dL_refusesAny_425 : decode cL_refusesAny 425 = .ok (.iconst 2, 1) := by decide +kernel
theorem dL_refusesAny_426 : decode cL_refusesAny 426 = .ok (.irem, 1) := by decide +kernel
theorem dL_refusesAny_427 : decode cL_refusesAny 427 = .ok (.ifCond .ne 7, 3) := by decide +kernel
theorem dL_refusesAny_430 : decode cL_refusesAny 430 = .ok (.iconst (-1), 1) := by decide +kernel
theorem dL_refusesAny_431 : decode cL_refusesAny 431 = .ok (.goto 5, 3) := by decide +kernel
theorem dL_refusesAny_434 : decode cL_refusesAny 434 = .ok (.bipush 9, 2) := by decide +kernel
theorem dL_refusesAny_436 : decode cL_refusesAny 436 = .ok (.invokevirtual 14, 3) := by decide +kernel
theorem dL_refusesAny_439 : decode cL_refusesAny 439 = .ok (.bipush (-2), 2) := by decide +kernel
theorem dL_refusesAny_441 : decode cL_refusesAny 441 = .ok (.if_icmp .ne 119, 3) := by decide +kernel
theorem dL_refusesAny_444 : decode cL_refusesAny 444 = .ok (.aload_n 0, 1) := by decide +kernel
theorem dL_refusesAny_445 : decode cL_refusesAny 445 = .ok (.iconst (-1), 1) := by decide +kernel
theorem dL_refusesAny_446 : decode cL_refusesAny 446 = .ok (.iload_n 1, 1) := by decide +kernel
theorem dL_refusesAny_447 : decode cL_refusesAny 447 = .ok (.bipush 99, 2) := by decide +kernel
theorem dL_refusesAny_449 : decode cL_refusesAny 449 = .ok (.irem, 1) := by decide +kernel
theorem dL_refusesAny_450 : decode cL_refusesAny 450 = .ok (.isub, 1) := by decide +kernel
theorem dL_refusesAny_451 : decode cL_refusesAny 451 = .ok (.invokevirtual 24, 3) := by decide +kernel
theorem dL_refusesAny_454 : decode cL_refusesAny 454 = .ok (.bipush (-2), 2) := by decide +kernel
theorem dL_refusesAny_456 : decode cL_refusesAny 456 = .ok (.if_icmp .ne 104, 3) := by decide +kernel
theorem dL_refusesAny_459 : decode cL_refusesAny 459 = .ok (.aload_n 0, 1) := by decide +kernel
theorem dL_refusesAny_460 : decode cL_refusesAny 460 = .ok (.bipush 8, 2) := by decide +kernel
theorem dL_refusesAny_462 : decode cL_refusesAny 462 = .ok (.invokevirtual 24, 3) := by decide +kernel
theorem dL_refusesAny_465 : decode cL_refusesAny 465 = .ok (.bipush (-4), 2) := by decide +kernel
theorem dL_refusesAny_467 : decode cL_refusesAny 467 = .ok (.if_icmp .ne 93, 3) := by decide +kernel
theorem dL_refusesAny_470 : decode cL_refusesAny 470 = .ok (.aload_n 0, 1) := by decide +kernel
theorem dL_refusesAny_471 : decode cL_refusesAny 471 = .ok (.iload 5, 2) := by decide +kernel
theorem dL_refusesAny_473 : decode cL_refusesAny 473 = .ok (.iconst 0, 1) := by decide +kernel
theorem dL_refusesAny_474 : decode cL_refusesAny 474 = .ok (.invokevirtual 62, 3) := by decide +kernel
theorem dL_refusesAny_477 : decode cL_refusesAny 477 = .ok (.bipush (-2), 2) := by decide +kernel
theorem dL_refusesAny_479 : decode cL_refusesAny 479 = .ok (.if_icmp .ne 81, 3) := by decide +kernel
theorem dL_refusesAny_482 : decode cL_refusesAny 482 = .ok (.aload_n 0, 1) := by decide +kernel
theorem dL_refusesAny_483 : decode cL_refusesAny 483 = .ok (.iconst 0, 1) := by decide +kernel
theorem dL_refusesAny_484 : decode cL_refusesAny 484 = .ok (.iload 5, 2) := by decide +kernel
theorem dL_refusesAny_486 : decode cL_refusesAny 486 = .ok (.invokevirtual 62, 3) := by decide +kernel
theorem dL_refusesAny_489 : decode cL_refusesAny 489 = .ok (.bipush (-2), 2) := by decide +kernel
theorem dL_refusesAny_491 : decode cL_refusesAny 491 = .ok (.if_icmp .ne 69, 3) := by decide +kernel
theorem dL_refusesAny_494 : decode cL_refusesAny 494 = .ok (.aload_n 0, 1) := by decide +kernel
theorem dL_refusesAny_495 : decode cL_refusesAny 495 = .ok (.iload 4, 2) := by decide +kernel
theorem dL_refusesAny_497 : decode cL_refusesAny 497 = .ok (.invokevirtual 27, 3) := by decide +kernel
theorem dL_refusesAny_500 : decode cL_refusesAny 500 = .ok (.bipush (-2), 2) := by decide +kernel
theorem dL_refusesAny_502 : decode cL_refusesAny 502 = .ok (.if_icmp .ne 58, 3) := by decide +kernel
theorem dL_refusesAny_505 : decode cL_refusesAny 505 = .ok (.aload_n 0, 1) := by decide +kernel
theorem dL_refusesAny_506 : decode cL_refusesAny 506 = .ok (.iload_n 2, 1) := by decide +kernel
theorem dL_refusesAny_507 : decode cL_refusesAny 507 = .ok (.iload_n 3, 1) := by decide +kernel
theorem dL_refusesAny_508 : decode cL_refusesAny 508 = .ok (.invokevirtual 65, 3) := by decide +kernel
theorem dL_refusesAny_511 : decode cL_refusesAny 511 = .ok (.iconst (-1), 1) := by decide +kernel
theorem dL_refusesAny_512 : decode cL_refusesAny 512 = .ok (.if_icmp .ne 48, 3) := by decide +kernel
theorem dL_refusesAny_515 : decode cL_refusesAny 515 = .ok (.aload_n 0, 1) := by decide +kernel
theorem dL_refusesAny_516 : decode cL_refusesAny 516 = .ok (.iconst 0, 1) := by decide +kernel
theorem dL_refusesAny_517 : decode cL_refusesAny 517 = .ok (.invokevirtual 14, 3) := by decide +kernel
theorem dL_refusesAny_520 : decode cL_refusesAny 520 = .ok (.ifCond .eq 14, 3) := by decide +kernel
theorem dL_refusesAny_523 : decode cL_refusesAny 523 = .ok (.aload_n 0, 1) := by decide +kernel
theorem dL_refusesAny_524 : decode cL_refusesAny 524 = .ok (.iconst 0, 1) := by decide +kernel
theorem dL_refusesAny_525 : decode cL_refusesAny 525 = .ok (.iload_n 3, 1) := by decide +kernel
theorem dL_refusesAny_526 : decode cL_refusesAny 526 = .ok (.invokevirtual 65, 3) := by decide +kernel
theorem dL_refusesAny_529 : decode cL_refusesAny 529 = .ok (.bipush (-2), 2) := by decide +kernel
theorem dL_refusesAny_531 : decode cL_refusesAny 531 = .ok (.if_icmp .ne 29, 3) := by decide +kernel
theorem dL_refusesAny_534 : decode cL_refusesAny 534 = .ok (.aload_n 0, 1) := by decide +kernel
theorem dL_refusesAny_535 : decode cL_refusesAny 535 = .ok (.iload_n 1, 1) := by decide +kernel
theorem dL_refusesAny_536 : decode cL_refusesAny 536 = .ok (.iconst 2, 1) := by decide +kernel
theorem dL_refusesAny_537 : decode cL_refusesAny 537 = .ok (.irem, 1) := by decide +kernel
theorem dL_refusesAny_538 : decode cL_refusesAny 538 = .ok (.ifCond .ne 8, 3) := by decide +kernel
theorem dL_refusesAny_541 : decode cL_refusesAny 541 = .ok (.bipush 31, 2) := by decide +kernel
theorem dL_refusesAny_543 : decode cL_refusesAny 543 = .ok (.goto 5, 3) := by decide +kernel
theorem dL_refusesAny_546 : decode cL_refusesAny 546 = .ok (.bipush 127, 2) := by decide +kernel
theorem dL_refusesAny_548 : decode cL_refusesAny 548 = .ok (.invokevirtual 68, 3) := by decide +kernel
theorem dL_refusesAny_551 : decode cL_refusesAny 551 = .ok (.bipush (-2), 2) := by decide +kernel
theorem dL_refusesAny_553 : decode cL_refusesAny 553 = .ok (.if_icmp .ne 7, 3) := by decide +kernel
theorem dL_refusesAny_556 : decode cL_refusesAny 556 = .ok (.iconst 1, 1) := by decide +kernel
theorem dL_refusesAny_557 : decode cL_refusesAny 557 = .ok (.goto 4, 3) := by decide +kernel
theorem dL_refusesAny_560 : decode cL_refusesAny 560 = .ok (.iconst 0, 1) := by decide +kernel
theorem dL_refusesAny_561 : decode cL_refusesAny 561 = .ok (.istore 6, 2) := by decide +kernel
theorem dL_refusesAny_563 : decode cL_refusesAny 563 = .ok (.iload 6, 2) := by decide +kernel
theorem dL_refusesAny_565 : decode cL_refusesAny 565 = .ok (.ifCond .eq 30, 3) := by decide +kernel
theorem dL_refusesAny_568 : decode cL_refusesAny 568 = .ok (.aload_n 0, 1) := by decide +kernel
theorem dL_refusesAny_569 : decode cL_refusesAny 569 = .ok (.invokevirtual 71, 3) := by decide +kernel
theorem dL_refusesAny_572 : decode cL_refusesAny 572 = .ok (.ifCond .ne 23, 3) := by decide +kernel
theorem dL_refusesAny_575 : decode cL_refusesAny 575 = .ok (.aload_n 0, 1) := by decide +kernel
theorem dL_refusesAny_576 : decode cL_refusesAny 576 = .ok (.invokevirtual 75, 3) := by decide +kernel
theorem dL_refusesAny_579 : decode cL_refusesAny 579 = .ok (.ifCond .ne 16, 3) := by decide +kernel
theorem dL_refusesAny_582 : decode cL_refusesAny 582 = .ok (.aload_n 0, 1) := by decide +kernel
theorem dL_refusesAny_583 : decode cL_refusesAny 583 = .ok (.invokevirtual 78, 3) := by decide +kernel
theorem dL_refusesAny_586 : decode cL_refusesAny 586 = .ok (.bipush (-100), 2) := by decide +kernel
theorem dL_refusesAny_588 : decode cL_refusesAny 588 = .ok (.if_icmp .ne 7, 3) := by decide +kernel
theorem dL_refusesAny_591 : decode cL_refusesAny 591 = .ok (.iconst 1, 1) := by decide +kernel
theorem dL_refusesAny_592 : decode cL_refusesAny 592 = .ok (.goto 4, 3) := by decide +kernel
theorem dL_refusesAny_595 : decode cL_refusesAny 595 = .ok (.iconst 0, 1) := by decide +kernel
theorem dL_refusesAny_596 : decode cL_refusesAny 596 = .ok (.ireturn, 1) := by decide +kernel
theorem dL_refuses_0 : decode cL_refuses 0 = .ok (.aload_n 0, 1) := by decide +kernel
theorem dL_refuses_1 : decode cL_refuses 1 = .ok (.invokestatic 81, 3) := by decide +kernel
theorem dL_refuses_4 : decode cL_refuses 4 = .ok (.lstore_n 2, 1) := by decide +kernel
theorem dL_refuses_5 : decode cL_refuses 5 = .ok (.aload_n 0, 1) := by decide +kernel
theorem dL_refuses_6 : decode cL_refuses 6 = .ok (.bipush 7, 2) := by decide +kernel
theorem dL_refuses_8 : decode cL_refuses 8 = .ok (.invokevirtual 14, 3) := by decide +kernel
theorem dL_refuses_11 : decode cL_refuses 11 = .ok (.istore 4, 2) := by decide +kernel
theorem dL_refuses_13 : decode cL_refuses 13 = .ok (.aload_n 0, 1) := by decide +kernel
theorem dL_refuses_14 : decode cL_refuses 14 = .ok (.iload_n 1, 1) := by decide +kernel
theorem dL_refuses_15 : decode cL_refuses 15 = .ok (.invokestatic 85, 3) := by decide +kernel
theorem dL_refuses_18 : decode cL_refuses 18 = .ok (.ifCond .eq 27, 3) := by decide +kernel
theorem dL_refuses_21 : decode cL_refuses 21 = .ok (.aload_n 0, 1) := by decide +kernel
theorem dL_refuses_22 : decode cL_refuses 22 = .ok (.invokestatic 81, 3) := by decide +kernel
theorem dL_refuses_25 : decode cL_refuses 25 = .ok (.lload_n 2, 1) := by decide +kernel
theorem dL_refuses_26 : decode cL_refuses 26 = .ok (.lcmp, 1) := by decide +kernel
theorem dL_refuses_27 : decode cL_refuses 27 = .ok (.ifCond .ne 18, 3) := by decide +kernel
theorem dL_refuses_30 : decode cL_refuses 30 = .ok (.aload_n 0, 1) := by decide +kernel
theorem dL_refuses_31 : decode cL_refuses 31 = .ok (.bipush 7, 2) := by decide +kernel
theorem dL_refuses_33 : decode cL_refuses 33 = .ok (.invokevirtual 14, 3) := by decide +kernel
theorem dL_refuses_36 : decode cL_refuses 36 = .ok (.iload 4, 2) := by decide +kernel
theorem dL_refuses_38 : decode cL_refuses 38 = .ok (.if_icmp .ne 7, 3) := by decide +kernel
theorem dL_refuses_41 : decode cL_refuses 41 = .ok (.iconst 1, 1) := by decide +kernel
theorem dL_refuses_42 : decode cL_refuses 42 = .ok (.goto 4, 3) := by decide +kernel
theorem dL_refuses_45 : decode cL_refuses 45 = .ok (.iconst 0, 1) := by decide +kernel
theorem dL_refuses_46 : decode cL_refuses 46 = .ok (.ireturn, 1) := by decide +kernel
theorem dL_areWays_0 : decode cL_areWays 0 = .ok (.aload_n 0, 1) := by decide +kernel
theorem dL_areWays_1 : decode cL_areWays 1 = .ok (.iload_n 1, 1) := by decide +kernel
theorem dL_areWays_2 : decode cL_areWays 2 = .ok (.iload_n 1, 1) := by decide +kernel
theorem dL_areWays_3 : decode cL_areWays 3 = .ok (.invokevirtual 62, 3) := by decide +kernel
theorem dL_areWays_6 : decode cL_areWays 6 = .ok (.ifCond .ne 7, 3) := by decide +kernel
theorem dL_areWays_9 : decode cL_areWays 9 = .ok (.iconst 1, 1) := by decide +kernel
theorem dL_areWays_10 : decode cL_areWays 10 = .ok (.goto 4, 3) := by decide +kernel
theorem dL_areWays_13 : decode cL_areWays 13 = .ok (.iconst 0, 1) := by decide +kernel
theorem dL_areWays_14 : decode cL_areWays 14 = .ok (.istore_n 2, 1) := by decide +kernel
theorem dL_areWays_15 : decode cL_areWays 15 = .ok (.iconst 0, 1) := by decide +kernel
theorem dL_areWays_16 : decode cL_areWays 16 = .ok (.istore_n 3, 1) := by decide +kernel
theorem dL_areWays_17 : decode cL_areWays 17 = .ok (.iload_n 3, 1) := by decide +kernel
theorem dL_areWays_18 : decode cL_areWays 18 = .ok (.bipush 16, 2) := by decide +kernel
theorem dL_areWays_20 : decode cL_areWays 20 = .ok (.if_icmp .ge 84, 3) := by decide +kernel
theorem dL_areWays_23 : decode cL_areWays 23 = .ok (.iload_n 2, 1) := by decide +kernel
theorem dL_areWays_24 : decode cL_areWays 24 = .ok (.ifCond .eq 80, 3) := by decide +kernel
theorem dL_areWays_27 : decode cL_areWays 27 = .ok (.aload_n 0, 1) := by decide +kernel
theorem dL_areWays_28 : decode cL_areWays 28 = .ok (.iload_n 3, 1) := by decide +kernel
theorem dL_areWays_29 : decode cL_areWays 29 = .ok (.iload_n 1, 1) := by decide +kernel
theorem dL_areWays_30 : decode cL_areWays 30 = .ok (.invokevirtual 62, 3) := by decide +kernel
theorem dL_areWays_33 : decode cL_areWays 33 = .ok (.istore 4, 2) := by decide +kernel
theorem dL_areWays_35 : decode cL_areWays 35 = .ok (.iload 4, 2) := by decide +kernel
theorem dL_areWays_37 : decode cL_areWays 37 = .ok (.ifCond .lt 59, 3) := by decide +kernel
theorem dL_areWays_40 : decode cL_areWays 40 = .ok (.iload 4, 2) := by decide +kernel
theorem dL_areWays_42 : decode cL_areWays 42 = .ok (.ifCond .ne 7, 3) := by decide +kernel
theorem dL_areWays_45 : decode cL_areWays 45 = .ok (.iconst 1, 1) := by decide +kernel
theorem dL_areWays_46 : decode cL_areWays 46 = .ok (.goto 4, 3) := by decide +kernel
theorem dL_areWays_49 : decode cL_areWays 49 = .ok (.iconst 0, 1) := by decide +kernel
theorem dL_areWays_50 : decode cL_areWays 50 = .ok (.iload_n 3, 1) := by decide +kernel
theorem dL_areWays_51 : decode cL_areWays 51 = .ok (.iload_n 1, 1) := by decide +kernel
theorem dL_areWays_52 : decode cL_areWays 52 = .ok (.if_icmp .ne 7, 3) := by decide +kernel
theorem dL_areWays_55 : decode cL_areWays 55 = .ok (.iconst 1, 1) := by decide +kernel
theorem dL_areWays_56 : decode cL_areWays 56 = .ok (.goto 4, 3) := by decide +kernel
theorem dL_areWays_59 : decode cL_areWays 59 = .ok (.iconst 0, 1) := by decide +kernel
theorem dL_areWays_60 : decode cL_areWays 60 = .ok (.if_icmp .ne 36, 3) := by decide +kernel
theorem dL_areWays_63 : decode cL_areWays 63 = .ok (.iload 4, 2) := by decide +kernel
theorem dL_areWays_65 : decode cL_areWays 65 = .ok (.aload_n 0, 1) := by decide +kernel
theorem dL_areWays_66 : decode cL_areWays 66 = .ok (.iload_n 3, 1) := by decide +kernel
theorem dL_areWays_67 : decode cL_areWays 67 = .ok (.iconst 0, 1) := by decide +kernel
theorem dL_areWays_68 : decode cL_areWays 68 = .ok (.invokevirtual 62, 3) := by decide +kernel
theorem dL_areWays_71 : decode cL_areWays 71 = .ok (.aload_n 0, 1) := by decide +kernel
theorem dL_areWays_72 : decode cL_areWays 72 = .ok (.iconst 0, 1) := by decide +kernel
theorem dL_areWays_73 : decode cL_areWays 73 = .ok (.iload_n 1, 1) := by decide +kernel
theorem dL_areWays_74 : decode cL_areWays 74 = .ok (.invokevirtual 62, 3) := by decide +kernel
theorem dL_areWays_77 : decode cL_areWays 77 = .ok (.iadd, 1) := by decide +kernel
theorem dL_areWays_78 : decode cL_areWays 78 = .ok (.if_icmp .gt 18, 3) := by decide +kernel
theorem dL_areWays_81 : decode cL_areWays 81 = .ok (.aload_n 0, 1) := by decide +kernel
theorem dL_areWays_82 : decode cL_areWays 82 = .ok (.iload_n 3, 1) := by decide +kernel
theorem dL_areWays_83 : decode cL_areWays 83 = .ok (.iconst 0, 1) := by decide +kernel
theorem dL_areWays_84 : decode cL_areWays 84 = .ok (.invokevirtual 62, 3) := by decide +kernel
theorem dL_areWays_87 : decode cL_areWays 87 = .ok (.bipush 6, 2) := by decide +kernel
theorem dL_areWays_89 : decode cL_areWays 89 = .ok (.if_icmp .ge 7, 3) := by decide +kernel
theorem dL_areWays_92 : decode cL_areWays 92 = .ok (.iconst 1, 1) := by decide +kernel
theorem dL_areWays_93 : decode cL_areWays 93 = .ok (.goto 4, 3) := by decide +kernel
theorem dL_areWays_96 : decode cL_areWays 96 = .ok (.iconst 0, 1) := by decide +kernel
theorem dL_areWays_97 : decode cL_areWays 97 = .ok (.istore_n 2, 1) := by decide +kernel
theorem dL_areWays_98 : decode cL_areWays 98 = .ok (.iinc 3 1, 3) := by decide +kernel
theorem dL_areWays_101 : decode cL_areWays 101 = .ok (.goto (-84), 3) := by decide +kernel
theorem dL_areWays_104 : decode cL_areWays 104 = .ok (.iload_n 2, 1) := by decide +kernel
theorem dL_areWays_105 : decode cL_areWays 105 = .ok (.ireturn, 1) := by decide +kernel
theorem dL_clock_0 : decode cL_clock 0 = .ok (.aload_n 0, 1) := by decide +kernel
theorem dL_clock_1 : decode cL_clock 1 = .ok (.iconst 2, 1) := by decide +kernel
theorem dL_clock_2 : decode cL_clock 2 = .ok (.invokevirtual 14, 3) := by decide +kernel
theorem dL_clock_5 : decode cL_clock 5 = .ok (.istore_n 3, 1) := by decide +kernel
theorem dL_clock_6 : decode cL_clock 6 = .ok (.aload_n 0, 1) := by decide +kernel
theorem dL_clock_7 : decode cL_clock 7 = .ok (.iconst 3, 1) := by decide +kernel
theorem dL_clock_8 : decode cL_clock 8 = .ok (.invokevirtual 14, 3) := by decide +kernel
theorem dL_clock_11 : decode cL_clock 11 = .ok (.istore 4, 2) := by decide +kernel
theorem dL_clock_13 : decode cL_clock 13 = .ok (.aload_n 0, 1) := by decide +kernel
theorem dL_clock_14 : decode cL_clock 14 = .ok (.iload_n 2, 1) := by decide +kernel
theorem dL_clock_15 : decode cL_clock 15 = .ok (.invokevirtual 27, 3) := by decide +kernel
theorem dL_clock_18 : decode cL_clock 18 = .ok (.istore 5, 2) := by decide +kernel
theorem dL_clock_20 : decode cL_clock 20 = .ok (.aload_n 0, 1) := by decide +kernel
theorem dL_clock_21 : decode cL_clock 21 = .ok (.iconst 0, 1) := by decide +kernel
theorem dL_clock_22 : decode cL_clock 22 = .ok (.invokevirtual 14, 3) := by decide +kernel
theorem dL_clock_25 : decode cL_clock 25 = .ok (.istore 6, 2) := by decide +kernel
theorem dL_clock_27 : decode cL_clock 27 = .ok (.iload 6, 2) := by decide +kernel
theorem dL_clock_29 : decode cL_clock 29 = .ok (.ifCond .ne 7, 3) := by decide +kernel
theorem dL_clock_32 : decode cL_clock 32 = .ok (.iconst 0, 1) := by decide +kernel
theorem dL_clock_33 : decode cL_clock 33 = .ok (.goto 25, 3) := by decide +kernel
theorem dL_clock_36 : decode cL_clock 36 = .ok (.iload_n 3, 1) := by decide +kernel
theorem dL_clock_37 : decode cL_clock 37 = .ok (.iconst 4, 1) := by decide +kernel
theorem dL_clock_38 : decode cL_clock 38 = .ok (.if_icmp .ne 13, 3) := by decide +kernel
theorem dL_clock_41 : decode cL_clock 41 = .ok (.aload_n 0, 1) := by decide +kernel
theorem dL_clock_42 : decode cL_clock 42 = .ok (.iconst 0, 1) := by decide +kernel
theorem dL_clock_43 : decode cL_clock 43 = .ok (.bipush 8, 2) := by decide +kernel
theorem dL_clock_45 : decode cL_clock 45 = .ok (.invokevirtual 20, 3) := by decide +kernel
theorem dL_clock_48 : decode cL_clock 48 = .ok (.goto 10, 3) := by decide +kernel
theorem dL_clock_51 : decode cL_clock 51 = .ok (.aload_n 0, 1) := by decide +kernel
theorem dL_clock_52 : decode cL_clock 52 = .ok (.iconst 0, 1) := by decide +kernel
theorem dL_clock_53 : decode cL_clock 53 = .ok (.bipush 7, 2) := by decide +kernel
theorem dL_clock_55 : decode cL_clock 55 = .ok (.invokevirtual 20, 3) := by decide +kernel
theorem dL_clock_58 : decode cL_clock 58 = .ok (.istore 7, 2) := by decide +kernel
theorem dL_clock_60 : decode cL_clock 60 = .ok (.iload 6, 2) := by decide +kernel
theorem dL_clock_62 : decode cL_clock 62 = .ok (.ifCond .ne 7, 3) := by decide +kernel
theorem dL_clock_65 : decode cL_clock 65 = .ok (.iconst 0, 1) := by decide +kernel
theorem dL_clock_66 : decode cL_clock 66 = .ok (.goto 24, 3) := by decide +kernel
theorem dL_clock_69 : decode cL_clock 69 = .ok (.iload_n 3, 1) := by decide +kernel
theorem dL_clock_70 : decode cL_clock 70 = .ok (.iconst 4, 1) := by decide +kernel
theorem dL_clock_71 : decode cL_clock 71 = .ok (.if_icmp .ne 13, 3) := by decide +kernel
theorem dL_clock_74 : decode cL_clock 74 = .ok (.aload_n 0, 1) := by decide +kernel
theorem dL_clock_75 : decode cL_clock 75 = .ok (.iconst 0, 1) := by decide +kernel
theorem dL_clock_76 : decode cL_clock 76 = .ok (.bipush 9, 2) := by decide +kernel
theorem dL_clock_78 : decode cL_clock 78 = .ok (.invokevirtual 20, 3) := by decide +kernel
theorem dL_clock_81 : decode cL_clock 81 = .ok (.goto 9, 3) := by decide +kernel
theorem dL_clock_84 : decode cL_clock 84 = .ok (.aload_n 0, 1) := by decide +kernel
theorem dL_clock_85 : decode cL_clock 85 = .ok (.iconst 0, 1) := by decide +kernel
theorem dL_clock_86 : decode cL_clock 86 = .ok (.iconst 0, 1) := by decide +kernel
theorem dL_clock_87 : decode cL_clock 87 = .ok (.invokevirtual 20, 3) := by decide +kernel
theorem dL_clock_90 : decode cL_clock 90 = .ok (.istore 8, 2) := by decide +kernel
theorem dL_clock_92 : decode cL_clock 92 = .ok (.aload_n 0, 1) := by decide +kernel
theorem dL_clock_93 : decode cL_clock 93 = .ok (.iload_n 1, 1) := by decide +kernel
theorem dL_clock_94 : decode cL_clock 94 = .ok (.iload_n 2, 1) := by decide +kernel
theorem dL_clock_95 : decode cL_clock 95 = .ok (.invokevirtual 50, 3) := by decide +kernel
theorem dL_clock_98 : decode cL_clock 98 = .ok (.istore 9, 2) := by decide +kernel
theorem dL_clock_100 : decode cL_clock 100 = .ok (.iload 9, 2) := by decide +kernel
theorem dL_clock_102 : decode cL_clock 102 = .ok (.iload 5, 2) := by decide +kernel
theorem dL_clock_104 : decode cL_clock 104 = .ok (.if_icmp .ne 42, 3) := by decide +kernel
theorem dL_clock_107 : decode cL_clock 107 = .ok (.aload_n 0, 1) := by decide +kernel
theorem dL_clock_108 : decode cL_clock 108 = .ok (.iconst 3, 1) := by decide +kernel
theorem dL_clock_109 : decode cL_clock 109 = .ok (.invokevirtual 14, 3) := by decide +kernel
theorem dL_clock_112 : decode cL_clock 112 = .ok (.iload 4, 2) := by decide +kernel
theorem dL_clock_114 : decode cL_clock 114 = .ok (.iconst 1, 1) := by decide +kernel
theorem dL_clock_115 : decode cL_clock 115 = .ok (.iadd, 1) := by decide +kernel
theorem dL_clock_116 : decode cL_clock 116 = .ok (.if_icmp .ne 30, 3) := by decide +kernel
theorem dL_clock_119 : decode cL_clock 119 = .ok (.aload_n 0, 1) := by decide +kernel
theorem dL_clock_120 : decode cL_clock 120 = .ok (.iconst 2, 1) := by decide +kernel
theorem dL_clock_121 : decode cL_clock 121 = .ok (.invokevirtual 14, 3) := by decide +kernel
theorem dL_clock_124 : decode cL_clock 124 = .ok (.iload_n 3, 1) := by decide +kernel
theorem dL_clock_125 : decode cL_clock 125 = .ok (.if_icmp .eq 17, 3) := by decide +kernel
theorem dL_clock_128 : decode cL_clock 128 = .ok (.aload_n 0, 1) := by decide +kernel
theorem dL_clock_129 : decode cL_clock 129 = .ok (.iload_n 3, 1) := by decide +kernel
theorem dL_clock_130 : decode cL_clock 130 = .ok (.aload_n 0, 1) := by decide +kernel
theorem dL_clock_131 : decode cL_clock 131 = .ok (.iconst 2, 1) := by decide +kernel
theorem dL_clock_132 : decode cL_clock 132 = .ok (.invokevirtual 14, 3) := by decide +kernel
theorem dL_clock_135 : decode cL_clock 135 = .ok (.invokevirtual 62, 3) := by decide +kernel
theorem dL_clock_138 : decode cL_clock 138 = .ok (.iconst 1, 1) := by decide +kernel
theorem dL_clock_139 : decode cL_clock 139 = .ok (.if_icmp .ne 7, 3) := by decide +kernel
theorem dL_clock_142 : decode cL_clock 142 = .ok (.iconst 1, 1) := by decide +kernel
theorem dL_clock_143 : decode cL_clock 143 = .ok (.goto 4, 3) := by decide +kernel
theorem dL_clock_146 : decode cL_clock 146 = .ok (.iconst 0, 1) := by decide +kernel
theorem dL_clock_147 : decode cL_clock 147 = .ok (.istore 10, 2) := by decide +kernel
theorem dL_clock_149 : decode cL_clock 149 = .ok (.iload 6, 2) := by decide +kernel
theorem dL_clock_151 : decode cL_clock 151 = .ok (.ifCond .le 57, 3) := by decide +kernel
theorem dL_clock_154 : decode cL_clock 154 = .ok (.iload_n 3, 1) := by decide +kernel
theorem dL_clock_155 : decode cL_clock 155 = .ok (.iconst 4, 1) := by decide +kernel
theorem dL_clock_156 : decode cL_clock 156 = .ok (.if_icmp .eq 9, 3) := by decide +kernel
theorem dL_clock_159 : decode cL_clock 159 = .ok (.iload_n 3, 1) := by decide +kernel
theorem dL_clock_160 : decode cL_clock 160 = .ok (.bipush 11, 2) := by decide +kernel
theorem dL_clock_162 : decode cL_clock 162 = .ok (.if_icmp .ne 46, 3) := by decide +kernel
theorem dL_clock_165 : decode cL_clock 165 = .ok (.iload 10, 2) := by decide +kernel
theorem dL_clock_167 : decode cL_clock 167 = .ok (.ifCond .eq 38, 3) := by decide +kernel
theorem dL_clock_170 : decode cL_clock 170 = .ok (.aload_n 0, 1) := by decide +kernel
theorem dL_clock_171 : decode cL_clock 171 = .ok (.iconst 0, 1) := by decide +kernel
theorem dL_clock_172 : decode cL_clock 172 = .ok (.iload_n 3, 1) := by decide +kernel
theorem dL_clock_173 : decode cL_clock 173 = .ok (.iconst 4, 1) := by decide +kernel
theorem dL_clock_174 : decode cL_clock 174 = .ok (.if_icmp .ne 8, 3) := by decide +kernel
theorem dL_clock_177 : decode cL_clock 177 = .ok (.bipush 8, 2) := by decide +kernel
theorem dL_clock_179 : decode cL_clock 179 = .ok (.goto 5, 3) := by decide +kernel
theorem dL_clock_182 : decode cL_clock 182 = .ok (.bipush 7, 2) := by decide +kernel
theorem dL_clock_184 : decode cL_clock 184 = .ok (.invokevirtual 20, 3) := by decide +kernel
theorem dL_clock_187 : decode cL_clock 187 = .ok (.iload 7, 2) := by decide +kernel
theorem dL_clock_189 : decode cL_clock 189 = .ok (.iconst 2, 1) := by decide +kernel
theorem dL_clock_190 : decode cL_clock 190 = .ok (.idiv, 1) := by decide +kernel
theorem dL_clock_191 : decode cL_clock 191 = .ok (.iload_n 2, 1) := by decide +kernel
theorem dL_clock_192 : decode cL_clock 192 = .ok (.iload 8, 2) := by decide +kernel
theorem dL_clock_194 : decode cL_clock 194 = .ok (.iconst 1, 1) := by decide +kernel
theorem dL_clock_195 : decode cL_clock 195 = .ok (.isub, 1) := by decide +kernel
theorem dL_clock_196 : decode cL_clock 196 = .ok (.ishl, 1) := by decide +kernel
theorem dL_clock_197 : decode cL_clock 197 = .ok (.iadd, 1) := by decide +kernel
theorem dL_clock_198 : decode cL_clock 198 = .ok (.if_icmp .ne 7, 3) := by decide +kernel
theorem dL_clock_201 : decode cL_clock 201 = .ok (.iconst 1, 1) := by decide +kernel
theorem dL_clock_202 : decode cL_clock 202 = .ok (.goto 4, 3) := by decide +kernel
theorem dL_clock_205 : decode cL_clock 205 = .ok (.iconst 0, 1) := by decide +kernel
theorem dL_clock_206 : decode cL_clock 206 = .ok (.istore 10, 2) := by decide +kernel
theorem dL_clock_208 : decode cL_clock 208 = .ok (.iload 10, 2) := by decide +kernel
theorem dL_clock_210 : decode cL_clock 210 = .ok (.ifCond .eq 8, 3) := by decide +kernel
theorem dL_clock_213 : decode cL_clock 213 = .ok (.iload 9, 2) := by decide +kernel
theorem dL_clock_215 : decode cL_clock 215 = .ok (.goto 5, 3) := by decide +kernel
theorem dL_clock_218 : decode cL_clock 218 = .ok (.bipush (-9), 2) := by decide +kernel
theorem dL_clock_220 : decode cL_clock 220 = .ok (.ireturn, 1) := by decide +kernel
theorem dL_change_0 : decode cL_change 0 = .ok (.aload_n 0, 1) := by decide +kernel
theorem dL_change_1 : decode cL_change 1 = .ok (.iconst 0, 1) := by decide +kernel
theorem dL_change_2 : decode cL_change 2 = .ok (.invokevirtual 14, 3) := by decide +kernel
theorem dL_change_5 : decode cL_change 5 = .ok (.istore_n 3, 1) := by decide +kernel
theorem dL_change_6 : decode cL_change 6 = .ok (.iload_n 3, 1) := by decide +kernel
theorem dL_change_7 : decode cL_change 7 = .ok (.ifCond .ne 7, 3) := by decide +kernel
theorem dL_change_10 : decode cL_change 10 = .ok (.iconst 0, 1) := by decide +kernel
theorem dL_change_11 : decode cL_change 11 = .ok (.goto 6, 3) := by decide +kernel
theorem dL_change_14 : decode cL_change 14 = .ok (.iload_n 2, 1) := by decide +kernel
theorem dL_change_15 : decode cL_change 15 = .ok (.iload_n 3, 1) := by decide +kernel
theorem dL_change_16 : decode cL_change 16 = .ok (.irem, 1) := by decide +kernel
theorem dL_change_17 : decode cL_change 17 = .ok (.istore 4, 2) := by decide +kernel
theorem dL_change_19 : decode cL_change 19 = .ok (.iload_n 1, 1) := by decide +kernel
theorem dL_change_20 : decode cL_change 20 = .ok (.ifCond .eq 7, 3) := by decide +kernel
theorem dL_change_23 : decode cL_change 23 = .ok (.iload_n 3, 1) := by decide +kernel
theorem dL_change_24 : decode cL_change 24 = .ok (.ifCond .ne 177, 3) := by decide +kernel
theorem dL_change_27 : decode cL_change 27 = .ok (.iconst 2, 1) := by decide +kernel
theorem dL_change_28 : decode cL_change 28 = .ok (.iload_n 2, 1) := by decide +kernel
theorem dL_change_29 : decode cL_change 29 = .ok (.iconst 5, 1) := by decide +kernel
theorem dL_change_30 : decode cL_change 30 = .ok (.irem, 1) := by decide +kernel
theorem dL_change_31 : decode cL_change 31 = .ok (.iadd, 1) := by decide +kernel
theorem dL_change_32 : decode cL_change 32 = .ok (.istore 5, 2) := by decide +kernel
theorem dL_change_34 : decode cL_change 34 = .ok (.iload_n 2, 1) := by decide +kernel
theorem dL_change_35 : decode cL_change 35 = .ok (.iconst 5, 1) := by decide +kernel
theorem dL_change_36 : decode cL_change 36 = .ok (.idiv, 1) := by decide +kernel
theorem dL_change_37 : decode cL_change 37 = .ok (.iconst 3, 1) := by decide +kernel
theorem dL_change_38 : decode cL_change 38 = .ok (.irem, 1) := by decide +kernel
theorem dL_change_39 : decode cL_change 39 = .ok (.ifCond .ne 7, 3) := by decide +kernel
theorem dL_change_42 : decode cL_change 42 = .ok (.iconst 0, 1) := by decide +kernel
theorem dL_change_43 : decode cL_change 43 = .ok (.goto 14, 3) := by decide +kernel
theorem dL_change_46 : decode cL_change 46 = .ok (.iconst 1, 1) := by decide +kernel
theorem dL_change_47 : decode cL_change 47 = .ok (.iload_n 2, 1) := by decide +kernel
theorem dL_change_48 : decode cL_change 48 = .ok (.bipush 15, 2) := by decide +kernel
theorem dL_change_50 : decode cL_change 50 = .ok (.idiv, 1) := by decide +kernel
theorem dL_change_51 : decode cL_change 51 = .ok (.bipush 127, 2) := by decide +kernel
theorem dL_change_53 : decode cL_change 53 = .ok (.irem, 1) := by decide +kernel
theorem dL_change_54 : decode cL_change 54 = .ok (.iconst 2, 1) := by decide +kernel
theorem dL_change_55 : decode cL_change 55 = .ok (.imul, 1) := by decide +kernel
theorem dL_change_56 : decode cL_change 56 = .ok (.iadd, 1) := by decide +kernel
theorem dL_change_57 : decode cL_change 57 = .ok (.istore 6, 2) := by decide +kernel
theorem dL_change_59 : decode cL_change 59 = .ok (.aload_n 0, 1) := by decide +kernel
theorem dL_change_60 : decode cL_change 60 = .ok (.iload 5, 2) := by decide +kernel
theorem dL_change_62 : decode cL_change 62 = .ok (.iload 6, 2) := by decide +kernel
theorem dL_change_64 : decode cL_change 64 = .ok (.iconst 1, 1) := by decide +kernel
theorem dL_change_65 : decode cL_change 65 = .ok (.iload_n 2, 1) := by decide +kernel
theorem dL_change_66 : decode cL_change 66 = .ok (.bipush 7, 2) := by decide +kernel
theorem dL_change_68 : decode cL_change 68 = .ok (.idiv, 1) := by decide +kernel
theorem dL_change_69 : decode cL_change 69 = .ok (.bipush 8, 2) := by decide +kernel
theorem dL_change_71 : decode cL_change 71 = .ok (.irem, 1) := by decide +kernel
theorem dL_change_72 : decode cL_change 72 = .ok (.iadd, 1) := by decide +kernel
theorem dL_change_73 : decode cL_change 73 = .ok (.invokevirtual 34, 3) := by decide +kernel
theorem dL_change_76 : decode cL_change 76 = .ok (.istore 7, 2) := by decide +kernel
theorem dL_change_78 : decode cL_change 78 = .ok (.iload 7, 2) := by decide +kernel
theorem dL_change_80 : decode cL_change 80 = .ok (.iload_n 3, 1) := by decide +kernel
theorem dL_change_81 : decode cL_change 81 = .ok (.bipush 6, 2) := by decide +kernel
theorem dL_change_83 : decode cL_change 83 = .ok (.if_icmp .ne 8, 3) := by decide +kernel
theorem dL_change_86 : decode cL_change 86 = .ok (.bipush (-3), 2) := by decide +kernel
theorem dL_change_88 : decode cL_change 88 = .ok (.goto 4, 3) := by decide +kernel
theorem dL_change_91 : decode cL_change 91 = .ok (.iload_n 3, 1) := by decide +kernel
theorem dL_change_92 : decode cL_change 92 = .ok (.if_icmp .ne 106, 3) := by decide +kernel
theorem dL_change_95 : decode cL_change 95 = .ok (.iload 7, 2) := by decide +kernel
theorem dL_change_97 : decode cL_change 97 = .ok (.ifCond .lt 96, 3) := by decide +kernel
theorem dL_change_100 : decode cL_change 100 = .ok (.aload_n 0, 1) := by decide +kernel
theorem dL_change_101 : decode cL_change 101 = .ok (.iconst 0, 1) := by decide +kernel
theorem dL_change_102 : decode cL_change 102 = .ok (.invokevirtual 14, 3) := by decide +kernel
theorem dL_change_105 : decode cL_change 105 = .ok (.iload_n 3, 1) := by decide +kernel
theorem dL_change_106 : decode cL_change 106 = .ok (.iconst 1, 1) := by decide +kernel
theorem dL_change_107 : decode cL_change 107 = .ok (.iadd, 1) := by decide +kernel
theorem dL_change_108 : decode cL_change 108 = .ok (.if_icmp .ne 90, 3) := by decide +kernel
theorem dL_change_111 : decode cL_change 111 = .ok (.aload_n 0, 1) := by decide +kernel
theorem dL_change_112 : decode cL_change 112 = .ok (.iload 7, 2) := by decide +kernel
theorem dL_change_114 : decode cL_change 114 = .ok (.iconst 0, 1) := by decide +kernel
theorem dL_change_115 : decode cL_change 115 = .ok (.invokevirtual 20, 3) := by decide +kernel
theorem dL_change_118 : decode cL_change 118 = .ok (.iload 5, 2) := by decide +kernel
theorem dL_change_120 : decode cL_change 120 = .ok (.if_icmp .ne 78, 3) := by decide +kernel
theorem dL_change_123 : decode cL_change 123 = .ok (.aload_n 0, 1) := by decide +kernel
theorem dL_change_124 : decode cL_change 124 = .ok (.iload 7, 2) := by decide +kernel
theorem dL_change_126 : decode cL_change 126 = .ok (.iconst 1, 1) := by decide +kernel
theorem dL_change_127 : decode cL_change 127 = .ok (.invokevirtual 20, 3) := by decide +kernel
theorem dL_change_130 : decode cL_change 130 = .ok (.iload 6, 2) := by decide +kernel
theorem dL_change_132 : decode cL_change 132 = .ok (.if_icmp .ne 66, 3) := by decide +kernel
theorem dL_change_135 : decode cL_change 135 = .ok (.aload_n 0, 1) := by decide +kernel
theorem dL_change_136 : decode cL_change 136 = .ok (.iload 7, 2) := by decide +kernel
theorem dL_change_138 : decode cL_change 138 = .ok (.bipush 6, 2) := by decide +kernel
theorem dL_change_140 : decode cL_change 140 = .ok (.invokevirtual 20, 3) := by decide +kernel
theorem dL_change_143 : decode cL_change 143 = .ok (.iload 6, 2) := by decide +kernel
theorem dL_change_145 : decode cL_change 145 = .ok (.ifCond .le 7, 3) := by decide +kernel
theorem dL_change_148 : decode cL_change 148 = .ok (.iconst 1, 1) := by decide +kernel
theorem dL_change_149 : decode cL_change 149 = .ok (.goto 9, 3) := by decide +kernel
theorem dL_change_152 : decode cL_change 152 = .ok (.iconst 1, 1) := by decide +kernel
theorem dL_change_153 : decode cL_change 153 = .ok (.iload 5, 2) := by decide +kernel
theorem dL_change_155 : decode cL_change 155 = .ok (.ishl, 1) := by decide +kernel
theorem dL_change_156 : decode cL_change 156 = .ok (.iconst 1, 1) := by decide +kernel
theorem dL_change_157 : decode cL_change 157 = .ok (.isub, 1) := by decide +kernel
theorem dL_change_158 : decode cL_change 158 = .ok (.if_icmp .ne 40, 3) := by decide +kernel
theorem dL_change_161 : decode cL_change 161 = .ok (.aload_n 0, 1) := by decide +kernel
theorem dL_change_162 : decode cL_change 162 = .ok (.iload 7, 2) := by decide +kernel
theorem dL_change_164 : decode cL_change 164 = .ok (.bipush 7, 2) := by decide +kernel
theorem dL_change_166 : decode cL_change 166 = .ok (.invokevirtual 20, 3) := by decide +kernel
theorem dL_change_169 : decode cL_change 169 = .ok (.ifCond .ne 29, 3) := by decide +kernel
theorem dL_change_172 : decode cL_change 172 = .ok (.aload_n 0, 1) := by decide +kernel
theorem dL_change_173 : decode cL_change 173 = .ok (.iload 7, 2) := by decide +kernel
theorem dL_change_175 : decode cL_change 175 = .ok (.bipush 8, 2) := by decide +kernel
theorem dL_change_177 : decode cL_change 177 = .ok (.invokevirtual 20, 3) := by decide +kernel
theorem dL_change_180 : decode cL_change 180 = .ok (.ifCond .ne 18, 3) := by decide +kernel
theorem dL_change_183 : decode cL_change 183 = .ok (.aload_n 0, 1) := by decide +kernel
theorem dL_change_184 : decode cL_change 184 = .ok (.iload 7, 2) := by decide +kernel
theorem dL_change_186 : decode cL_change 186 = .ok (.iconst 3, 1) := by decide +kernel
theorem dL_change_187 : decode cL_change 187 = .ok (.invokevirtual 20, 3) := by decide +kernel
theorem dL_change_190 : decode cL_change 190 = .ok (.ifCond .ne 8, 3) := by decide +kernel
theorem dL_change_193 : decode cL_change 193 = .ok (.iload 7, 2) := by decide +kernel
theorem dL_change_195 : decode cL_change 195 = .ok (.goto 5, 3) := by decide +kernel
theorem dL_change_198 : decode cL_change 198 = .ok (.bipush (-9), 2) := by decide +kernel
theorem dL_change_200 : decode cL_change 200 = .ok (.ireturn, 1) := by decide +kernel
theorem dL_change_201 : decode cL_change 201 = .ok (.iload_n 1, 1) := by decide +kernel
theorem dL_change_202 : decode cL_change 202 = .ok (.iconst 1, 1) := by decide +kernel
theorem dL_change_203 : decode cL_change 203 = .ok (.if_icmp .ne 69, 3) := by decide +kernel
theorem dL_change_206 : decode cL_change 206 = .ok (.aload_n 0, 1) := by decide +kernel
theorem dL_change_207 : decode cL_change 207 = .ok (.iload 4, 2) := by decide +kernel
theorem dL_change_209 : decode cL_change 209 = .ok (.iconst 1, 1) := by decide +kernel
theorem dL_change_210 : decode cL_change 210 = .ok (.invokevirtual 20, 3) := by decide +kernel
theorem dL_change_213 : decode cL_change 213 = .ok (.istore 5, 2) := by decide +kernel
theorem dL_change_215 : decode cL_change 215 = .ok (.aload_n 0, 1) := by decide +kernel
theorem dL_change_216 : decode cL_change 216 = .ok (.iload 4, 2) := by decide +kernel
theorem dL_change_218 : decode cL_change 218 = .ok (.iconst 1, 1) := by decide +kernel
theorem dL_change_219 : decode cL_change 219 = .ok (.iadd, 1) := by decide +kernel
theorem dL_change_220 : decode cL_change 220 = .ok (.iconst 0, 1) := by decide +kernel
theorem dL_change_221 : decode cL_change 221 = .ok (.invokevirtual 20, 3) := by decide +kernel
theorem dL_change_224 : decode cL_change 224 = .ok (.istore 6, 2) := by decide +kernel
theorem dL_change_226 : decode cL_change 226 = .ok (.aload_n 0, 1) := by decide +kernel
theorem dL_change_227 : decode cL_change 227 = .ok (.iload 4, 2) := by decide +kernel
theorem dL_change_229 : decode cL_change 229 = .ok (.invokevirtual 40, 3) := by decide +kernel
theorem dL_change_232 : decode cL_change 232 = .ok (.istore 7, 2) := by decide +kernel
theorem dL_change_234 : decode cL_change 234 = .ok (.iload 7, 2) := by decide +kernel
theorem dL_change_236 : decode cL_change 236 = .ok (.iload 5, 2) := by decide +kernel
theorem dL_change_238 : decode cL_change 238 = .ok (.if_icmp .ne 31, 3) := by decide +kernel
theorem dL_change_241 : decode cL_change 241 = .ok (.aload_n 0, 1) := by decide +kernel
theorem dL_change_242 : decode cL_change 242 = .ok (.iconst 0, 1) := by decide +kernel
theorem dL_change_243 : decode cL_change 243 = .ok (.invokevirtual 14, 3) := by decide +kernel
theorem dL_change_246 : decode cL_change 246 = .ok (.iload_n 3, 1) := by decide +kernel
theorem dL_change_247 : decode cL_change 247 = .ok (.iconst 1, 1) := by decide +kernel
theorem dL_change_248 : decode cL_change 248 = .ok (.isub, 1) := by decide +kernel
theorem dL_change_249 : decode cL_change 249 = .ok (.if_icmp .ne 20, 3) := by decide +kernel
theorem dL_change_252 : decode cL_change 252 = .ok (.aload_n 0, 1) := by decide +kernel
theorem dL_change_253 : decode cL_change 253 = .ok (.iload 4, 2) := by decide +kernel
theorem dL_change_255 : decode cL_change 255 = .ok (.iconst 0, 1) := by decide +kernel
theorem dL_change_256 : decode cL_change 256 = .ok (.invokevirtual 20, 3) := by decide +kernel
theorem dL_change_259 : decode cL_change 259 = .ok (.iload 6, 2) := by decide +kernel
theorem dL_change_261 : decode cL_change 261 = .ok (.if_icmp .ne 8, 3) := by decide +kernel
theorem dL_change_264 : decode cL_change 264 = .ok (.iload 7, 2) := by decide +kernel
theorem dL_change_266 : decode cL_change 266 = .ok (.goto 5, 3) := by decide +kernel
theorem dL_change_269 : decode cL_change 269 = .ok (.bipush (-9), 2) := by decide +kernel
theorem dL_change_271 : decode cL_change 271 = .ok (.ireturn, 1) := by decide +kernel
theorem dL_change_272 : decode cL_change 272 = .ok (.iload_n 1, 1) := by decide +kernel
theorem dL_change_273 : decode cL_change 273 = .ok (.iconst 2, 1) := by decide +kernel
theorem dL_change_274 : decode cL_change 274 = .ok (.if_icmp .ne 71, 3) := by decide +kernel
theorem dL_change_277 : decode cL_change 277 = .ok (.aload_n 0, 1) := by decide +kernel
theorem dL_change_278 : decode cL_change 278 = .ok (.iload 4, 2) := by decide +kernel
theorem dL_change_280 : decode cL_change 280 = .ok (.iconst 3, 1) := by decide +kernel
theorem dL_change_281 : decode cL_change 281 = .ok (.invokevirtual 20, 3) := by decide +kernel
theorem dL_change_284 : decode cL_change 284 = .ok (.istore 5, 2) := by decide +kernel
theorem dL_change_286 : decode cL_change 286 = .ok (.aload_n 0, 1) := by decide +kernel
theorem dL_change_287 : decode cL_change 287 = .ok (.iload 4, 2) := by decide +kernel
theorem dL_change_289 : decode cL_change 289 = .ok (.iload_n 2, 1) := by decide +kernel
theorem dL_change_290 : decode cL_change 290 = .ok (.bipush 6, 2) := by decide +kernel
theorem dL_change_292 : decode cL_change 292 = .ok (.idiv, 1) := by decide +kernel
theorem dL_change_293 : decode cL_change 293 = .ok (.sipush 256, 3) := by decide +kernel
theorem dL_change_296 : decode cL_change 296 = .ok (.irem, 1) := by decide +kernel
theorem dL_change_297 : decode cL_change 297 = .ok (.invokevirtual 43, 3) := by decide +kernel
theorem dL_change_300 : decode cL_change 300 = .ok (.istore 6, 2) := by decide +kernel
theorem dL_change_302 : decode cL_change 302 = .ok (.iload 6, 2) := by decide +kernel
theorem dL_change_304 : decode cL_change 304 = .ok (.iload 5, 2) := by decide +kernel
theorem dL_change_306 : decode cL_change 306 = .ok (.if_icmp .ne 36, 3) := by decide +kernel
theorem dL_change_309 : decode cL_change 309 = .ok (.aload_n 0, 1) := by decide +kernel
theorem dL_change_310 : decode cL_change 310 = .ok (.iload 4, 2) := by decide +kernel
theorem dL_change_312 : decode cL_change 312 = .ok (.iconst 3, 1) := by decide +kernel
theorem dL_change_313 : decode cL_change 313 = .ok (.invokevirtual 20, 3) := by decide +kernel
theorem dL_change_316 : decode cL_change 316 = .ok (.iload_n 2, 1) := by decide +kernel
theorem dL_change_317 : decode cL_change 317 = .ok (.bipush 6, 2) := by decide +kernel
theorem dL_change_319 : decode cL_change 319 = .ok (.idiv, 1) := by decide +kernel
theorem dL_change_320 : decode cL_change 320 = .ok (.sipush 256, 3) := by decide +kernel
theorem dL_change_323 : decode cL_change 323 = .ok (.irem, 1) := by decide +kernel
theorem dL_change_324 : decode cL_change 324 = .ok (.iconst 1, 1) := by decide +kernel
theorem dL_change_325 : decode cL_change 325 = .ok (.aload_n 0, 1) := by decide +kernel
theorem dL_change_326 : decode cL_change 326 = .ok (.iload 4, 2) := by decide +kernel
theorem dL_change_328 : decode cL_change 328 = .ok (.iconst 2, 1) := by decide +kernel
theorem dL_change_329 : decode cL_change 329 = .ok (.invokevirtual 20, 3) := by decide +kernel
theorem dL_change_332 : decode cL_change 332 = .ok (.ishl, 1) := by decide +kernel
theorem dL_change_333 : decode cL_change 333 = .ok (.irem, 1) := by decide +kernel
theorem dL_change_334 : decode cL_change 334 = .ok (.if_icmp .ne 8, 3) := by decide +kernel
theorem dL_change_337 : decode cL_change 337 = .ok (.iload 6, 2) := by decide +kernel
theorem dL_change_339 : decode cL_change 339 = .ok (.goto 5, 3) := by decide +kernel
theorem dL_change_342 : decode cL_change 342 = .ok (.bipush (-9), 2) := by decide +kernel
theorem dL_change_344 : decode cL_change 344 = .ok (.ireturn, 1) := by decide +kernel
theorem dL_change_345 : decode cL_change 345 = .ok (.aload_n 0, 1) := by decide +kernel
theorem dL_change_346 : decode cL_change 346 = .ok (.iconst 1, 1) := by decide +kernel
theorem dL_change_347 : decode cL_change 347 = .ok (.invokevirtual 14, 3) := by decide +kernel
theorem dL_change_350 : decode cL_change 350 = .ok (.aload_n 0, 1) := by decide +kernel
theorem dL_change_351 : decode cL_change 351 = .ok (.iload 4, 2) := by decide +kernel
theorem dL_change_353 : decode cL_change 353 = .ok (.iconst 5, 1) := by decide +kernel
theorem dL_change_354 : decode cL_change 354 = .ok (.invokevirtual 20, 3) := by decide +kernel
theorem dL_change_357 : decode cL_change 357 = .ok (.isub, 1) := by decide +kernel
theorem dL_change_358 : decode cL_change 358 = .ok (.istore 5, 2) := by decide +kernel
theorem dL_change_360 : decode cL_change 360 = .ok (.iload_n 2, 1) := by decide +kernel
theorem dL_change_361 : decode cL_change 361 = .ok (.bipush 6, 2) := by decide +kernel
theorem dL_change_363 : decode cL_change 363 = .ok (.idiv, 1) := by decide +kernel
theorem dL_change_364 : decode cL_change 364 = .ok (.iconst 3, 1) := by decide +kernel
theorem dL_change_365 : decode cL_change 365 = .ok (.irem, 1) := by decide +kernel
theorem dL_change_366 : decode cL_change 366 = .ok (.ifCond .ne 7, 3) := by decide +kernel
theorem dL_change_369 : decode cL_change 369 = .ok (.iconst 1, 1) := by decide +kernel
theorem dL_change_370 : decode cL_change 370 = .ok (.goto 4, 3) := by decide +kernel
theorem dL_change_373 : decode cL_change 373 = .ok (.iconst 0, 1) := by decide +kernel
theorem dL_change_374 : decode cL_change 374 = .ok (.istore 6, 2) := by decide +kernel
theorem dL_change_376 : decode cL_change 376 = .ok (.aload_n 0, 1) := by decide +kernel
theorem dL_change_377 : decode cL_change 377 = .ok (.iload 4, 2) := by decide +kernel
theorem dL_change_379 : decode cL_change 379 = .ok (.iload 6, 2) := by decide +kernel
theorem dL_change_381 : decode cL_change 381 = .ok (.invokevirtual 46, 3) := by decide +kernel
theorem dL_change_384 : decode cL_change 384 = .ok (.istore 7, 2) := by decide +kernel
theorem dL_change_386 : decode cL_change 386 = .ok (.iload 7, 2) := by decide +kernel
theorem dL_change_388 : decode cL_change 388 = .ok (.iload 5, 2) := by decide +kernel
theorem dL_change_390 : decode cL_change 390 = .ok (.iload 6, 2) := by decide +kernel
theorem dL_change_392 : decode cL_change 392 = .ok (.ifCond .eq 7, 3) := by decide +kernel
theorem dL_change_395 : decode cL_change 395 = .ok (.iconst 1, 1) := by decide +kernel
theorem dL_change_396 : decode cL_change 396 = .ok (.goto 4, 3) := by decide +kernel
theorem dL_change_399 : decode cL_change 399 = .ok (.iconst 0, 1) := by decide +kernel
theorem dL_change_400 : decode cL_change 400 = .ok (.iadd, 1) := by decide +kernel
theorem dL_change_401 : decode cL_change 401 = .ok (.if_icmp .ne 28, 3) := by decide +kernel
theorem dL_change_404 : decode cL_change 404 = .ok (.aload_n 0, 1) := by decide +kernel
theorem dL_change_405 : decode cL_change 405 = .ok (.iload 4, 2) := by decide +kernel
theorem dL_change_407 : decode cL_change 407 = .ok (.iconst 5, 1) := by decide +kernel
theorem dL_change_408 : decode cL_change 408 = .ok (.invokevirtual 20, 3) := by decide +kernel
theorem dL_change_411 : decode cL_change 411 = .ok (.iload 6, 2) := by decide +kernel
theorem dL_change_413 : decode cL_change 413 = .ok (.ifCond .eq 7, 3) := by decide +kernel
theorem dL_change_416 : decode cL_change 416 = .ok (.iconst 1, 1) := by decide +kernel
theorem dL_change_417 : decode cL_change 417 = .ok (.goto 4, 3) := by decide +kernel
theorem dL_change_420 : decode cL_change 420 = .ok (.iconst 0, 1) := by decide +kernel
theorem dL_change_421 : decode cL_change 421 = .ok (.if_icmp .ne 8, 3) := by decide +kernel
theorem dL_change_424 : decode cL_change 424 = .ok (.iload 7, 2) := by decide +kernel
theorem dL_change_426 : decode cL_change 426 = .ok (.goto 5, 3) := by decide +kernel
theorem dL_change_429 : decode cL_change 429 = .ok (.bipush (-9), 2) := by decide +kernel
theorem dL_change_431 : decode cL_change 431 = .ok (.ireturn, 1) := by decide +kernel
theorem dL_act_0 : decode cL_act 0 = .ok (.iload_n 1, 1) := by decide +kernel
theorem dL_act_1 : decode cL_act 1 = .ok (.bipush 16, 2) := by decide +kernel
theorem dL_act_3 : decode cL_act 3 = .ok (.irem, 1) := by decide +kernel
theorem dL_act_4 : decode cL_act 4 = .ok (.istore_n 2, 1) := by decide +kernel
theorem dL_act_5 : decode cL_act 5 = .ok (.iload_n 1, 1) := by decide +kernel
theorem dL_act_6 : decode cL_act 6 = .ok (.bipush 16, 2) := by decide +kernel
theorem dL_act_8 : decode cL_act 8 = .ok (.idiv, 1) := by decide +kernel
theorem dL_act_9 : decode cL_act 9 = .ok (.istore_n 3, 1) := by decide +kernel
theorem dL_act_10 : decode cL_act 10 = .ok (.aload_n 0, 1) := by decide +kernel
theorem dL_act_11 : decode cL_act 11 = .ok (.iconst 0, 1) := by decide +kernel
theorem dL_act_12 : decode cL_act 12 = .ok (.invokevirtual 14, 3) := by decide +kernel
theorem dL_act_15 : decode cL_act 15 = .ok (.istore 4, 2) := by decide +kernel
theorem dL_act_17 : decode cL_act 17 = .ok (.iload_n 2, 1) := by decide +kernel
theorem dL_act_18 : decode cL_act 18 = .ok (.iconst 4, 1) := by decide +kernel
theorem dL_act_19 : decode cL_act 19 = .ok (.if_icmp .lt 14, 3) := by decide +kernel
theorem dL_act_22 : decode cL_act 22 = .ok (.iload_n 2, 1) := by decide +kernel
theorem dL_act_23 : decode cL_act 23 = .ok (.iconst 4, 1) := by decide +kernel
theorem dL_act_24 : decode cL_act 24 = .ok (.if_icmp .ne 18, 3) := by decide +kernel
theorem dL_act_27 : decode cL_act 27 = .ok (.iload 4, 2) := by decide +kernel
theorem dL_act_29 : decode cL_act 29 = .ok (.iconst 2, 1) := by decide +kernel
theorem dL_act_30 : decode cL_act 30 = .ok (.if_icmp .ge 12, 3) := by decide +kernel
theorem dL_act_33 : decode cL_act 33 = .ok (.aload_n 0, 1) := by decide +kernel
theorem dL_act_34 : decode cL_act 34 = .ok (.iload_n 2, 1) := by decide +kernel
theorem dL_act_35 : decode cL_act 35 = .ok (.iconst 4, 1) := by decide +kernel
theorem dL_act_36 : decode cL_act 36 = .ok (.irem, 1) := by decide +kernel
theorem dL_act_37 : decode cL_act 37 = .ok (.iload_n 3, 1) := by decide +kernel
theorem dL_act_38 : decode cL_act 38 = .ok (.invokestatic 89, 3) := by decide +kernel
theorem dL_act_41 : decode cL_act 41 = .ok (.ireturn, 1) := by decide +kernel
theorem dL_act_42 : decode cL_act 42 = .ok (.iload_n 2, 1) := by decide +kernel
theorem dL_act_43 : decode cL_act 43 = .ok (.bipush 9, 2) := by decide +kernel
theorem dL_act_45 : decode cL_act 45 = .ok (.if_icmp .ge 16, 3) := by decide +kernel
theorem dL_act_48 : decode cL_act 48 = .ok (.aload_n 0, 1) := by decide +kernel
theorem dL_act_49 : decode cL_act 49 = .ok (.iload_n 3, 1) := by decide +kernel
theorem dL_act_50 : decode cL_act 50 = .ok (.iconst 2, 1) := by decide +kernel
theorem dL_act_51 : decode cL_act 51 = .ok (.irem, 1) := by decide +kernel
theorem dL_act_52 : decode cL_act 52 = .ok (.iload_n 3, 1) := by decide +kernel
theorem dL_act_53 : decode cL_act 53 = .ok (.iconst 2, 1) := by decide +kernel
theorem dL_act_54 : decode cL_act 54 = .ok (.idiv, 1) := by decide +kernel
theorem dL_act_55 : decode cL_act 55 = .ok (.iconst 2, 1) := by decide +kernel
theorem dL_act_56 : decode cL_act 56 = .ok (.irem, 1) := by decide +kernel
theorem dL_act_57 : decode cL_act 57 = .ok (.invokestatic 93, 3) := by decide +kernel
theorem dL_act_60 : decode cL_act 60 = .ok (.ireturn, 1) := by decide +kernel
theorem dL_act_61 : decode cL_act 61 = .ok (.iload_n 2, 1) := by decide +kernel
theorem dL_act_62 : decode cL_act 62 = .ok (.bipush 12, 2) := by decide +kernel
theorem dL_act_64 : decode cL_act 64 = .ok (.if_icmp .ge 71, 3) := by decide +kernel
theorem dL_act_67 : decode cL_act 67 = .ok (.iload_n 3, 1) := by decide +kernel
theorem dL_act_68 : decode cL_act 68 = .ok (.bipush 16, 2) := by decide +kernel
theorem dL_act_70 : decode cL_act 70 = .ok (.irem, 1) := by decide +kernel
theorem dL_act_71 : decode cL_act 71 = .ok (.istore 5, 2) := by decide +kernel
theorem dL_act_73 : decode cL_act 73 = .ok (.aload_n 0, 1) := by decide +kernel
theorem dL_act_74 : decode cL_act 74 = .ok (.aload_n 0, 1) := by decide +kernel
theorem dL_act_75 : decode cL_act 75 = .ok (.iconst 2, 1) := by decide +kernel
theorem dL_act_76 : decode cL_act 76 = .ok (.invokevirtual 14, 3) := by decide +kernel
theorem dL_act_79 : decode cL_act 79 = .ok (.iload 5, 2) := by decide +kernel
theorem dL_act_81 : decode cL_act 81 = .ok (.invokevirtual 62, 3) := by decide +kernel
theorem dL_act_84 : decode cL_act 84 = .ok (.istore 6, 2) := by decide +kernel
theorem dL_act_86 : decode cL_act 86 = .ok (.aload_n 0, 1) := by decide +kernel
theorem dL_act_87 : decode cL_act 87 = .ok (.iconst 3, 1) := by decide +kernel
theorem dL_act_88 : decode cL_act 88 = .ok (.invokevirtual 14, 3) := by decide +kernel
theorem dL_act_91 : decode cL_act 91 = .ok (.istore 7, 2) := by decide +kernel
theorem dL_act_93 : decode cL_act 93 = .ok (.aload_n 0, 1) := by decide +kernel
theorem dL_act_94 : decode cL_act 94 = .ok (.iload 5, 2) := by decide +kernel
theorem dL_act_96 : decode cL_act 96 = .ok (.invokevirtual 53, 3) := by decide +kernel
theorem dL_act_99 : decode cL_act 99 = .ok (.iload 6, 2) := by decide +kernel
theorem dL_act_101 : decode cL_act 101 = .ok (.if_icmp .ne 31, 3) := by decide +kernel
theorem dL_act_104 : decode cL_act 104 = .ok (.aload_n 0, 1) := by decide +kernel
theorem dL_act_105 : decode cL_act 105 = .ok (.iconst 2, 1) := by decide +kernel
theorem dL_act_106 : decode cL_act 106 = .ok (.invokevirtual 14, 3) := by decide +kernel
theorem dL_act_109 : decode cL_act 109 = .ok (.iload 5, 2) := by decide +kernel
theorem dL_act_111 : decode cL_act 111 = .ok (.if_icmp .ne 21, 3) := by decide +kernel
theorem dL_act_114 : decode cL_act 114 = .ok (.aload_n 0, 1) := by decide +kernel
theorem dL_act_115 : decode cL_act 115 = .ok (.iconst 3, 1) := by decide +kernel
theorem dL_act_116 : decode cL_act 116 = .ok (.invokevirtual 14, 3) := by decide +kernel
theorem dL_act_119 : decode cL_act 119 = .ok (.iload 7, 2) := by decide +kernel
theorem dL_act_121 : decode cL_act 121 = .ok (.iload 6, 2) := by decide +kernel
theorem dL_act_123 : decode cL_act 123 = .ok (.iadd, 1) := by decide +kernel
theorem dL_act_124 : decode cL_act 124 = .ok (.if_icmp .ne 8, 3) := by decide +kernel
theorem dL_act_127 : decode cL_act 127 = .ok (.iload 6, 2) := by decide +kernel
theorem dL_act_129 : decode cL_act 129 = .ok (.goto 5, 3) := by decide +kernel
theorem dL_act_132 : decode cL_act 132 = .ok (.bipush (-9), 2) := by decide +kernel
theorem dL_act_134 : decode cL_act 134 = .ok (.ireturn, 1) := by decide +kernel
theorem dL_act_135 : decode cL_act 135 = .ok (.iload_n 2, 1) := by decide +kernel
theorem dL_act_136 : decode cL_act 136 = .ok (.bipush 12, 2) := by decide +kernel
theorem dL_act_138 : decode cL_act 138 = .ok (.if_icmp .ne 50, 3) := by decide +kernel
theorem dL_act_141 : decode cL_act 141 = .ok (.aload_n 0, 1) := by decide +kernel
theorem dL_act_142 : decode cL_act 142 = .ok (.invokevirtual 95, 3) := by decide +kernel
theorem dL_act_145 : decode cL_act 145 = .ok (.istore 5, 2) := by decide +kernel
theorem dL_act_147 : decode cL_act 147 = .ok (.aload_n 0, 1) := by decide +kernel
theorem dL_act_148 : decode cL_act 148 = .ok (.invokevirtual 98, 3) := by decide +kernel
theorem dL_act_151 : decode cL_act 151 = .ok (.istore 6, 2) := by decide +kernel
theorem dL_act_153 : decode cL_act 153 = .ok (.iload 6, 2) := by decide +kernel
theorem dL_act_155 : decode cL_act 155 = .ok (.iload 5, 2) := by decide +kernel
theorem dL_act_157 : decode cL_act 157 = .ok (.if_icmp .ne 28, 3) := by decide +kernel
theorem dL_act_160 : decode cL_act 160 = .ok (.aload_n 0, 1) := by decide +kernel
theorem dL_act_161 : decode cL_act 161 = .ok (.bipush 6, 2) := by decide +kernel
theorem dL_act_163 : decode cL_act 163 = .ok (.invokevirtual 14, 3) := by decide +kernel
theorem dL_act_166 : decode cL_act 166 = .ok (.iload 6, 2) := by decide +kernel
theorem dL_act_168 : decode cL_act 168 = .ok (.if_icmp .ne 17, 3) := by decide +kernel
theorem dL_act_171 : decode cL_act 171 = .ok (.aload_n 0, 1) := by decide +kernel
theorem dL_act_172 : decode cL_act 172 = .ok (.iconst 2, 1) := by decide +kernel
theorem dL_act_173 : decode cL_act 173 = .ok (.invokevirtual 14, 3) := by decide +kernel
theorem dL_act_176 : decode cL_act 176 = .ok (.iconst 1, 1) := by decide +kernel
theorem dL_act_177 : decode cL_act 177 = .ok (.if_icmp .ne 8, 3) := by decide +kernel
theorem dL_act_180 : decode cL_act 180 = .ok (.iload 6, 2) := by decide +kernel
theorem dL_act_182 : decode cL_act 182 = .ok (.goto 5, 3) := by decide +kernel
theorem dL_act_185 : decode cL_act 185 = .ok (.bipush (-9), 2) := by decide +kernel
theorem dL_act_187 : decode cL_act 187 = .ok (.ireturn, 1) := by decide +kernel
theorem dL_act_188 : decode cL_act 188 = .ok (.iload 4, 2) := by decide +kernel
theorem dL_act_190 : decode cL_act 190 = .ok (.ifCond .ne 7, 3) := by decide +kernel
theorem dL_act_193 : decode cL_act 193 = .ok (.iconst 0, 1) := by decide +kernel
theorem dL_act_194 : decode cL_act 194 = .ok (.goto 7, 3) := by decide +kernel
theorem dL_act_197 : decode cL_act 197 = .ok (.iload_n 3, 1) := by decide +kernel
theorem dL_act_198 : decode cL_act 198 = .ok (.iload 4, 2) := by decide +kernel
theorem dL_act_200 : decode cL_act 200 = .ok (.irem, 1) := by decide +kernel
theorem dL_act_201 : decode cL_act 201 = .ok (.istore 5, 2) := by decide +kernel
theorem dL_act_203 : decode cL_act 203 = .ok (.iload_n 2, 1) := by decide +kernel
theorem dL_act_204 : decode cL_act 204 = .ok (.bipush 13, 2) := by decide +kernel
theorem dL_act_206 : decode cL_act 206 = .ok (.if_icmp .ne 69, 3) := by decide +kernel
theorem dL_act_209 : decode cL_act 209 = .ok (.aload_n 0, 1) := by decide +kernel
theorem dL_act_210 : decode cL_act 210 = .ok (.iload 5, 2) := by decide +kernel
theorem dL_act_212 : decode cL_act 212 = .ok (.iload_n 3, 1) := by decide +kernel
theorem dL_act_213 : decode cL_act 213 = .ok (.bipush 6, 2) := by decide +kernel
theorem dL_act_215 : decode cL_act 215 = .ok (.idiv, 1) := by decide +kernel
theorem dL_act_216 : decode cL_act 216 = .ok (.bipush 64, 2) := by decide +kernel
theorem dL_act_218 : decode cL_act 218 = .ok (.irem, 1) := by decide +kernel
theorem dL_act_219 : decode cL_act 219 = .ok (.invokevirtual 56, 3) := by decide +kernel
theorem dL_act_222 : decode cL_act 222 = .ok (.istore 6, 2) := by decide +kernel
theorem dL_act_224 : decode cL_act 224 = .ok (.iload 4, 2) := by decide +kernel
theorem dL_act_226 : decode cL_act 226 = .ok (.ifCond .ne 19, 3) := by decide +kernel
theorem dL_act_229 : decode cL_act 229 = .ok (.iload 6, 2) := by decide +kernel
theorem dL_act_231 : decode cL_act 231 = .ok (.iconst (-1), 1) := by decide +kernel
theorem dL_act_232 : decode cL_act 232 = .ok (.if_icmp .ne 8, 3) := by decide +kernel
theorem dL_act_235 : decode cL_act 235 = .ok (.iload 6, 2) := by decide +kernel
theorem dL_act_237 : decode cL_act 237 = .ok (.goto 37, 3) := by decide +kernel
theorem dL_act_240 : decode cL_act 240 = .ok (.bipush (-9), 2) := by decide +kernel
theorem dL_act_242 : decode cL_act 242 = .ok (.goto 32, 3) := by decide +kernel
theorem dL_act_245 : decode cL_act 245 = .ok (.iload 6, 2) := by decide +kernel
theorem dL_act_247 : decode cL_act 247 = .ok (.aload_n 0, 1) := by decide +kernel
theorem dL_act_248 : decode cL_act 248 = .ok (.iload 5, 2) := by decide +kernel
theorem dL_act_250 : decode cL_act 250 = .ok (.bipush 9, 2) := by decide +kernel
theorem dL_act_252 : decode cL_act 252 = .ok (.invokevirtual 20, 3) := by decide +kernel
theorem dL_act_255 : decode cL_act 255 = .ok (.if_icmp .ne 17, 3) := by decide +kernel
theorem dL_act_258 : decode cL_act 258 = .ok (.aload_n 0, 1) := by decide +kernel
theorem dL_act_259 : decode cL_act 259 = .ok (.iconst 2, 1) := by decide +kernel
theorem dL_act_260 : decode cL_act 260 = .ok (.invokevirtual 14, 3) := by decide +kernel
theorem dL_act_263 : decode cL_act 263 = .ok (.iconst 1, 1) := by decide +kernel
theorem dL_act_264 : decode cL_act 264 = .ok (.if_icmp .ne 8, 3) := by decide +kernel
theorem dL_act_267 : decode cL_act 267 = .ok (.iload 6, 2) := by decide +kernel
theorem dL_act_269 : decode cL_act 269 = .ok (.goto 5, 3) := by decide +kernel
theorem dL_act_272 : decode cL_act 272 = .ok (.bipush (-9), 2) := by decide +kernel
theorem dL_act_274 : decode cL_act 274 = .ok (.ireturn, 1) := by decide +kernel
theorem dL_act_275 : decode cL_act 275 = .ok (.aload_n 0, 1) := by decide +kernel
theorem dL_act_276 : decode cL_act 276 = .ok (.iload 5, 2) := by decide +kernel
theorem dL_act_278 : decode cL_act 278 = .ok (.iload_n 3, 1) := by decide +kernel
theorem dL_act_279 : decode cL_act 279 = .ok (.bipush 6, 2) := by decide +kernel
theorem dL_act_281 : decode cL_act 281 = .ok (.idiv, 1) := by decide +kernel
theorem dL_act_282 : decode cL_act 282 = .ok (.sipush 256, 3) := by decide +kernel
theorem dL_act_285 : decode cL_act 285 = .ok (.irem, 1) := by decide +kernel
theorem dL_act_286 : decode cL_act 286 = .ok (.invokevirtual 65, 3) := by decide +kernel
theorem dL_act_289 : decode cL_act 289 = .ok (.istore 6, 2) := by decide +kernel
theorem dL_act_291 : decode cL_act 291 = .ok (.aload_n 0, 1) := by decide +kernel
theorem dL_act_292 : decode cL_act 292 = .ok (.iload 5, 2) := by decide +kernel
theorem dL_act_294 : decode cL_act 294 = .ok (.iload_n 3, 1) := by decide +kernel
theorem dL_act_295 : decode cL_act 295 = .ok (.bipush 6, 2) := by decide +kernel
theorem dL_act_297 : decode cL_act 297 = .ok (.idiv, 1) := by decide +kernel
theorem dL_act_298 : decode cL_act 298 = .ok (.sipush 256, 3) := by decide +kernel
theorem dL_act_301 : decode cL_act 301 = .ok (.irem, 1) := by decide +kernel
theorem dL_act_302 : decode cL_act 302 = .ok (.invokevirtual 59, 3) := by decide +kernel
theorem dL_act_305 : decode cL_act 305 = .ok (.istore 7, 2) := by decide +kernel
theorem dL_act_307 : decode cL_act 307 = .ok (.iload 7, 2) := by decide +kernel
theorem dL_act_309 : decode cL_act 309 = .ok (.iload 6, 2) := by decide +kernel
theorem dL_act_311 : decode cL_act 311 = .ok (.if_icmp .ne 36, 3) := by decide +kernel
theorem dL_act_314 : decode cL_act 314 = .ok (.iload 4, 2) := by decide +kernel
theorem dL_act_316 : decode cL_act 316 = .ok (.ifCond .ne 12, 3) := by decide +kernel
theorem dL_act_319 : decode cL_act 319 = .ok (.iload 7, 2) := by decide +kernel
theorem dL_act_321 : decode cL_act 321 = .ok (.iconst (-1), 1) := by decide +kernel
theorem dL_act_322 : decode cL_act 322 = .ok (.if_icmp .ne 25, 3) := by decide +kernel
theorem dL_act_325 : decode cL_act 325 = .ok (.goto 17, 3) := by decide +kernel
theorem dL_act_328 : decode cL_act 328 = .ok (.iload 7, 2) := by decide +kernel
theorem dL_act_330 : decode cL_act 330 = .ok (.ifCond .lt 17, 3) := by decide +kernel
theorem dL_act_333 : decode cL_act 333 = .ok (.aload_n 0, 1) := by decide +kernel
theorem dL_act_334 : decode cL_act 334 = .ok (.iconst 2, 1) := by decide +kernel
theorem dL_act_335 : decode cL_act 335 = .ok (.invokevirtual 14, 3) := by decide +kernel
theorem dL_act_338 : decode cL_act 338 = .ok (.iconst 1, 1) := by decide +kernel
theorem dL_act_339 : decode cL_act 339 = .ok (.if_icmp .ne 8, 3) := by decide +kernel
theorem dL_act_342 : decode cL_act 342 = .ok (.iload 7, 2) := by decide +kernel
theorem dL_act_344 : decode cL_act 344 = .ok (.goto 5, 3) := by decide +kernel
theorem dL_act_347 : decode cL_act 347 = .ok (.bipush (-9), 2) := by decide +kernel
theorem dL_act_349 : decode cL_act 349 = .ok (.ireturn, 1) := by decide +kernel
theorem dL_law_0 : decode cL_law 0 = .ok (.new 15, 3) := by decide +kernel
theorem dL_law_3 : decode cL_law 3 = .ok (.dup, 1) := by decide +kernel
theorem dL_law_4 : decode cL_law 4 = .ok (.invokespecial 101, 3) := by decide +kernel
theorem dL_law_7 : decode cL_law 7 = .ok (.astore_n 1, 1) := by decide +kernel
theorem dL_law_8 : decode cL_law 8 = .ok (.aload_n 1, 1) := by decide +kernel
theorem dL_law_9 : decode cL_law 9 = .ok (.invokevirtual 102, 3) := by decide +kernel
theorem dL_law_12 : decode cL_law 12 = .ok (.bipush (-4), 2) := by decide +kernel
theorem dL_law_14 : decode cL_law 14 = .ok (.if_icmp .ne 62, 3) := by decide +kernel
theorem dL_law_17 : decode cL_law 17 = .ok (.aload_n 1, 1) := by decide +kernel
theorem dL_law_18 : decode cL_law 18 = .ok (.invokevirtual 105, 3) := by decide +kernel
theorem dL_law_21 : decode cL_law 21 = .ok (.iconst (-1), 1) := by decide +kernel
theorem dL_law_22 : decode cL_law 22 = .ok (.if_icmp .ne 54, 3) := by decide +kernel
theorem dL_law_25 : decode cL_law 25 = .ok (.aload_n 1, 1) := by decide +kernel
theorem dL_law_26 : decode cL_law 26 = .ok (.iconst 2, 1) := by decide +kernel
theorem dL_law_27 : decode cL_law 27 = .ok (.invokevirtual 14, 3) := by decide +kernel
theorem dL_law_30 : decode cL_law 30 = .ok (.ifCond .ne 46, 3) := by decide +kernel
theorem dL_law_33 : decode cL_law 33 = .ok (.aload_n 1, 1) := by decide +kernel
theorem dL_law_34 : decode cL_law 34 = .ok (.iconst 3, 1) := by decide +kernel
theorem dL_law_35 : decode cL_law 35 = .ok (.invokevirtual 14, 3) := by decide +kernel
theorem dL_law_38 : decode cL_law 38 = .ok (.ifCond .ne 38, 3) := by decide +kernel
theorem dL_law_41 : decode cL_law 41 = .ok (.aload_n 1, 1) := by decide +kernel
theorem dL_law_42 : decode cL_law 42 = .ok (.iconst 0, 1) := by decide +kernel
theorem dL_law_43 : decode cL_law 43 = .ok (.invokestatic 108, 3) := by decide +kernel
theorem dL_law_46 : decode cL_law 46 = .ok (.ifCond .eq 30, 3) := by decide +kernel
theorem dL_law_49 : decode cL_law 49 = .ok (.aload_n 1, 1) := by decide +kernel
theorem dL_law_50 : decode cL_law 50 = .ok (.iconst 1, 1) := by decide +kernel
theorem dL_law_51 : decode cL_law 51 = .ok (.invokestatic 108, 3) := by decide +kernel
theorem dL_law_54 : decode cL_law 54 = .ok (.ifCond .eq 22, 3) := by decide +kernel
theorem dL_law_57 : decode cL_law 57 = .ok (.aload_n 1, 1) := by decide +kernel
theorem dL_law_58 : decode cL_law 58 = .ok (.iconst 2, 1) := by decide +kernel
theorem dL_law_59 : decode cL_law 59 = .ok (.invokestatic 108, 3) := by decide +kernel
theorem dL_law_62 : decode cL_law 62 = .ok (.ifCond .eq 14, 3) := by decide +kernel
theorem dL_law_65 : decode cL_law 65 = .ok (.aload_n 1, 1) := by decide +kernel
theorem dL_law_66 : decode cL_law 66 = .ok (.invokevirtual 111, 3) := by decide +kernel
theorem dL_law_69 : decode cL_law 69 = .ok (.ifCond .ne 7, 3) := by decide +kernel
theorem dL_law_72 : decode cL_law 72 = .ok (.iconst 1, 1) := by decide +kernel
theorem dL_law_73 : decode cL_law 73 = .ok (.goto 4, 3) := by decide +kernel
theorem dL_law_76 : decode cL_law 76 = .ok (.iconst 0, 1) := by decide +kernel
theorem dL_law_77 : decode cL_law 77 = .ok (.istore_n 2, 1) := by decide +kernel
theorem dL_law_78 : decode cL_law 78 = .ok (.aload_n 1, 1) := by decide +kernel
theorem dL_law_79 : decode cL_law 79 = .ok (.invokestatic 81, 3) := by decide +kernel
theorem dL_law_82 : decode cL_law 82 = .ok (.lstore_n 3, 1) := by decide +kernel
theorem dL_law_83 : decode cL_law 83 = .ok (.iconst 0, 1) := by decide +kernel
theorem dL_law_84 : decode cL_law 84 = .ok (.istore 5, 2) := by decide +kernel
theorem dL_law_86 : decode cL_law 86 = .ok (.iconst 0, 1) := by decide +kernel
theorem dL_law_87 : decode cL_law 87 = .ok (.istore 6, 2) := by decide +kernel
theorem dL_law_89 : decode cL_law 89 = .ok (.iload 6, 2) := by decide +kernel
theorem dL_law_91 : decode cL_law 91 = .ok (.bipush 60, 2) := by decide +kernel
theorem dL_law_93 : decode cL_law 93 = .ok (.if_icmp .ge 287, 3) := by decide +kernel
theorem dL_law_96 : decode cL_law 96 = .ok (.iload_n 2, 1) := by decide +kernel
theorem dL_law_97 : decode cL_law 97 = .ok (.ifCond .eq 283, 3) := by decide +kernel
theorem dL_law_100 : decode cL_law 100 = .ok (.aload_n 0, 1) := by decide +kernel
theorem dL_law_101 : decode cL_law 101 = .ok (.iload 6, 2) := by decide +kernel
theorem dL_law_103 : decode cL_law 103 = .ok (.invokestatic 114, 3) := by decide +kernel
theorem dL_law_106 : decode cL_law 106 = .ok (.istore 7, 2) := by decide +kernel
theorem dL_law_108 : decode cL_law 108 = .ok (.aload_n 1, 1) := by decide +kernel
theorem dL_law_109 : decode cL_law 109 = .ok (.invokestatic 81, 3) := by decide +kernel
theorem dL_law_112 : decode cL_law 112 = .ok (.lstore 8, 2) := by decide +kernel
theorem dL_law_114 : decode cL_law 114 = .ok (.aload_n 1, 1) := by decide +kernel
theorem dL_law_115 : decode cL_law 115 = .ok (.bipush 7, 2) := by decide +kernel
theorem dL_law_117 : decode cL_law 117 = .ok (.invokevirtual 14, 3) := by decide +kernel
theorem dL_law_120 : decode cL_law 120 = .ok (.istore 10, 2) := by decide +kernel
theorem dL_law_122 : decode cL_law 122 = .ok (.aload_n 1, 1) := by decide +kernel
theorem dL_law_123 : decode cL_law 123 = .ok (.iload 7, 2) := by decide +kernel
theorem dL_law_125 : decode cL_law 125 = .ok (.invokestatic 118, 3) := by decide +kernel
theorem dL_law_128 : decode cL_law 128 = .ok (.istore 11, 2) := by decide +kernel
theorem dL_law_130 : decode cL_law 130 = .ok (.aload_n 1, 1) := by decide +kernel
theorem dL_law_131 : decode cL_law 131 = .ok (.bipush 7, 2) := by decide +kernel
theorem dL_law_133 : decode cL_law 133 = .ok (.invokevirtual 14, 3) := by decide +kernel
theorem dL_law_136 : decode cL_law 136 = .ok (.istore 12, 2) := by decide +kernel
theorem dL_law_138 : decode cL_law 138 = .ok (.iload 11, 2) := by decide +kernel
theorem dL_law_140 : decode cL_law 140 = .ok (.bipush (-9), 2) := by decide +kernel
theorem dL_law_142 : decode cL_law 142 = .ok (.if_icmp .le 92, 3) := by decide +kernel
theorem dL_law_145 : decode cL_law 145 = .ok (.iload 11, 2) := by decide +kernel
theorem dL_law_147 : decode cL_law 147 = .ok (.ifCond .ge 23, 3) := by decide +kernel
theorem dL_law_150 : decode cL_law 150 = .ok (.iload 12, 2) := by decide +kernel
theorem dL_law_152 : decode cL_law 152 = .ok (.iload 10, 2) := by decide +kernel
theorem dL_law_154 : decode cL_law 154 = .ok (.if_icmp .ne 80, 3) := by decide +kernel
theorem dL_law_157 : decode cL_law 157 = .ok (.aload_n 1, 1) := by decide +kernel
theorem dL_law_158 : decode cL_law 158 = .ok (.invokestatic 81, 3) := by decide +kernel
theorem dL_law_161 : decode cL_law 161 = .ok (.lload 8, 2) := by decide +kernel
theorem dL_law_163 : decode cL_law 163 = .ok (.lcmp, 1) := by decide +kernel
theorem dL_law_164 : decode cL_law 164 = .ok (.ifCond .ne 70, 3) := by decide +kernel
theorem dL_law_167 : decode cL_law 167 = .ok (.goto 22, 3) := by decide +kernel
theorem dL_law_170 : decode cL_law 170 = .ok (.iload 12, 2) := by decide +kernel
theorem dL_law_172 : decode cL_law 172 = .ok (.iload 10, 2) := by decide +kernel
theorem dL_law_174 : decode cL_law 174 = .ok (.iconst 4, 1) := by decide +kernel
theorem dL_law_175 : decode cL_law 175 = .ok (.if_icmp .ge 10, 3) := by decide +kernel
theorem dL_law_178 : decode cL_law 178 = .ok (.iload 10, 2) := by decide +kernel
theorem dL_law_180 : decode cL_law 180 = .ok (.iconst 1, 1) := by decide +kernel
theorem dL_law_181 : decode cL_law 181 = .ok (.iadd, 1) := by decide +kernel
theorem dL_law_182 : decode cL_law 182 = .ok (.goto 4, 3) := by decide +kernel
theorem dL_law_185 : decode cL_law 185 = .ok (.iconst 4, 1) := by decide +kernel
theorem dL_law_186 : decode cL_law 186 = .ok (.if_icmp .ne 48, 3) := by decide +kernel
theorem dL_law_189 : decode cL_law 189 = .ok (.aload_n 1, 1) := by decide +kernel
theorem dL_law_190 : decode cL_law 190 = .ok (.invokestatic 122, 3) := by decide +kernel
theorem dL_law_193 : decode cL_law 193 = .ok (.ifCond .eq 41, 3) := by decide +kernel
theorem dL_law_196 : decode cL_law 196 = .ok (.iload 6, 2) := by decide +kernel
theorem dL_law_198 : decode cL_law 198 = .ok (.bipush 7, 2) := by decide +kernel
theorem dL_law_200 : decode cL_law 200 = .ok (.irem, 1) := by decide +kernel
theorem dL_law_201 : decode cL_law 201 = .ok (.bipush 6, 2) := by decide +kernel
theorem dL_law_203 : decode cL_law 203 = .ok (.if_icmp .ne 27, 3) := by decide +kernel
theorem dL_law_206 : decode cL_law 206 = .ok (.aload_n 1, 1) := by decide +kernel
theorem dL_law_207 : decode cL_law 207 = .ok (.iload 7, 2) := by decide +kernel
theorem dL_law_209 : decode cL_law 209 = .ok (.bipush 7, 2) := by decide +kernel
theorem dL_law_211 : decode cL_law 211 = .ok (.idiv, 1) := by decide +kernel
theorem dL_law_212 : decode cL_law 212 = .ok (.invokestatic 108, 3) := by decide +kernel
theorem dL_law_215 : decode cL_law 215 = .ok (.ifCond .eq 19, 3) := by decide +kernel
theorem dL_law_218 : decode cL_law 218 = .ok (.aload_n 1, 1) := by decide +kernel
theorem dL_law_219 : decode cL_law 219 = .ok (.iload 7, 2) := by decide +kernel
theorem dL_law_221 : decode cL_law 221 = .ok (.bipush 16, 2) := by decide +kernel
theorem dL_law_223 : decode cL_law 223 = .ok (.irem, 1) := by decide +kernel
theorem dL_law_224 : decode cL_law 224 = .ok (.invokestatic 126, 3) := by decide +kernel
theorem dL_law_227 : decode cL_law 227 = .ok (.ifCond .eq 7, 3) := by decide +kernel
theorem dL_law_230 : decode cL_law 230 = .ok (.iconst 1, 1) := by decide +kernel
theorem dL_law_231 : decode cL_law 231 = .ok (.goto 4, 3) := by decide +kernel
theorem dL_law_234 : decode cL_law 234 = .ok (.iconst 0, 1) := by decide +kernel
theorem dL_law_235 : decode cL_law 235 = .ok (.istore_n 2, 1) := by decide +kernel
theorem dL_law_236 : decode cL_law 236 = .ok (.iload_n 2, 1) := by decide +kernel
theorem dL_law_237 : decode cL_law 237 = .ok (.ifCond .eq 53, 3) := by decide +kernel
theorem dL_law_240 : decode cL_law 240 = .ok (.iload 11, 2) := by decide +kernel
theorem dL_law_242 : decode cL_law 242 = .ok (.ifCond .lt 48, 3) := by decide +kernel
theorem dL_law_245 : decode cL_law 245 = .ok (.iload 7, 2) := by decide +kernel
theorem dL_law_247 : decode cL_law 247 = .ok (.bipush 17, 2) := by decide +kernel
theorem dL_law_249 : decode cL_law 249 = .ok (.idiv, 1) := by decide +kernel
theorem dL_law_250 : decode cL_law 250 = .ok (.iconst 4, 1) := by decide +kernel
theorem dL_law_251 : decode cL_law 251 = .ok (.irem, 1) := by decide +kernel
theorem dL_law_252 : decode cL_law 252 = .ok (.ifCond .ne 38, 3) := by decide +kernel
theorem dL_law_255 : decode cL_law 255 = .ok (.aload_n 1, 1) := by decide +kernel
theorem dL_law_256 : decode cL_law 256 = .ok (.invokevirtual 102, 3) := by decide +kernel
theorem dL_law_259 : decode cL_law 259 = .ok (.iload 10, 2) := by decide +kernel
theorem dL_law_261 : decode cL_law 261 = .ok (.iconst 4, 1) := by decide +kernel
theorem dL_law_262 : decode cL_law 262 = .ok (.if_icmp .ge 8, 3) := by decide +kernel
theorem dL_law_265 : decode cL_law 265 = .ok (.iload 10, 2) := by decide +kernel
theorem dL_law_267 : decode cL_law 267 = .ok (.goto 4, 3) := by decide +kernel
theorem dL_law_270 : decode cL_law 270 = .ok (.iconst 3, 1) := by decide +kernel
theorem dL_law_271 : decode cL_law 271 = .ok (.if_icmp .ne 17, 3) := by decide +kernel
theorem dL_law_274 : decode cL_law 274 = .ok (.aload_n 1, 1) := by decide +kernel
theorem dL_law_275 : decode cL_law 275 = .ok (.invokestatic 81, 3) := by decide +kernel
theorem dL_law_278 : decode cL_law 278 = .ok (.lload 8, 2) := by decide +kernel
theorem dL_law_280 : decode cL_law 280 = .ok (.lcmp, 1) := by decide +kernel
theorem dL_law_281 : decode cL_law 281 = .ok (.ifCond .ne 7, 3) := by decide +kernel
theorem dL_law_284 : decode cL_law 284 = .ok (.iconst 1, 1) := by decide +kernel
theorem dL_law_285 : decode cL_law 285 = .ok (.goto 4, 3) := by decide +kernel
theorem dL_law_288 : decode cL_law 288 = .ok (.iconst 0, 1) := by decide +kernel
theorem dL_law_289 : decode cL_law 289 = .ok (.istore_n 2, 1) := by decide +kernel
theorem dL_law_290 : decode cL_law 290 = .ok (.iload_n 2, 1) := by decide +kernel
theorem dL_law_291 : decode cL_law 291 = .ok (.ifCond .eq 83, 3) := by decide +kernel
theorem dL_law_294 : decode cL_law 294 = .ok (.iload 6, 2) := by decide +kernel
theorem dL_law_296 : decode cL_law 296 = .ok (.bipush 15, 2) := by decide +kernel
theorem dL_law_298 : decode cL_law 298 = .ok (.irem, 1) := by decide +kernel
theorem dL_law_299 : decode cL_law 299 = .ok (.bipush 14, 2) := by decide +kernel
theorem dL_law_301 : decode cL_law 301 = .ok (.if_icmp .ne 73, 3) := by decide +kernel
theorem dL_law_304 : decode cL_law 304 = .ok (.aload_n 1, 1) := by decide +kernel
theorem dL_law_305 : decode cL_law 305 = .ok (.invokestatic 81, 3) := by decide +kernel
theorem dL_law_308 : decode cL_law 308 = .ok (.lstore 13, 2) := by decide +kernel
theorem dL_law_310 : decode cL_law 310 = .ok (.aload_n 1, 1) := by decide +kernel
theorem dL_law_311 : decode cL_law 311 = .ok (.iconst 0, 1) := by decide +kernel
theorem dL_law_312 : decode cL_law 312 = .ok (.invokevirtual 14, 3) := by decide +kernel
theorem dL_law_315 : decode cL_law 315 = .ok (.istore 15, 2) := by decide +kernel
theorem dL_law_317 : decode cL_law 317 = .ok (.aload_n 1, 1) := by decide +kernel
theorem dL_law_318 : decode cL_law 318 = .ok (.invokevirtual 105, 3) := by decide +kernel
theorem dL_law_321 : decode cL_law 321 = .ok (.iload 5, 2) := by decide +kernel
theorem dL_law_323 : decode cL_law 323 = .ok (.if_icmp .ne 42, 3) := by decide +kernel
theorem dL_law_326 : decode cL_law 326 = .ok (.aload_n 1, 1) := by decide +kernel
theorem dL_law_327 : decode cL_law 327 = .ok (.invokestatic 81, 3) := by decide +kernel
theorem dL_law_330 : decode cL_law 330 = .ok (.lload_n 3, 1) := by decide +kernel
theorem dL_law_331 : decode cL_law 331 = .ok (.lcmp, 1) := by decide +kernel
theorem dL_law_332 : decode cL_law 332 = .ok (.ifCond .ne 33, 3) := by decide +kernel
theorem dL_law_335 : decode cL_law 335 = .ok (.aload_n 1, 1) := by decide +kernel
theorem dL_law_336 : decode cL_law 336 = .ok (.invokevirtual 102, 3) := by decide +kernel
theorem dL_law_339 : decode cL_law 339 = .ok (.ifCond .lt 26, 3) := by decide +kernel
theorem dL_law_342 : decode cL_law 342 = .ok (.aload_n 1, 1) := by decide +kernel
theorem dL_law_343 : decode cL_law 343 = .ok (.invokestatic 81, 3) := by decide +kernel
theorem dL_law_346 : decode cL_law 346 = .ok (.lload 13, 2) := by decide +kernel
theorem dL_law_348 : decode cL_law 348 = .ok (.lcmp, 1) := by decide +kernel
theorem dL_law_349 : decode cL_law 349 = .ok (.ifCond .ne 16, 3) := by decide +kernel
theorem dL_law_352 : decode cL_law 352 = .ok (.aload_n 1, 1) := by decide +kernel
theorem dL_law_353 : decode cL_law 353 = .ok (.invokevirtual 111, 3) := by decide +kernel
theorem dL_law_356 : decode cL_law 356 = .ok (.iload 15, 2) := by decide +kernel
theorem dL_law_358 : decode cL_law 358 = .ok (.if_icmp .ne 7, 3) := by decide +kernel
theorem dL_law_361 : decode cL_law 361 = .ok (.iconst 1, 1) := by decide +kernel
theorem dL_law_362 : decode cL_law 362 = .ok (.goto 4, 3) := by decide +kernel
theorem dL_law_365 : decode cL_law 365 = .ok (.iconst 0, 1) := by decide +kernel
theorem dL_law_366 : decode cL_law 366 = .ok (.istore_n 2, 1) := by decide +kernel
theorem dL_law_367 : decode cL_law 367 = .ok (.lload 13, 2) := by decide +kernel
theorem dL_law_369 : decode cL_law 369 = .ok (.lstore_n 3, 1) := by decide +kernel
theorem dL_law_370 : decode cL_law 370 = .ok (.iload 15, 2) := by decide +kernel
theorem dL_law_372 : decode cL_law 372 = .ok (.istore 5, 2) := by decide +kernel
theorem dL_law_374 : decode cL_law 374 = .ok (.iinc 6 1, 3) := by decide +kernel
theorem dL_law_377 : decode cL_law 377 = .ok (.goto (-288), 3) := by decide +kernel
theorem dL_law_380 : decode cL_law 380 = .ok (.iload_n 2, 1) := by decide +kernel
theorem dL_law_381 : decode cL_law 381 = .ok (.ireturn, 1) := by decide +kernel
end
section
/-! ===== the words that every method asks for: all words of the tables that are carried ===== -/
def zW : List Cond := lw_tbl.filter goodWord
theorem zm {w : Cond} (i : Nat) (h : lw_tbl[i]? = some w) (g : goodWord w = true) : w ∈ zW := List.mem_filter.mpr ⟨List.mem_of_getElem? h, g⟩
theorem zW_good {ws : List Cond} (h : ∀ w ∈ ws, w ∈ zW) : GoodIn zW ws := fun w hw => ⟨h w hw, good_of_word (List.mem_filter.mp (h w hw)).2⟩
theorem zWr (ws : List Cond) (ps : List Nat) (hp : ws = ps.filterMap (fun i => lw_tbl[i]?)) (h : ws.all goodWord = true) : ∀ w ∈ ws, w ∈ zW := by
  intro w hw
  have h1 := List.all_eq_true.mp h w hw
  rw [hp] at hw
  obtain ⟨i, -, hi⟩ := List.mem_filterMap.mp hw
  exact zm i hi h1
abbrev zws (y : MethodName) (c : ByteArray) (n : Nat) (r : Option FieldType) : List Cond := .code y c n r :: zW
theorem zGV {own C : String} {idx n : Nat} {y : MethodName} {c : ByteArray} {r : Option FieldType} (h1 : Cond.methodLink own idx y ∈ zW) (h2 : Cond.instanceMethod y ∈ zW) (h3 : Cond.selects C y y ∈ zW) (h4 : Cond.initialized C ∈ zW) (h5 : Cond.code y c n r ∈ zW) : GoodIn zW (wsV own idx C y (zws y c n r)) := zW_good (by
  intro w hw
  simp only [wsV, zws, List.cons_append, List.nil_append, List.mem_cons] at hw
  rcases hw with rfl | rfl | rfl | rfl | rfl | hw
  all_goals assumption)
theorem zGS {own : String} {idx n : Nat} {y : MethodName} {c : ByteArray} {r : Option FieldType} (h1 : Cond.methodLink own idx y ∈ zW) (h2 : Cond.static y ∈ zW) (h4 : Cond.initialized y.cls ∈ zW) (h5 : Cond.code y c n r ∈ zW) : GoodIn zW (va_wsS own idx y (zws y c n r)) := zW_good (by
  intro w hw
  simp only [va_wsS, zws, List.cons_append, List.nil_append, List.mem_cons] at hw
  rcases hw with rfl | rfl | rfl | rfl | hw
  all_goals assumption)
theorem zG0 {n : Nat} {y : MethodName} {c : ByteArray} {r : Option FieldType} (h5 : Cond.code y c n r ∈ zW) : GoodIn zW (zws y c n r) := zW_good (by
  intro w hw
  rcases List.mem_cons.mp hw with rfl | hw
  all_goals assumption)
/-! ===== the world: cells by two numbers, at addresses that follow each other from b ===== -/
/-- classes, array classes (0 int, 1 char, 2 Chip, 3 Chain), the first address -/
abbrev zG : Type := va_G × (Nat → ClassId) × Nat
abbrev zH : Type := Nat → Nat → va_E
abbrev ztys (G : zG) : List (ClassId × FieldType) := [(G.2.1 0, .int), (G.2.1 1, .char), (G.2.1 2, .object "ScanChain$Chip"), (G.2.1 3, .object "ScanChain$Chain")]
abbrev zA (G : zG) : Nat → Prop := fun q => G.2.2 ≤ q
/-- which cells there are, and where each lies -/
def zok (i j : Nat) : Prop := (i < 7 ∧ j < 9) ∨ (i = 7 ∧ j < 5) ∨ (i = 8 ∧ j < 7)
/-- a chain's cells: the chain, its array of chips, the chips, the identities -/
def zj (j : Nat) : Nat := if j = 2 then 8 else if j < 2 then j else j - 1
def zix (i j : Nat) : Nat := if i < 3 then 1 + 9 * i + zj j else if i < 7 then 3 + 9 * i + zj j else if i = 7 then (if j = 0 then 0 else if j = 1 then 28 else if j = 2 then 29 else if j = 3 then 66 else 67) else 68 + j
theorem zix_inj {i j i' j' : Nat} (h : zok i j) (h' : zok i' j') (e : zix i j = zix i' j') : i = i' ∧ j = j' := by
  unfold zok at h h'
  have z1 : (j = 2 ∧ zj j = 8) ∨ (j < 2 ∧ zj j = j) ∨ (2 < j ∧ zj j = j - 1) := by
    unfold zj
    repeat' split
    all_goals omega
  have z2 : (j' = 2 ∧ zj j' = 8) ∨ (j' < 2 ∧ zj j' = j') ∨ (2 < j' ∧ zj j' = j' - 1) := by
    unfold zj
    repeat' split
    all_goals omega
  unfold zix at e
  repeat' split at e
  all_goals omega
def zad (G : zG) (i j : Nat) : Nat := G.2.2 + zix i j
def HW (G : zG) (n : Nat) (h : zH) (H : Heap) : Prop := H.size = G.2.2 + n ∧ ∀ i j, zok i j → zix i j < n → va_at G.1 vwCl (zad G i j, h i j) H
def zNest : List Cond := [.methodLinkNest RX0 17 yX1_init "ScanChain", .fieldLinkNest RX4 54 "ScanChain$Chip" "codeLength" "I" "ScanChain", .fieldLinkNest RX0 56 "ScanChain$Chip" "codeLength" "I" "ScanChain", .fieldLinkNest RX0 45 "ScanChain$Chip" "identity" "I" "ScanChain", .fieldLinkNest RX6 76 "ScanChain$Chip" "isBroken" "Z" "ScanChain", .fieldLinkNest RX0 48 "ScanChain$Chip" "isBroken" "Z" "ScanChain", .fieldLinkNest RX0 96 "ScanChain$Chip" "codeRegister" "I" "ScanChain", .fieldLinkNest RX6 67 "ScanChain$Chain" "chips" "[LScanChain$Chip;" "ScanChain", .fieldLinkNest RX4 50 "ScanChain$Chain" "chips" "[LScanChain$Chip;" "ScanChain", .fieldLinkNest RX6 48 "ScanChain$Chain" "size" "I" "ScanChain", .fieldLinkNest RX4 47 "ScanChain$Chain" "size" "I" "ScanChain", .fieldLinkNest RX4 9 "ScanChain$Chain" "state" "I" "ScanChain", .fieldLinkNest RX6 141 "ScanChain$Chain" "state" "I" "ScanChain", .fieldLinkNest RX6 144 "ScanChain$Chain" "clocks" "I" "ScanChain", .fieldLinkNest RX6 157 "ScanChain$Chain" "identities" "[I" "ScanChain", .fieldLinkNest RX4 44 "ScanChain$Chain" "identityCount" "I" "ScanChain", .fieldLinkNest RX6 153 "ScanChain$Chain" "identityCount" "I" "ScanChain", .fieldLinkNest RX6 156 "ScanChain$History" "size" "I" "ScanChain", .fieldLinkNest RX4 76 "ScanChain$Script" "characters" "[C" "ScanChain", .fieldLinkNest RX4 71 "ScanChain$Script" "length" "I" "ScanChain", .fieldLinkNest RX6 116 "ScanChain$Script" "length" "I" "ScanChain", .methodLinkNest RX1 43 yX6_allOnes "ScanChain", .methodLinkNest RX4 59 yX6_allOnes "ScanChain"]
def KK (G : zG) (U : State) : Prop := va_K G.1 vwCl (ztys G) U ∧ (∀ w ∈ zNest, va_Nw w U) ∧ va_AO "ScanChain$Chip" U ∧ va_AO "ScanChain$Chain" U
def zN0 (k : Nat) : Int32 := [1, 1, 3, 4, 4, 6, 6, 4, 1, 10, 11, 11, 13, 13, 11, 1].getD k 0
def zN1 (k : Nat) : Int32 := [0, 2, 9, 5, 5, 8, 7, 8, 2, 0, 12, 12, 15, 14, 15, 2].getD k 0
def ST (G : zG) (U : State) (H : Heap) : Prop := ∃ t0 t1 : Nat, (va_Z "ScanChain$Controller" "NEXT_BY_MODE_0" "[I" (.ref t0) (zA G) U H ∧ va_T .int t0 16 (fun k => .int (zN0 k)) (zA G) U H) ∧ (va_Z "ScanChain$Controller" "NEXT_BY_MODE_1" "[I" (.ref t1) (zA G) U H ∧ va_T .int t1 16 (fun k => .int (zN1 k)) (zA G) U H)
def Wd (G : zG) (n : Nat) (h : zH) (U : State) (H : Heap) : Prop := HW G n h H ∧ KK G U ∧ ST G U H
theorem zNest_ok : ∀ w ∈ zNest, w.onTables = true ∧ ((∃ a i b n d h, w = .fieldLinkNest a i b n d h) ∨ ∃ a i x h, w = .methodLinkNest a i x h) := by
  intro w hw
  simp only [zNest, List.mem_cons, List.not_mem_nil, or_false] at hw
  rcases hw with rfl | rfl | rfl | rfl | rfl | rfl | rfl | rfl | rfl | rfl | rfl | rfl | rfl | rfl | rfl | rfl | rfl | rfl | rfl | rfl | rfl | rfl | rfl
  all_goals first
    | exact ⟨rfl, Or.inl ⟨_, _, _, _, _, _, rfl⟩⟩
    | exact ⟨rfl, Or.inr ⟨_, _, _, _, rfl⟩⟩
theorem KK.warm {G : zG} {s U : State} (h : KK G s) (hW : s.WarmedH U.vm) : KK G U := by
  refine ⟨va_K.moved hW.alike h.1, fun w hw => ?_, h.2.2.1.moved hW.alike, h.2.2.2.moved hW.alike⟩
  have h1 := h.2.1 w hw
  rcases (zNest_ok w hw).2 with ⟨a, i, b, n, d, x, rfl⟩ | ⟨a, i, b, x, rfl⟩
  · exact va_Nw.warmF hW h1
  · exact va_Nw.warmM hW h1
theorem KK.calling {G : zG} {U : State} {g : JFrame} {mk : MethodId} {a : Array Value} (h : KK G U) : KK G (U.calling g mk a) :=
  ⟨va_K.moved (u := U) (U := U.calling g mk a) (Vm.Alike.refl U.vm) h.1, fun w hw => va_Nw.same (zNest_ok w hw).1 (u := U) (U := U.calling g mk a) rfl (h.2.1 w hw), va_AO.moved (u := U) (U := U.calling g mk a) (Vm.Alike.refl U.vm) h.2.2.1, va_AO.moved (u := U) (U := U.calling g mk a) (Vm.Alike.refl U.vm) h.2.2.2⟩
theorem ST.moved {G : zG} {u U : State} {H : Heap} (hvm : u.vm.Alike U.vm) (h : ST G u H) : ST G U H := by
  obtain ⟨t0, t1, ⟨a, b⟩, ⟨c, d⟩⟩ := h
  exact ⟨t0, t1, ⟨a.moved hvm, b.moved hvm⟩, ⟨c.moved hvm, d.moved hvm⟩⟩
theorem ST.kept {G : zG} {U : State} {H H1 : Heap} (h : ST G U H) (hq : ∀ a : Nat, a < H.size → ¬ zA G a → H1[a]? = H[a]?) : ST G U H1 := by
  obtain ⟨t0, t1, ⟨a, b⟩, ⟨c, d⟩⟩ := h
  exact ⟨t0, t1, ⟨a.kept hq, b.kept hq⟩, ⟨c.kept hq, d.kept hq⟩⟩
theorem Wd.calling {G : zG} {n : Nat} {h : zH} {U : State} {g : JFrame} {mk : MethodId} {a : Array Value} (hw : Wd G n h U U.heap) : Wd G n h (U.calling g mk a) (U.calling g mk a).heap :=
  ⟨hw.1, hw.2.1.calling, ST.moved (u := U) (U := U.calling g mk a) (Vm.Alike.refl U.vm) hw.2.2⟩
/-! ===== locals: a list, a place a slot ===== -/
def lo : Nat → List (Option Value) → List (Nat × Value)
  | _, [] => []
  | k, none :: t => lo (k + 1) t
  | k, some v :: t => (k, v) :: lo (k + 1) t
theorem lo_mem {v : Value} : ∀ (ls : List (Option Value)) (b k : Nat), ls[k]? = some (some v) → (b + k, v) ∈ lo b ls
  | [], _, _, h => by simp at h
  | none :: t, b, 0, h => by simp at h
  | some w :: t, b, 0, h => by
    simp at h
    subst h
    exact List.mem_cons_self
  | none :: t, b, k + 1, h => by
    have h1 := lo_mem t (b + 1) k (by simpa using h)
    rw [show b + (k + 1) = b + 1 + k by omega]
    exact h1
  | some w :: t, b, k + 1, h => by
    have h1 := lo_mem t (b + 1) k (by simpa using h)
    rw [show b + (k + 1) = b + 1 + k by omega]
    exact List.mem_cons_of_mem _ h1
theorem lo_of_mem {k : Nat} {v : Value} : ∀ (ls : List (Option Value)) (b : Nat), (k, v) ∈ lo b ls → b ≤ k ∧ ls[k - b]? = some (some v)
  | [], _, h => by cases h
  | none :: t, b, h => by
    obtain ⟨h1, h2⟩ := lo_of_mem t (b + 1) h
    refine ⟨by omega, ?_⟩
    rw [show k - b = (k - (b + 1)) + 1 by omega]
    simpa using h2
  | some w :: t, b, h => by
    rcases List.mem_cons.mp h with h0 | h0
    · cases h0
      simp
    · obtain ⟨h1, h2⟩ := lo_of_mem t (b + 1) h0
      refine ⟨by omega, ?_⟩
      rw [show k - b = (k - (b + 1)) + 1 by omega]
      simpa using h2
theorem lo_at {lsA : Array Slot} {nL k : Nat} {ls : List (Option Value)} {v : Value} (h : lv_has lsA nL (lo 0 ls)) (hk : ls[k]? = some (some v)) : lsA[k]? = some (.val v) := by
  have := h.2.2 (k, v) (by simpa using lo_mem ls 0 k hk)
  exact this
theorem lo_len {lsA : Array Slot} {nL : Nat} {ls : List (Option Value)} (h : lv_has lsA nL (lo 0 ls)) : lsA.size = nL := h.1
/-- fewer values known -/
theorem lo_sub {lsA : Array Slot} {nL : Nat} {l : List (Nat × Value)} {ls' : List (Option Value)} (h : lv_has lsA nL l) (hs : ∀ q ∈ lo 0 ls', q ∈ l) : lv_has lsA nL (lo 0 ls') := ⟨h.1, h.2.1, fun q hq => h.2.2 q (hs q hq)⟩
/-- a two-slot value has an empty place behind it -/
def lo2 : Bool → List (Option Value) → Bool
  | _, [] => true
  | _, none :: t => lo2 false t
  | true, some _ :: _ => false
  | false, some v :: t => lo2 (decide (v.category ≠ 1)) t
def lo1 (ls : List (Option Value)) : Bool := lo2 false ls
theorem lo2_at {v w : Value} : ∀ (ls : List (Option Value)) (b : Bool) (k : Nat), lo2 b ls = true → ls[k]? = some (some v) → v.category ≠ 1 → ls[k + 1]? = some (some w) → False
  | [], _, _, _, h, _, _ => by simp at h
  | none :: t, b, 0, _, h, _, _ => by simp at h
  | none :: t, b, k + 1, h1, h, hc, h2 => lo2_at t false k (by cases b <;> exact h1) (by simpa using h) hc (by simpa using h2)
  | some u :: t, true, _, h1, _, _, _ => by cases h1
  | some u :: t, false, 0, h1, h, hc, h2 => by
    simp at h
    subst h
    have h3 : lo2 (decide (u.category ≠ 1)) t = true := h1
    rw [show decide (u.category ≠ 1) = true by simpa using hc] at h3
    cases t with
    | nil => simp at h2
    | cons o t =>
      simp at h2
      subst h2
      cases h3
  | some u :: t, false, k + 1, h1, h, hc, h2 => lo2_at t _ k h1 (by simpa using h) hc (by simpa using h2)
theorem lo_put {i : Nat} {ls ls' : List (Option Value)} {v : Value} (h1 : lo1 ls' = true) (h2 : ls'[i]? = some (some v)) (hls : ls.set i (some v) = ls') : ∀ q ∈ lo 0 ls', q ∈ (i, v) :: (lo 0 ls).filter (fun q => !(q.1 == i) && !(q.1 + 1 == i && q.2.category == 2)) := by
  intro q hq
  obtain ⟨k, w⟩ := q
  obtain ⟨-, h3⟩ := lo_of_mem _ 0 hq
  simp only [Nat.sub_zero] at h3
  by_cases hk : k = i
  · subst hk
    rw [h2] at h3
    cases h3
    exact List.mem_cons_self
  · have h4 : ls[k]? = some (some w) := by
      rw [← h3, ← hls, List.getElem?_set_ne (Ne.symm hk)]
    refine List.mem_cons_of_mem _ (List.mem_filter.mpr ⟨by simpa using lo_mem ls 0 k h4, ?_⟩)
    have hc : ¬ (k + 1 = i ∧ w.category = 2) := by
      rintro ⟨e, c2⟩
      subst e
      exact lo2_at ls' false k h1 h3 (by rw [c2]; decide) h2
    simp only [Bool.and_eq_true, Bool.not_eq_true', beq_eq_false_iff_ne, ne_eq, Bool.and_eq_false_iff]
    refine ⟨hk, ?_⟩
    by_cases e : k + 1 = i
    · exact Or.inr fun z => hc ⟨e, z⟩
    · exact Or.inl e
/-- a two-slot value is put -/
theorem lo_put2 {i : Nat} {ls ls' : List (Option Value)} {v : Value} (h1 : lo1 ls' = true) (h2 : ls'[i]? = some (some v)) (h3 : ls'[i + 1]? = some none) (hls : (ls.set i (some v)).set (i + 1) none = ls') : ∀ q ∈ lo 0 ls', q ∈ (i, v) :: (lo 0 ls).filter (fun q => !(q.1 == i) && (!(q.1 == i + 1) && !(q.1 + 1 == i && q.2.category == 2))) := by
  intro q hq
  obtain ⟨k, w⟩ := q
  obtain ⟨-, h4⟩ := lo_of_mem _ 0 hq
  simp only [Nat.sub_zero] at h4
  by_cases hk : k = i
  · subst hk
    rw [h2] at h4
    cases h4
    exact List.mem_cons_self
  · have hk2 : k ≠ i + 1 := by
      rintro rfl
      rw [h3] at h4
      cases h4
    have h5 : ls[k]? = some (some w) := by
      rw [← h4, ← hls, List.getElem?_set_ne (Ne.symm hk2), List.getElem?_set_ne (Ne.symm hk)]
    refine List.mem_cons_of_mem _ (List.mem_filter.mpr ⟨by simpa using lo_mem ls 0 k h5, ?_⟩)
    have hc : ¬ (k + 1 = i ∧ w.category = 2) := by
      rintro ⟨e, c2⟩
      subst e
      exact lo2_at ls' false k h1 h4 (by rw [c2]; decide) h2
    simp only [Bool.and_eq_true, Bool.not_eq_true', beq_eq_false_iff_ne, ne_eq, Bool.and_eq_false_iff]
    refine ⟨hk, hk2, ?_⟩
    by_cases e : k + 1 = i
    · exact Or.inr fun z => hc ⟨e, z⟩
    · exact Or.inl e
end
section
def zFL (s : State) (args : Array Value) (own : String) (idx : Nat) (ref n d : String) : Prop := (Cond.fieldLink own idx ref n d).before args s = true ∨ ∃ host, (Cond.fieldLinkNest own idx ref n d host).before args s = true
/-- what holds in a method's body from its entry on -/
def Cx (p : Program) (s : State) (m : MethodId) (args : Array Value) (meth : Method) (c : Code) (cc : ByteArray) (nL : Nat) (own : String) (G : zG) : Prop :=
  CallFix p m c cc nL s args zW own ∧ KK G s ∧ ST G s s.heap ∧ meth.locks = false
/-- the judgement: at pc, with these locals and this stack, over any heap that holds the n cells h, the machine comes to Q -/
def Xh (p : Program) (l : Launch) (e : Env) (R : Room) (s : State) (m : MethodId) (args : Array Value) (below : List Frame) (meth : Method) (c : Code) (nL : Nat) (G : zG) (Q : State → Prop) (cells slots n : Nat) (h : zH) (pc : Nat) (ls : List (Option Value)) (st : List Value) : Prop :=
  ∀ (H : Heap) (locs : List Loc) (lsA : Array Slot), HW G n h H → va_S (zA G) s.heap H locs → lv_has lsA nL (lo 0 ls) → lo1 ls = true → W p l e R s m args below meth c H locs cells slots Q (F0 m pc lsA st)
end
section
theorem zt0 : Cond.selects RX3 yX3_dropOldest yX3_dropOldest ∈ zW := zm 0 (by decide +kernel) (by decide +kernel)
theorem zt1 : Cond.selects RX0 yX0_shiftAllData yX0_shiftAllData ∈ zW := zm 1 (by decide +kernel) (by decide +kernel)
theorem zt2 : Cond.selects RX0 yX0_shiftAllCodes yX0_shiftAllCodes ∈ zW := zm 2 (by decide +kernel) (by decide +kernel)
theorem zt3 : Cond.selects RX0 yX0_workOf yX0_workOf ∈ zW := zm 3 (by decide +kernel) (by decide +kernel)
theorem zt4 : Cond.selects RX6 yX6_exchangeError yX6_exchangeError ∈ zW := zm 4 (by decide +kernel) (by decide +kernel)
theorem zt5 : Cond.initialized RL ∈ zW := zm 5 (by decide +kernel) (by decide +kernel)
theorem zt6 : Cond.initialized RX6 ∈ zW := zm 6 (by decide +kernel) (by decide +kernel)
theorem zt7 : Cond.initialized RX0 ∈ zW := zm 7 (by decide +kernel) (by decide +kernel)
theorem zt8 : Cond.initialized RX1 ∈ zW := zm 8 (by decide +kernel) (by decide +kernel)
theorem zt9 : Cond.initialized RX3 ∈ zW := zm 9 (by decide +kernel) (by decide +kernel)
theorem zt10 : Cond.initialized RX5 ∈ zW := zm 10 (by decide +kernel) (by decide +kernel)
theorem zt11 : Cond.initialized RX2 ∈ zW := zm 11 (by decide +kernel) (by decide +kernel)
theorem zt12 : Cond.initialized RX4 ∈ zW := zm 12 (by decide +kernel) (by decide +kernel)
theorem zt13 : Cond.classLink RL 15 RX6 ∈ zW := zm 13 (by decide +kernel) (by decide +kernel)
theorem zt14 : Cond.instantiable RX6 6 ∈ zW := zm 14 (by decide +kernel) (by decide +kernel)
theorem zt15 : Cond.methodLink RL 101 yX6_init ∈ zW := zm 15 (by decide +kernel) (by decide +kernel)
theorem zt16 : Cond.instanceMethod yX6_init ∈ zW := zm 16 (by decide +kernel) (by decide +kernel)
theorem zt17 : Cond.code yX6_init cX6_init 1 none ∈ zW := zm 17 (by decide +kernel) (by decide +kernel)
theorem zt18 : Cond.methodLink RX6 1 objectInit ∈ zW := zm 18 (by decide +kernel) (by decide +kernel)
theorem zt19 : Cond.instanceMethod objectInit ∈ zW := zm 19 (by decide +kernel) (by decide +kernel)
theorem zt20 : Cond.code objectInit ⟨#[0xb1]⟩ 1 none ∈ zW := zm 20 (by decide +kernel) (by decide +kernel)
theorem zt21 : Cond.classLink RX6 7 RX0 ∈ zW := zm 21 (by decide +kernel) (by decide +kernel)
theorem zt22 : Cond.instantiable RX0 6 ∈ zW := zm 22 (by decide +kernel) (by decide +kernel)
theorem zt23 : Cond.methodLink RX6 9 yX0_init ∈ zW := zm 23 (by decide +kernel) (by decide +kernel)
theorem zt24 : Cond.instanceMethod yX0_init ∈ zW := zm 24 (by decide +kernel) (by decide +kernel)
theorem zt25 : Cond.code yX0_init cX0_init 2 none ∈ zW := zm 25 (by decide +kernel) (by decide +kernel)
theorem zt26 : Cond.methodLink RX0 3 objectInit ∈ zW := zm 26 (by decide +kernel) (by decide +kernel)
theorem zt27 : Cond.classLink RX0 9 RX1 ∈ zW := zm 27 (by decide +kernel) (by decide +kernel)
theorem zt29 : Cond.instantiable RX1 9 ∈ zW := zm 29 (by decide +kernel) (by decide +kernel)
theorem zt31 : Cond.instanceMethod yX1_init ∈ zW := zm 31 (by decide +kernel) (by decide +kernel)
theorem zt32 : Cond.code yX1_init cX1_init 1 none ∈ zW := zm 32 (by decide +kernel) (by decide +kernel)
theorem zt33 : Cond.methodLink RX1 3 objectInit ∈ zW := zm 33 (by decide +kernel) (by decide +kernel)
theorem zt34 : Cond.fieldLink RX1 9 "ScanChain$Chip" "codeLength" "I" ∈ zW := zm 34 (by decide +kernel) (by decide +kernel)
theorem zt37 : Cond.fieldLink RX1 15 "ScanChain$Chip" "identity" "I" ∈ zW := zm 37 (by decide +kernel) (by decide +kernel)
theorem zt39 : Cond.fieldLink RX1 18 "ScanChain$Chip" "cells" "I" ∈ zW := zm 39 (by decide +kernel) (by decide +kernel)
theorem zt40 : Cond.fieldLink RX1 21 "ScanChain$Chip" "pins" "I" ∈ zW := zm 40 (by decide +kernel) (by decide +kernel)
theorem zt41 : Cond.fieldLink RX1 24 "ScanChain$Chip" "outputs" "I" ∈ zW := zm 41 (by decide +kernel) (by decide +kernel)
theorem zt42 : Cond.fieldLink RX1 27 "ScanChain$Chip" "isBroken" "Z" ∈ zW := zm 42 (by decide +kernel) (by decide +kernel)
theorem zt45 : Cond.fieldLink RX1 37 "ScanChain$Chip" "instruction" "I" ∈ zW := zm 45 (by decide +kernel) (by decide +kernel)
theorem zt46 : Cond.fieldLink RX1 31 "ScanChain$Chip" "codeRegister" "I" ∈ zW := zm 46 (by decide +kernel) (by decide +kernel)
theorem zt48 : Cond.fieldLink RX1 40 "ScanChain$Chip" "dataRegister" "I" ∈ zW := zm 48 (by decide +kernel) (by decide +kernel)
theorem zt68 : Cond.fieldLink RX0 11 "ScanChain$Chain" "chips" "[LScanChain$Chip;" ∈ zW := zm 68 (by decide +kernel) (by decide +kernel)
theorem zt71 : Cond.fieldLink RX0 18 "ScanChain$Chain" "size" "I" ∈ zW := zm 71 (by decide +kernel) (by decide +kernel)
theorem zt74 : Cond.fieldLink RX0 24 "ScanChain$Chain" "state" "I" ∈ zW := zm 74 (by decide +kernel) (by decide +kernel)
theorem zt77 : Cond.fieldLink RX0 27 "ScanChain$Chain" "clocks" "I" ∈ zW := zm 77 (by decide +kernel) (by decide +kernel)
theorem zt79 : Cond.fieldLink RX0 30 "ScanChain$Chain" "identities" "[I" ∈ zW := zm 79 (by decide +kernel) (by decide +kernel)
theorem zt81 : Cond.fieldLink RX0 34 "ScanChain$Chain" "identityCount" "I" ∈ zW := zm 81 (by decide +kernel) (by decide +kernel)
theorem zt97 : Cond.arrayClass .int ∈ zW := zm 97 (by decide +kernel) (by decide +kernel)
theorem zt98 : Cond.classLink RX6 26 RX3 ∈ zW := zm 98 (by decide +kernel) (by decide +kernel)
theorem zt99 : Cond.instantiable RX3 2 ∈ zW := zm 99 (by decide +kernel) (by decide +kernel)
theorem zt100 : Cond.methodLink RX6 28 yX3_init ∈ zW := zm 100 (by decide +kernel) (by decide +kernel)
theorem zt101 : Cond.instanceMethod yX3_init ∈ zW := zm 101 (by decide +kernel) (by decide +kernel)
theorem zt102 : Cond.code yX3_init cX3_init 2 none ∈ zW := zm 102 (by decide +kernel) (by decide +kernel)
theorem zt103 : Cond.methodLink RX3 3 objectInit ∈ zW := zm 103 (by decide +kernel) (by decide +kernel)
theorem zt104 : Cond.classLink RX3 9 RX0 ∈ zW := zm 104 (by decide +kernel) (by decide +kernel)
theorem zt106 : Cond.methodLink RX3 17 yX0_init ∈ zW := zm 106 (by decide +kernel) (by decide +kernel)
theorem zt107 : Cond.fieldLink RX3 11 "ScanChain$History" "records" "[LScanChain$Chain;" ∈ zW := zm 107 (by decide +kernel) (by decide +kernel)
theorem zt108 : Cond.fieldLink RX3 18 "ScanChain$History" "size" "I" ∈ zW := zm 108 (by decide +kernel) (by decide +kernel)
theorem zt115 : Cond.classLink RX6 33 RX5 ∈ zW := zm 115 (by decide +kernel) (by decide +kernel)
theorem zt116 : Cond.instantiable RX5 2 ∈ zW := zm 116 (by decide +kernel) (by decide +kernel)
theorem zt117 : Cond.methodLink RX6 35 yX5_init ∈ zW := zm 117 (by decide +kernel) (by decide +kernel)
theorem zt118 : Cond.instanceMethod yX5_init ∈ zW := zm 118 (by decide +kernel) (by decide +kernel)
theorem zt119 : Cond.code yX5_init cX5_init 1 none ∈ zW := zm 119 (by decide +kernel) (by decide +kernel)
theorem zt120 : Cond.methodLink RX5 3 objectInit ∈ zW := zm 120 (by decide +kernel) (by decide +kernel)
theorem zt121 : Cond.fieldLink RX5 9 "ScanChain$Script" "characters" "[C" ∈ zW := zm 121 (by decide +kernel) (by decide +kernel)
theorem zt123 : Cond.fieldLink RX5 15 "ScanChain$Script" "length" "I" ∈ zW := zm 123 (by decide +kernel) (by decide +kernel)
theorem zt131 : Cond.arrayClass .char ∈ zW := zm 131 (by decide +kernel) (by decide +kernel)
theorem zt132 : Cond.fieldLink RX6 10 "ScanChain" "chain" "LScanChain$Chain;" ∈ zW := zm 132 (by decide +kernel) (by decide +kernel)
theorem zt133 : Cond.fieldLink RX6 16 "ScanChain" "trial" "LScanChain$Chain;" ∈ zW := zm 133 (by decide +kernel) (by decide +kernel)
theorem zt134 : Cond.fieldLink RX6 19 "ScanChain" "snapshot" "LScanChain$Chain;" ∈ zW := zm 134 (by decide +kernel) (by decide +kernel)
theorem zt135 : Cond.fieldLink RX6 22 "ScanChain" "hasSnapshot" "Z" ∈ zW := zm 135 (by decide +kernel) (by decide +kernel)
theorem zt136 : Cond.fieldLink RX6 29 "ScanChain" "history" "LScanChain$History;" ∈ zW := zm 136 (by decide +kernel) (by decide +kernel)
theorem zt137 : Cond.fieldLink RX6 36 "ScanChain" "script" "LScanChain$Script;" ∈ zW := zm 137 (by decide +kernel) (by decide +kernel)
theorem zt151 : Cond.methodLink RL 102 yX6_undo ∈ zW := zm 151 (by decide +kernel) (by decide +kernel)
theorem zt152 : Cond.instanceMethod yX6_undo ∈ zW := zm 152 (by decide +kernel) (by decide +kernel)
theorem zt153 : Cond.selects RX6 yX6_undo yX6_undo ∈ zW := zm 153 (by decide +kernel) (by decide +kernel)
theorem zt154 : Cond.code yX6_undo cX6_undo 1 (some .int) ∈ zW := zm 154 (by decide +kernel) (by decide +kernel)
theorem zt155 : Cond.methodLink RX6 132 yX3_takeBack ∈ zW := zm 155 (by decide +kernel) (by decide +kernel)
theorem zt156 : Cond.instanceMethod yX3_takeBack ∈ zW := zm 156 (by decide +kernel) (by decide +kernel)
theorem zt157 : Cond.selects RX3 yX3_takeBack yX3_takeBack ∈ zW := zm 157 (by decide +kernel) (by decide +kernel)
theorem zt158 : Cond.code yX3_takeBack cX3_takeBack 2 (some .int) ∈ zW := zm 158 (by decide +kernel) (by decide +kernel)
theorem zt159 : Cond.methodLink RX3 25 yX0_becomeCopyOf ∈ zW := zm 159 (by decide +kernel) (by decide +kernel)
theorem zt160 : Cond.instanceMethod yX0_becomeCopyOf ∈ zW := zm 160 (by decide +kernel) (by decide +kernel)
theorem zt161 : Cond.selects RX0 yX0_becomeCopyOf yX0_becomeCopyOf ∈ zW := zm 161 (by decide +kernel) (by decide +kernel)
theorem zt162 : Cond.code yX0_becomeCopyOf cX0_becomeCopyOf 3 none ∈ zW := zm 162 (by decide +kernel) (by decide +kernel)
theorem zt163 : Cond.methodLink RX0 37 yX1_becomeCopyOf ∈ zW := zm 163 (by decide +kernel) (by decide +kernel)
theorem zt164 : Cond.instanceMethod yX1_becomeCopyOf ∈ zW := zm 164 (by decide +kernel) (by decide +kernel)
theorem zt165 : Cond.selects RX1 yX1_becomeCopyOf yX1_becomeCopyOf ∈ zW := zm 165 (by decide +kernel) (by decide +kernel)
theorem zt166 : Cond.code yX1_becomeCopyOf cX1_becomeCopyOf 2 none ∈ zW := zm 166 (by decide +kernel) (by decide +kernel)
theorem zt167 : Cond.methodLink RL 111 yX6_save ∈ zW := zm 167 (by decide +kernel) (by decide +kernel)
theorem zt168 : Cond.instanceMethod yX6_save ∈ zW := zm 168 (by decide +kernel) (by decide +kernel)
theorem zt169 : Cond.selects RX6 yX6_save yX6_save ∈ zW := zm 169 (by decide +kernel) (by decide +kernel)
theorem zt170 : Cond.code yX6_save cX6_save 1 (some .int) ∈ zW := zm 170 (by decide +kernel) (by decide +kernel)
theorem zt171 : Cond.methodLink RX6 135 yX0_becomeCopyOf ∈ zW := zm 171 (by decide +kernel) (by decide +kernel)
theorem zt172 : Cond.methodLink RL 105 yX6_restore ∈ zW := zm 172 (by decide +kernel) (by decide +kernel)
theorem zt173 : Cond.instanceMethod yX6_restore ∈ zW := zm 173 (by decide +kernel) (by decide +kernel)
theorem zt174 : Cond.selects RX6 yX6_restore yX6_restore ∈ zW := zm 174 (by decide +kernel) (by decide +kernel)
theorem zt175 : Cond.code yX6_restore cX6_restore 1 (some .int) ∈ zW := zm 175 (by decide +kernel) (by decide +kernel)
theorem zt176 : Cond.methodLink RX6 52 yX3_record ∈ zW := zm 176 (by decide +kernel) (by decide +kernel)
theorem zt177 : Cond.instanceMethod yX3_record ∈ zW := zm 177 (by decide +kernel) (by decide +kernel)
theorem zt178 : Cond.selects RX3 yX3_record yX3_record ∈ zW := zm 178 (by decide +kernel) (by decide +kernel)
theorem zt179 : Cond.code yX3_record cX3_record 2 none ∈ zW := zm 179 (by decide +kernel) (by decide +kernel)
theorem zt180 : Cond.methodLink RX3 22 yX3_dropOldest ∈ zW := zm 180 (by decide +kernel) (by decide +kernel)
theorem zt182 : Cond.instanceMethod yX3_dropOldest ∈ zW := zm 182 (by decide +kernel) (by decide +kernel)
theorem zt183 : Cond.code yX3_dropOldest cX3_dropOldest 3 none ∈ zW := zm 183 (by decide +kernel) (by decide +kernel)
theorem zt184 : Cond.methodLink RL 14 yX6_count ∈ zW := zm 184 (by decide +kernel) (by decide +kernel)
theorem zt185 : Cond.instanceMethod yX6_count ∈ zW := zm 185 (by decide +kernel) (by decide +kernel)
theorem zt186 : Cond.selects RX6 yX6_count yX6_count ∈ zW := zm 186 (by decide +kernel) (by decide +kernel)
theorem zt187 : Cond.code yX6_count cX6_count 2 (some .int) ∈ zW := zm 187 (by decide +kernel) (by decide +kernel)
theorem zt188 : Cond.methodLink RX6 79 yX0_brokenChips ∈ zW := zm 188 (by decide +kernel) (by decide +kernel)
theorem zt189 : Cond.instanceMethod yX0_brokenChips ∈ zW := zm 189 (by decide +kernel) (by decide +kernel)
theorem zt190 : Cond.selects RX0 yX0_brokenChips yX0_brokenChips ∈ zW := zm 190 (by decide +kernel) (by decide +kernel)
theorem zt191 : Cond.code yX0_brokenChips cX0_brokenChips 3 (some .int) ∈ zW := zm 191 (by decide +kernel) (by decide +kernel)
theorem zt192 : Cond.methodLink RX6 147 yX0_sumOfCodeLengths ∈ zW := zm 192 (by decide +kernel) (by decide +kernel)
theorem zt193 : Cond.instanceMethod yX0_sumOfCodeLengths ∈ zW := zm 193 (by decide +kernel) (by decide +kernel)
theorem zt194 : Cond.selects RX0 yX0_sumOfCodeLengths yX0_sumOfCodeLengths ∈ zW := zm 194 (by decide +kernel) (by decide +kernel)
theorem zt195 : Cond.code yX0_sumOfCodeLengths cX0_sumOfCodeLengths 3 (some .int) ∈ zW := zm 195 (by decide +kernel) (by decide +kernel)
theorem zt196 : Cond.methodLink RX6 150 yX0_sumOfDataBits ∈ zW := zm 196 (by decide +kernel) (by decide +kernel)
theorem zt197 : Cond.instanceMethod yX0_sumOfDataBits ∈ zW := zm 197 (by decide +kernel) (by decide +kernel)
theorem zt198 : Cond.selects RX0 yX0_sumOfDataBits yX0_sumOfDataBits ∈ zW := zm 198 (by decide +kernel) (by decide +kernel)
theorem zt199 : Cond.code yX0_sumOfDataBits cX0_sumOfDataBits 3 (some .int) ∈ zW := zm 199 (by decide +kernel) (by decide +kernel)
theorem zt200 : Cond.methodLink RX0 59 yX1_dataBits ∈ zW := zm 200 (by decide +kernel) (by decide +kernel)
theorem zt201 : Cond.instanceMethod yX1_dataBits ∈ zW := zm 201 (by decide +kernel) (by decide +kernel)
theorem zt202 : Cond.selects RX1 yX1_dataBits yX1_dataBits ∈ zW := zm 202 (by decide +kernel) (by decide +kernel)
theorem zt203 : Cond.code yX1_dataBits cX1_dataBits 1 (some .int) ∈ zW := zm 203 (by decide +kernel) (by decide +kernel)
theorem zt204 : Cond.methodLink RX1 47 yX1_selectsCells ∈ zW := zm 204 (by decide +kernel) (by decide +kernel)
theorem zt205 : Cond.instanceMethod yX1_selectsCells ∈ zW := zm 205 (by decide +kernel) (by decide +kernel)
theorem zt206 : Cond.selects RX1 yX1_selectsCells yX1_selectsCells ∈ zW := zm 206 (by decide +kernel) (by decide +kernel)
theorem zt207 : Cond.code yX1_selectsCells cX1_selectsCells 1 (some .boolean) ∈ zW := zm 207 (by decide +kernel) (by decide +kernel)
theorem zt208 : Cond.methodLink RX1 51 yX1_selectsIdentity ∈ zW := zm 208 (by decide +kernel) (by decide +kernel)
theorem zt209 : Cond.instanceMethod yX1_selectsIdentity ∈ zW := zm 209 (by decide +kernel) (by decide +kernel)
theorem zt210 : Cond.selects RX1 yX1_selectsIdentity yX1_selectsIdentity ∈ zW := zm 210 (by decide +kernel) (by decide +kernel)
theorem zt211 : Cond.code yX1_selectsIdentity cX1_selectsIdentity 1 (some .boolean) ∈ zW := zm 211 (by decide +kernel) (by decide +kernel)
theorem zt212 : Cond.methodLink RL 114 yL_cell ∈ zW := zm 212 (by decide +kernel) (by decide +kernel)
theorem zt213 : Cond.static yL_cell ∈ zW := zm 213 (by decide +kernel) (by decide +kernel)
theorem zt214 : Cond.code yL_cell cL_cell 2 (some .int) ∈ zW := zm 214 rfl (by decide +kernel)
theorem zt215 : Cond.constant RL 7 (883997877 : Int32) ∈ zW := zm 215 (by decide +kernel) (by decide +kernel)
theorem zt216 : Cond.constant RL 8 (35023 : Int32) ∈ zW := zm 216 (by decide +kernel) (by decide +kernel)
theorem zt217 : Cond.constant RL 9 (2147483647 : Int32) ∈ zW := zm 217 (by decide +kernel) (by decide +kernel)
theorem zt218 : Cond.methodLink RL 81 yL_seen ∈ zW := zm 218 (by decide +kernel) (by decide +kernel)
theorem zt219 : Cond.static yL_seen ∈ zW := zm 219 (by decide +kernel) (by decide +kernel)
theorem zt220 : Cond.code yL_seen cL_seen 4 (some .long) ∈ zW := zm 220 rfl (by decide +kernel)
theorem zt221 : Cond.constantLong RL 10 (109 : Int64) ∈ zW := zm 221 (by decide +kernel) (by decide +kernel)
theorem zt222 : Cond.constantLong RL 12 (31 : Int64) ∈ zW := zm 222 (by decide +kernel) (by decide +kernel)
theorem zt223 : Cond.methodLink RL 20 yX6_chip ∈ zW := zm 223 (by decide +kernel) (by decide +kernel)
theorem zt224 : Cond.instanceMethod yX6_chip ∈ zW := zm 224 (by decide +kernel) (by decide +kernel)
theorem zt225 : Cond.selects RX6 yX6_chip yX6_chip ∈ zW := zm 225 (by decide +kernel) (by decide +kernel)
theorem zt226 : Cond.code yX6_chip cX6_chip 3 (some .int) ∈ zW := zm 226 (by decide +kernel) (by decide +kernel)
theorem zt227 : Cond.methodLink RX6 60 yX0_has ∈ zW := zm 227 (by decide +kernel) (by decide +kernel)
theorem zt228 : Cond.instanceMethod yX0_has ∈ zW := zm 228 (by decide +kernel) (by decide +kernel)
theorem zt229 : Cond.selects RX0 yX0_has yX0_has ∈ zW := zm 229 (by decide +kernel) (by decide +kernel)
theorem zt230 : Cond.code yX0_has cX0_has 2 (some .boolean) ∈ zW := zm 230 (by decide +kernel) (by decide +kernel)
theorem zt231 : Cond.methodLink RX6 138 yX1_tell ∈ zW := zm 231 (by decide +kernel) (by decide +kernel)
theorem zt232 : Cond.instanceMethod yX1_tell ∈ zW := zm 232 (by decide +kernel) (by decide +kernel)
theorem zt233 : Cond.selects RX1 yX1_tell yX1_tell ∈ zW := zm 233 (by decide +kernel) (by decide +kernel)
theorem zt234 : Cond.code yX1_tell cX1_tell 2 (some .int) ∈ zW := zm 234 (by decide +kernel) (by decide +kernel)
theorem zt235 : Cond.methodLink RX1 58 yX1_dataBits ∈ zW := zm 235 (by decide +kernel) (by decide +kernel)
theorem zt236 : Cond.methodLink RL 24 yX6_found ∈ zW := zm 236 (by decide +kernel) (by decide +kernel)
theorem zt237 : Cond.instanceMethod yX6_found ∈ zW := zm 237 (by decide +kernel) (by decide +kernel)
theorem zt238 : Cond.selects RX6 yX6_found yX6_found ∈ zW := zm 238 (by decide +kernel) (by decide +kernel)
theorem zt239 : Cond.code yX6_found cX6_found 2 (some .int) ∈ zW := zm 239 (by decide +kernel) (by decide +kernel)
theorem zt240 : Cond.methodLink RL 122 yL_isWhole ∈ zW := zm 240 (by decide +kernel) (by decide +kernel)
theorem zt241 : Cond.static yL_isWhole ∈ zW := zm 241 (by decide +kernel) (by decide +kernel)
theorem zt242 : Cond.code yL_isWhole cL_isWhole 15 (some .boolean) ∈ zW := zm 242 rfl (by decide +kernel)
theorem zt243 : Cond.methodLink RL 27 yX6_peek ∈ zW := zm 243 (by decide +kernel) (by decide +kernel)
theorem zt244 : Cond.instanceMethod yX6_peek ∈ zW := zm 244 (by decide +kernel) (by decide +kernel)
theorem zt245 : Cond.selects RX6 yX6_peek yX6_peek ∈ zW := zm 245 (by decide +kernel) (by decide +kernel)
theorem zt246 : Cond.code yX6_peek cX6_peek 2 (some .int) ∈ zW := zm 246 (by decide +kernel) (by decide +kernel)
theorem zt247 : Cond.methodLink RX6 40 yX6_isWithin ∈ zW := zm 247 (by decide +kernel) (by decide +kernel)
theorem zt248 : Cond.static yX6_isWithin ∈ zW := zm 248 (by decide +kernel) (by decide +kernel)
theorem zt249 : Cond.code yX6_isWithin cX6_isWithin 3 (some .boolean) ∈ zW := zm 249 (by decide +kernel) (by decide +kernel)
theorem zt250 : Cond.methodLink RX6 164 yX0_outputWith ∈ zW := zm 250 (by decide +kernel) (by decide +kernel)
theorem zt251 : Cond.instanceMethod yX0_outputWith ∈ zW := zm 251 (by decide +kernel) (by decide +kernel)
theorem zt252 : Cond.selects RX0 yX0_outputWith yX0_outputWith ∈ zW := zm 252 (by decide +kernel) (by decide +kernel)
theorem zt253 : Cond.code yX0_outputWith cX0_outputWith 3 (some .int) ∈ zW := zm 253 (by decide +kernel) (by decide +kernel)
theorem zt254 : Cond.methodLink RX0 81 yX1_dataOutput ∈ zW := zm 254 (by decide +kernel) (by decide +kernel)
theorem zt255 : Cond.instanceMethod yX1_dataOutput ∈ zW := zm 255 (by decide +kernel) (by decide +kernel)
theorem zt256 : Cond.selects RX1 yX1_dataOutput yX1_dataOutput ∈ zW := zm 256 (by decide +kernel) (by decide +kernel)
theorem zt257 : Cond.code yX1_dataOutput cX1_dataOutput 1 (some .int) ∈ zW := zm 257 (by decide +kernel) (by decide +kernel)
theorem zt258 : Cond.methodLink RX0 84 yX1_codeOutput ∈ zW := zm 258 (by decide +kernel) (by decide +kernel)
theorem zt259 : Cond.instanceMethod yX1_codeOutput ∈ zW := zm 259 (by decide +kernel) (by decide +kernel)
theorem zt260 : Cond.selects RX1 yX1_codeOutput yX1_codeOutput ∈ zW := zm 260 (by decide +kernel) (by decide +kernel)
theorem zt261 : Cond.code yX1_codeOutput cX1_codeOutput 1 (some .int) ∈ zW := zm 261 (by decide +kernel) (by decide +kernel)
theorem zt262 : Cond.methodLink RL 30 yX6_bypassed ∈ zW := zm 262 (by decide +kernel) (by decide +kernel)
theorem zt263 : Cond.instanceMethod yX6_bypassed ∈ zW := zm 263 (by decide +kernel) (by decide +kernel)
theorem zt264 : Cond.selects RX6 yX6_bypassed yX6_bypassed ∈ zW := zm 264 (by decide +kernel) (by decide +kernel)
theorem zt265 : Cond.code yX6_bypassed cX6_bypassed 1 (some .float) ∈ zW := zm 265 (by decide +kernel) (by decide +kernel)
theorem zt266 : Cond.methodLink RX6 167 yX0_bypassedChips ∈ zW := zm 266 (by decide +kernel) (by decide +kernel)
theorem zt267 : Cond.instanceMethod yX0_bypassedChips ∈ zW := zm 267 (by decide +kernel) (by decide +kernel)
theorem zt268 : Cond.selects RX0 yX0_bypassedChips yX0_bypassedChips ∈ zW := zm 268 (by decide +kernel) (by decide +kernel)
theorem zt269 : Cond.code yX0_bypassedChips cX0_bypassedChips 3 (some .int) ∈ zW := zm 269 (by decide +kernel) (by decide +kernel)
theorem zt270 : Cond.methodLink RX0 52 yX1_selectsBypass ∈ zW := zm 270 (by decide +kernel) (by decide +kernel)
theorem zt271 : Cond.instanceMethod yX1_selectsBypass ∈ zW := zm 271 (by decide +kernel) (by decide +kernel)
theorem zt272 : Cond.selects RX1 yX1_selectsBypass yX1_selectsBypass ∈ zW := zm 272 (by decide +kernel) (by decide +kernel)
theorem zt273 : Cond.code yX1_selectsBypass cX1_selectsBypass 1 (some .boolean) ∈ zW := zm 273 (by decide +kernel) (by decide +kernel)
theorem zt274 : Cond.methodLink RL 108 yL_refuses ∈ zW := zm 274 (by decide +kernel) (by decide +kernel)
theorem zt275 : Cond.static yL_refuses ∈ zW := zm 275 (by decide +kernel) (by decide +kernel)
theorem zt276 : Cond.code yL_refuses cL_refuses 5 (some .boolean) ∈ zW := zm 276 rfl (by decide +kernel)
theorem zt277 : Cond.methodLink RL 85 yL_refusesAny ∈ zW := zm 277 (by decide +kernel) (by decide +kernel)
theorem zt278 : Cond.static yL_refusesAny ∈ zW := zm 278 (by decide +kernel) (by decide +kernel)
theorem zt279 : Cond.code yL_refusesAny cL_refusesAny 7 (some .boolean) ∈ zW := zm 279 rfl (by decide +kernel)
theorem zt280 : Cond.methodLink RL 34 yX6_add ∈ zW := zm 280 (by decide +kernel) (by decide +kernel)
theorem zt281 : Cond.instanceMethod yX6_add ∈ zW := zm 281 (by decide +kernel) (by decide +kernel)
theorem zt282 : Cond.selects RX6 yX6_add yX6_add ∈ zW := zm 282 (by decide +kernel) (by decide +kernel)
theorem zt283 : Cond.code yX6_add cX6_add 4 (some .int) ∈ zW := zm 283 (by decide +kernel) (by decide +kernel)
theorem zt284 : Cond.methodLink RX6 44 yX6_isIdentity ∈ zW := zm 284 (by decide +kernel) (by decide +kernel)
theorem zt285 : Cond.static yX6_isIdentity ∈ zW := zm 285 (by decide +kernel) (by decide +kernel)
theorem zt286 : Cond.code yX6_isIdentity cX6_isIdentity 1 (some .boolean) ∈ zW := zm 286 (by decide +kernel) (by decide +kernel)
theorem zt287 : Cond.methodLink RX6 56 yX0_putBehind ∈ zW := zm 287 (by decide +kernel) (by decide +kernel)
theorem zt288 : Cond.instanceMethod yX0_putBehind ∈ zW := zm 288 (by decide +kernel) (by decide +kernel)
theorem zt289 : Cond.selects RX0 yX0_putBehind yX0_putBehind ∈ zW := zm 289 (by decide +kernel) (by decide +kernel)
theorem zt290 : Cond.code yX0_putBehind cX0_putBehind 5 (some .int) ∈ zW := zm 290 (by decide +kernel) (by decide +kernel)
theorem zt291 : Cond.methodLink RX0 41 yX1_beNew ∈ zW := zm 291 (by decide +kernel) (by decide +kernel)
theorem zt292 : Cond.instanceMethod yX1_beNew ∈ zW := zm 292 (by decide +kernel) (by decide +kernel)
theorem zt293 : Cond.selects RX1 yX1_beNew yX1_beNew ∈ zW := zm 293 (by decide +kernel) (by decide +kernel)
theorem zt294 : Cond.code yX1_beNew cX1_beNew 4 none ∈ zW := zm 294 (by decide +kernel) (by decide +kernel)
theorem zt295 : Cond.methodLink RX1 34 yX1_giveFirstInstruction ∈ zW := zm 295 (by decide +kernel) (by decide +kernel)
theorem zt296 : Cond.instanceMethod yX1_giveFirstInstruction ∈ zW := zm 296 (by decide +kernel) (by decide +kernel)
theorem zt297 : Cond.selects RX1 yX1_giveFirstInstruction yX1_giveFirstInstruction ∈ zW := zm 297 (by decide +kernel) (by decide +kernel)
theorem zt298 : Cond.code yX1_giveFirstInstruction cX1_giveFirstInstruction 1 none ∈ zW := zm 298 (by decide +kernel) (by decide +kernel)
theorem zt300 : Cond.static yX6_allOnes ∈ zW := zm 300 (by decide +kernel) (by decide +kernel)
theorem zt301 : Cond.code yX6_allOnes cX6_allOnes 1 (some .int) ∈ zW := zm 301 (by decide +kernel) (by decide +kernel)
theorem zt302 : Cond.methodLink RX1 54 yX1_giveInstruction ∈ zW := zm 302 (by decide +kernel) (by decide +kernel)
theorem zt303 : Cond.instanceMethod yX1_giveInstruction ∈ zW := zm 303 (by decide +kernel) (by decide +kernel)
theorem zt304 : Cond.selects RX1 yX1_giveInstruction yX1_giveInstruction ∈ zW := zm 304 (by decide +kernel) (by decide +kernel)
theorem zt305 : Cond.code yX1_giveInstruction cX1_giveInstruction 2 none ∈ zW := zm 305 (by decide +kernel) (by decide +kernel)
theorem zt306 : Cond.methodLink RL 40 yX6_take ∈ zW := zm 306 (by decide +kernel) (by decide +kernel)
theorem zt307 : Cond.instanceMethod yX6_take ∈ zW := zm 307 (by decide +kernel) (by decide +kernel)
theorem zt308 : Cond.selects RX6 yX6_take yX6_take ∈ zW := zm 308 (by decide +kernel) (by decide +kernel)
theorem zt309 : Cond.code yX6_take cX6_take 2 (some .int) ∈ zW := zm 309 (by decide +kernel) (by decide +kernel)
theorem zt310 : Cond.methodLink RX6 63 yX0_takeOut ∈ zW := zm 310 (by decide +kernel) (by decide +kernel)
theorem zt311 : Cond.instanceMethod yX0_takeOut ∈ zW := zm 311 (by decide +kernel) (by decide +kernel)
theorem zt312 : Cond.selects RX0 yX0_takeOut yX0_takeOut ∈ zW := zm 312 (by decide +kernel) (by decide +kernel)
theorem zt313 : Cond.code yX0_takeOut cX0_takeOut 4 (some .int) ∈ zW := zm 313 (by decide +kernel) (by decide +kernel)
theorem zt314 : Cond.methodLink RL 43 yX6_setPins ∈ zW := zm 314 (by decide +kernel) (by decide +kernel)
theorem zt315 : Cond.instanceMethod yX6_setPins ∈ zW := zm 315 (by decide +kernel) (by decide +kernel)
theorem zt316 : Cond.selects RX6 yX6_setPins yX6_setPins ∈ zW := zm 316 (by decide +kernel) (by decide +kernel)
theorem zt317 : Cond.code yX6_setPins cX6_setPins 3 (some .int) ∈ zW := zm 317 (by decide +kernel) (by decide +kernel)
theorem zt318 : Cond.methodLink RX6 71 yX1_changePins ∈ zW := zm 318 (by decide +kernel) (by decide +kernel)
theorem zt319 : Cond.instanceMethod yX1_changePins ∈ zW := zm 319 (by decide +kernel) (by decide +kernel)
theorem zt320 : Cond.selects RX1 yX1_changePins yX1_changePins ∈ zW := zm 320 (by decide +kernel) (by decide +kernel)
theorem zt321 : Cond.code yX1_changePins cX1_changePins 3 (some .int) ∈ zW := zm 321 (by decide +kernel) (by decide +kernel)
theorem zt322 : Cond.methodLink RL 46 yX6_breakChip ∈ zW := zm 322 (by decide +kernel) (by decide +kernel)
theorem zt323 : Cond.instanceMethod yX6_breakChip ∈ zW := zm 323 (by decide +kernel) (by decide +kernel)
theorem zt324 : Cond.selects RX6 yX6_breakChip yX6_breakChip ∈ zW := zm 324 (by decide +kernel) (by decide +kernel)
theorem zt325 : Cond.code yX6_breakChip cX6_breakChip 3 (some .int) ∈ zW := zm 325 (by decide +kernel) (by decide +kernel)
theorem zt326 : Cond.methodLink RL 50 yX6_clock ∈ zW := zm 326 (by decide +kernel) (by decide +kernel)
theorem zt327 : Cond.instanceMethod yX6_clock ∈ zW := zm 327 (by decide +kernel) (by decide +kernel)
theorem zt328 : Cond.selects RX6 yX6_clock yX6_clock ∈ zW := zm 328 (by decide +kernel) (by decide +kernel)
theorem zt329 : Cond.code yX6_clock cX6_clock 3 (some .int) ∈ zW := zm 329 (by decide +kernel) (by decide +kernel)
theorem zt330 : Cond.methodLink RX6 83 yX0_tick ∈ zW := zm 330 (by decide +kernel) (by decide +kernel)
theorem zt331 : Cond.instanceMethod yX0_tick ∈ zW := zm 331 (by decide +kernel) (by decide +kernel)
theorem zt332 : Cond.selects RX0 yX0_tick yX0_tick ∈ zW := zm 332 (by decide +kernel) (by decide +kernel)
theorem zt333 : Cond.code yX0_tick cX0_tick 5 (some .int) ∈ zW := zm 333 (by decide +kernel) (by decide +kernel)
theorem zt334 : Cond.methodLink RX0 63 yX0_outputWith ∈ zW := zm 334 (by decide +kernel) (by decide +kernel)
theorem zt335 : Cond.methodLink RX0 67 yX0_shiftAllData ∈ zW := zm 335 (by decide +kernel) (by decide +kernel)
theorem zt337 : Cond.instanceMethod yX0_shiftAllData ∈ zW := zm 337 (by decide +kernel) (by decide +kernel)
theorem zt338 : Cond.code yX0_shiftAllData cX0_shiftAllData 5 none ∈ zW := zm 338 (by decide +kernel) (by decide +kernel)
theorem zt339 : Cond.methodLink RX0 102 yX1_shiftData ∈ zW := zm 339 (by decide +kernel) (by decide +kernel)
theorem zt340 : Cond.instanceMethod yX1_shiftData ∈ zW := zm 340 (by decide +kernel) (by decide +kernel)
theorem zt341 : Cond.selects RX1 yX1_shiftData yX1_shiftData ∈ zW := zm 341 (by decide +kernel) (by decide +kernel)
theorem zt342 : Cond.code yX1_shiftData cX1_shiftData 2 none ∈ zW := zm 342 (by decide +kernel) (by decide +kernel)
theorem zt343 : Cond.methodLink RX1 62 yX1_shifted ∈ zW := zm 343 (by decide +kernel) (by decide +kernel)
theorem zt344 : Cond.static yX1_shifted ∈ zW := zm 344 (by decide +kernel) (by decide +kernel)
theorem zt345 : Cond.code yX1_shifted cX1_shifted 3 (some .int) ∈ zW := zm 345 (by decide +kernel) (by decide +kernel)
theorem zt346 : Cond.methodLink RX0 71 yX0_shiftAllCodes ∈ zW := zm 346 (by decide +kernel) (by decide +kernel)
theorem zt348 : Cond.instanceMethod yX0_shiftAllCodes ∈ zW := zm 348 (by decide +kernel) (by decide +kernel)
theorem zt349 : Cond.code yX0_shiftAllCodes cX0_shiftAllCodes 5 none ∈ zW := zm 349 (by decide +kernel) (by decide +kernel)
theorem zt350 : Cond.methodLink RX0 105 yX1_shiftCode ∈ zW := zm 350 (by decide +kernel) (by decide +kernel)
theorem zt351 : Cond.instanceMethod yX1_shiftCode ∈ zW := zm 351 (by decide +kernel) (by decide +kernel)
theorem zt352 : Cond.selects RX1 yX1_shiftCode yX1_shiftCode ∈ zW := zm 352 (by decide +kernel) (by decide +kernel)
theorem zt353 : Cond.code yX1_shiftCode cX1_shiftCode 2 none ∈ zW := zm 353 (by decide +kernel) (by decide +kernel)
theorem zt354 : Cond.methodLink RX0 74 yX0_workOf ∈ zW := zm 354 (by decide +kernel) (by decide +kernel)
theorem zt356 : Cond.instanceMethod yX0_workOf ∈ zW := zm 356 (by decide +kernel) (by decide +kernel)
theorem zt357 : Cond.code yX0_workOf cX0_workOf 2 none ∈ zW := zm 357 (by decide +kernel) (by decide +kernel)
theorem zt358 : Cond.methodLink RX0 87 yX1_giveFirstInstruction ∈ zW := zm 358 (by decide +kernel) (by decide +kernel)
theorem zt359 : Cond.methodLink RX0 90 yX1_captureData ∈ zW := zm 359 (by decide +kernel) (by decide +kernel)
theorem zt360 : Cond.instanceMethod yX1_captureData ∈ zW := zm 360 (by decide +kernel) (by decide +kernel)
theorem zt361 : Cond.selects RX1 yX1_captureData yX1_captureData ∈ zW := zm 361 (by decide +kernel) (by decide +kernel)
theorem zt362 : Cond.code yX1_captureData cX1_captureData 1 none ∈ zW := zm 362 (by decide +kernel) (by decide +kernel)
theorem zt363 : Cond.methodLink RX0 93 yX1_updateData ∈ zW := zm 363 (by decide +kernel) (by decide +kernel)
theorem zt364 : Cond.instanceMethod yX1_updateData ∈ zW := zm 364 (by decide +kernel) (by decide +kernel)
theorem zt365 : Cond.selects RX1 yX1_updateData yX1_updateData ∈ zW := zm 365 (by decide +kernel) (by decide +kernel)
theorem zt366 : Cond.code yX1_updateData cX1_updateData 1 none ∈ zW := zm 366 (by decide +kernel) (by decide +kernel)
theorem zt367 : Cond.methodLink RX0 99 yX1_giveInstruction ∈ zW := zm 367 (by decide +kernel) (by decide +kernel)
theorem zt368 : Cond.methodLink RX0 77 yX2_next ∈ zW := zm 368 (by decide +kernel) (by decide +kernel)
theorem zt369 : Cond.static yX2_next ∈ zW := zm 369 (by decide +kernel) (by decide +kernel)
theorem zt370 : Cond.code yX2_next cX2_next 2 (some .int) ∈ zW := zm 370 (by decide +kernel) (by decide +kernel)
theorem zt371 : Cond.methodLink RX2 9 yX2_isState ∈ zW := zm 371 (by decide +kernel) (by decide +kernel)
theorem zt372 : Cond.static yX2_isState ∈ zW := zm 372 (by decide +kernel) (by decide +kernel)
theorem zt373 : Cond.code yX2_isState cX2_isState 1 (some .boolean) ∈ zW := zm 373 (by decide +kernel) (by decide +kernel)
theorem zt374 : Cond.fieldLink RX2 13 "ScanChain$Controller" "NEXT_BY_MODE_0" "[I" ∈ zW := zm 374 (by decide +kernel) (by decide +kernel)
theorem zt376 : Cond.fieldLink RX2 17 "ScanChain$Controller" "NEXT_BY_MODE_1" "[I" ∈ zW := zm 376 (by decide +kernel) (by decide +kernel)
theorem zt378 : Cond.methodLink RL 53 yX6_move ∈ zW := zm 378 (by decide +kernel) (by decide +kernel)
theorem zt379 : Cond.instanceMethod yX6_move ∈ zW := zm 379 (by decide +kernel) (by decide +kernel)
theorem zt380 : Cond.selects RX6 yX6_move yX6_move ∈ zW := zm 380 (by decide +kernel) (by decide +kernel)
theorem zt381 : Cond.code yX6_move cX6_move 2 (some .int) ∈ zW := zm 381 (by decide +kernel) (by decide +kernel)
theorem zt382 : Cond.methodLink RX6 87 yX2_isState ∈ zW := zm 382 (by decide +kernel) (by decide +kernel)
theorem zt383 : Cond.methodLink RX6 92 yX4_goTo ∈ zW := zm 383 (by decide +kernel) (by decide +kernel)
theorem zt384 : Cond.static yX4_goTo ∈ zW := zm 384 (by decide +kernel) (by decide +kernel)
theorem zt385 : Cond.code yX4_goTo cX4_goTo 6 (some .int) ∈ zW := zm 385 (by decide +kernel) (by decide +kernel)
theorem zt386 : Cond.methodLink RX4 15 yX2_clocksBetween ∈ zW := zm 386 (by decide +kernel) (by decide +kernel)
theorem zt387 : Cond.static yX2_clocksBetween ∈ zW := zm 387 (by decide +kernel) (by decide +kernel)
theorem zt388 : Cond.code yX2_clocksBetween cX2_clocksBetween 4 (some .int) ∈ zW := zm 388 (by decide +kernel) (by decide +kernel)
theorem zt389 : Cond.methodLink RX2 20 yX2_nextOfAll ∈ zW := zm 389 (by decide +kernel) (by decide +kernel)
theorem zt390 : Cond.static yX2_nextOfAll ∈ zW := zm 390 (by decide +kernel) (by decide +kernel)
theorem zt391 : Cond.code yX2_nextOfAll cX2_nextOfAll 3 (some .int) ∈ zW := zm 391 (by decide +kernel) (by decide +kernel)
theorem zt392 : Cond.methodLink RX2 24 yX2_next ∈ zW := zm 392 (by decide +kernel) (by decide +kernel)
theorem zt393 : Cond.methodLink RX4 21 yX2_next ∈ zW := zm 393 (by decide +kernel) (by decide +kernel)
theorem zt394 : Cond.methodLink RX4 24 yX0_tick ∈ zW := zm 394 (by decide +kernel) (by decide +kernel)
theorem zt395 : Cond.methodLink RL 56 yX6_load ∈ zW := zm 395 (by decide +kernel) (by decide +kernel)
theorem zt396 : Cond.instanceMethod yX6_load ∈ zW := zm 396 (by decide +kernel) (by decide +kernel)
theorem zt397 : Cond.selects RX6 yX6_load yX6_load ∈ zW := zm 397 (by decide +kernel) (by decide +kernel)
theorem zt398 : Cond.code yX6_load cX6_load 3 (some .int) ∈ zW := zm 398 (by decide +kernel) (by decide +kernel)
theorem zt399 : Cond.methodLink RX6 102 yX4_loadInstruction ∈ zW := zm 399 (by decide +kernel) (by decide +kernel)
theorem zt400 : Cond.static yX4_loadInstruction ∈ zW := zm 400 (by decide +kernel) (by decide +kernel)
theorem zt401 : Cond.code yX4_loadInstruction cX4_loadInstruction 6 none ∈ zW := zm 401 (by decide +kernel) (by decide +kernel)
theorem zt402 : Cond.methodLink RX4 29 yX4_goTo ∈ zW := zm 402 (by decide +kernel) (by decide +kernel)
theorem zt404 : Cond.methodLink RX4 63 yX4_shiftThrough ∈ zW := zm 404 (by decide +kernel) (by decide +kernel)
theorem zt405 : Cond.static yX4_shiftThrough ∈ zW := zm 405 (by decide +kernel) (by decide +kernel)
theorem zt406 : Cond.code yX4_shiftThrough cX4_shiftThrough 7 (some .int) ∈ zW := zm 406 (by decide +kernel) (by decide +kernel)
theorem zt407 : Cond.methodLink RX6 106 yX1_dataBits ∈ zW := zm 407 (by decide +kernel) (by decide +kernel)
theorem zt408 : Cond.methodLink RL 59 yX6_exchange ∈ zW := zm 408 (by decide +kernel) (by decide +kernel)
theorem zt409 : Cond.instanceMethod yX6_exchange ∈ zW := zm 409 (by decide +kernel) (by decide +kernel)
theorem zt410 : Cond.selects RX6 yX6_exchange yX6_exchange ∈ zW := zm 410 (by decide +kernel) (by decide +kernel)
theorem zt411 : Cond.code yX6_exchange cX6_exchange 4 (some .int) ∈ zW := zm 411 (by decide +kernel) (by decide +kernel)
theorem zt412 : Cond.methodLink RX6 109 yX6_exchangeError ∈ zW := zm 412 (by decide +kernel) (by decide +kernel)
theorem zt414 : Cond.instanceMethod yX6_exchangeError ∈ zW := zm 414 (by decide +kernel) (by decide +kernel)
theorem zt415 : Cond.code yX6_exchangeError cX6_exchangeError 3 (some .int) ∈ zW := zm 415 (by decide +kernel) (by decide +kernel)
theorem zt416 : Cond.methodLink RX6 112 yX4_exchangeData ∈ zW := zm 416 (by decide +kernel) (by decide +kernel)
theorem zt417 : Cond.static yX4_exchangeData ∈ zW := zm 417 (by decide +kernel) (by decide +kernel)
theorem zt418 : Cond.code yX4_exchangeData cX4_exchangeData 7 (some .int) ∈ zW := zm 418 (by decide +kernel) (by decide +kernel)
theorem zt419 : Cond.methodLink RX4 67 yX1_dataBits ∈ zW := zm 419 (by decide +kernel) (by decide +kernel)
theorem zt420 : Cond.methodLink RL 62 yX6_distance ∈ zW := zm 420 (by decide +kernel) (by decide +kernel)
theorem zt421 : Cond.instanceMethod yX6_distance ∈ zW := zm 421 (by decide +kernel) (by decide +kernel)
theorem zt422 : Cond.selects RX6 yX6_distance yX6_distance ∈ zW := zm 422 (by decide +kernel) (by decide +kernel)
theorem zt423 : Cond.code yX6_distance cX6_distance 3 (some .int) ∈ zW := zm 423 (by decide +kernel) (by decide +kernel)
theorem zt424 : Cond.methodLink RX6 161 yX2_clocksBetween ∈ zW := zm 424 (by decide +kernel) (by decide +kernel)
theorem zt425 : Cond.methodLink RL 65 yX6_ifExchanged ∈ zW := zm 425 (by decide +kernel) (by decide +kernel)
theorem zt426 : Cond.instanceMethod yX6_ifExchanged ∈ zW := zm 426 (by decide +kernel) (by decide +kernel)
theorem zt427 : Cond.selects RX6 yX6_ifExchanged yX6_ifExchanged ∈ zW := zm 427 (by decide +kernel) (by decide +kernel)
theorem zt428 : Cond.code yX6_ifExchanged cX6_ifExchanged 4 (some .int) ∈ zW := zm 428 (by decide +kernel) (by decide +kernel)
theorem zt429 : Cond.methodLink RL 68 yX6_append ∈ zW := zm 429 (by decide +kernel) (by decide +kernel)
theorem zt430 : Cond.instanceMethod yX6_append ∈ zW := zm 430 (by decide +kernel) (by decide +kernel)
theorem zt431 : Cond.selects RX6 yX6_append yX6_append ∈ zW := zm 431 (by decide +kernel) (by decide +kernel)
theorem zt432 : Cond.code yX6_append cX6_append 2 (some .int) ∈ zW := zm 432 (by decide +kernel) (by decide +kernel)
theorem zt433 : Cond.methodLink RX6 119 yX5_write ∈ zW := zm 433 (by decide +kernel) (by decide +kernel)
theorem zt434 : Cond.instanceMethod yX5_write ∈ zW := zm 434 (by decide +kernel) (by decide +kernel)
theorem zt435 : Cond.selects RX5 yX5_write yX5_write ∈ zW := zm 435 (by decide +kernel) (by decide +kernel)
theorem zt436 : Cond.code yX5_write cX5_write 2 (some .int) ∈ zW := zm 436 (by decide +kernel) (by decide +kernel)
theorem zt437 : Cond.methodLink RL 71 yX6_clearText ∈ zW := zm 437 (by decide +kernel) (by decide +kernel)
theorem zt438 : Cond.instanceMethod yX6_clearText ∈ zW := zm 438 (by decide +kernel) (by decide +kernel)
theorem zt439 : Cond.selects RX6 yX6_clearText yX6_clearText ∈ zW := zm 439 (by decide +kernel) (by decide +kernel)
theorem zt440 : Cond.code yX6_clearText cX6_clearText 1 (some .int) ∈ zW := zm 440 (by decide +kernel) (by decide +kernel)
theorem zt441 : Cond.methodLink RX6 122 yX5_wipe ∈ zW := zm 441 (by decide +kernel) (by decide +kernel)
theorem zt442 : Cond.instanceMethod yX5_wipe ∈ zW := zm 442 (by decide +kernel) (by decide +kernel)
theorem zt443 : Cond.selects RX5 yX5_wipe yX5_wipe ∈ zW := zm 443 (by decide +kernel) (by decide +kernel)
theorem zt444 : Cond.code yX5_wipe cX5_wipe 2 (some .int) ∈ zW := zm 444 (by decide +kernel) (by decide +kernel)
theorem zt445 : Cond.methodLink RL 75 yX6_fault ∈ zW := zm 445 (by decide +kernel) (by decide +kernel)
theorem zt446 : Cond.instanceMethod yX6_fault ∈ zW := zm 446 (by decide +kernel) (by decide +kernel)
theorem zt447 : Cond.selects RX6 yX6_fault yX6_fault ∈ zW := zm 447 (by decide +kernel) (by decide +kernel)
theorem zt448 : Cond.code yX6_fault cX6_fault 1 (some .int) ∈ zW := zm 448 (by decide +kernel) (by decide +kernel)
theorem zt449 : Cond.methodLink RX6 125 yX5_firstFault ∈ zW := zm 449 (by decide +kernel) (by decide +kernel)
theorem zt450 : Cond.instanceMethod yX5_firstFault ∈ zW := zm 450 (by decide +kernel) (by decide +kernel)
theorem zt451 : Cond.selects RX5 yX5_firstFault yX5_firstFault ∈ zW := zm 451 (by decide +kernel) (by decide +kernel)
theorem zt452 : Cond.code yX5_firstFault cX5_firstFault 5 (some .int) ∈ zW := zm 452 (by decide +kernel) (by decide +kernel)
theorem zt453 : Cond.methodLink RX5 19 yX5_hexValue ∈ zW := zm 453 (by decide +kernel) (by decide +kernel)
theorem zt454 : Cond.static yX5_hexValue ∈ zW := zm 454 (by decide +kernel) (by decide +kernel)
theorem zt455 : Cond.code yX5_hexValue cX5_hexValue 1 (some .int) ∈ zW := zm 455 (by decide +kernel) (by decide +kernel)
theorem zt456 : Cond.methodLink RX5 23 yX5_startsItem ∈ zW := zm 456 (by decide +kernel) (by decide +kernel)
theorem zt457 : Cond.static yX5_startsItem ∈ zW := zm 457 (by decide +kernel) (by decide +kernel)
theorem zt458 : Cond.code yX5_startsItem cX5_startsItem 1 (some .boolean) ∈ zW := zm 458 (by decide +kernel) (by decide +kernel)
theorem zt459 : Cond.methodLink RL 78 yX6_run ∈ zW := zm 459 (by decide +kernel) (by decide +kernel)
theorem zt460 : Cond.instanceMethod yX6_run ∈ zW := zm 460 (by decide +kernel) (by decide +kernel)
theorem zt461 : Cond.selects RX6 yX6_run yX6_run ∈ zW := zm 461 (by decide +kernel) (by decide +kernel)
theorem zt462 : Cond.code yX6_run cX6_run 2 (some .int) ∈ zW := zm 462 (by decide +kernel) (by decide +kernel)
theorem zt463 : Cond.methodLink RX6 128 yX4_carryOut ∈ zW := zm 463 (by decide +kernel) (by decide +kernel)
theorem zt464 : Cond.static yX4_carryOut ∈ zW := zm 464 (by decide +kernel) (by decide +kernel)
theorem zt465 : Cond.code yX4_carryOut cX4_carryOut 7 (some .int) ∈ zW := zm 465 (by decide +kernel) (by decide +kernel)
theorem zt466 : Cond.methodLink RX4 80 yX5_hexAt ∈ zW := zm 466 (by decide +kernel) (by decide +kernel)
theorem zt467 : Cond.instanceMethod yX5_hexAt ∈ zW := zm 467 (by decide +kernel) (by decide +kernel)
theorem zt468 : Cond.selects RX5 yX5_hexAt yX5_hexAt ∈ zW := zm 468 (by decide +kernel) (by decide +kernel)
theorem zt469 : Cond.code yX5_hexAt cX5_hexAt 2 (some .int) ∈ zW := zm 469 (by decide +kernel) (by decide +kernel)
theorem zt470 : Cond.methodLink RX4 83 yX4_clockItem ∈ zW := zm 470 (by decide +kernel) (by decide +kernel)
theorem zt471 : Cond.static yX4_clockItem ∈ zW := zm 471 (by decide +kernel) (by decide +kernel)
theorem zt472 : Cond.code yX4_clockItem cX4_clockItem 4 none ∈ zW := zm 472 (by decide +kernel) (by decide +kernel)
theorem zt473 : Cond.methodLink RL 126 yL_areWays ∈ zW := zm 473 (by decide +kernel) (by decide +kernel)
theorem zt474 : Cond.static yL_areWays ∈ zW := zm 474 (by decide +kernel) (by decide +kernel)
theorem zt475 : Cond.code yL_areWays cL_areWays 5 (some .boolean) ∈ zW := zm 475 rfl (by decide +kernel)
theorem zt476 : Cond.methodLink RL 118 yL_act ∈ zW := zm 476 (by decide +kernel) (by decide +kernel)
theorem zt477 : Cond.static yL_act ∈ zW := zm 477 (by decide +kernel) (by decide +kernel)
theorem zt478 : Cond.code yL_act cL_act 8 (some .int) ∈ zW := zm 478 rfl (by decide +kernel)
theorem zt479 : Cond.methodLink RL 89 yL_change ∈ zW := zm 479 (by decide +kernel) (by decide +kernel)
theorem zt480 : Cond.static yL_change ∈ zW := zm 480 (by decide +kernel) (by decide +kernel)
theorem zt481 : Cond.code yL_change cL_change 8 (some .int) ∈ zW := zm 481 rfl (by decide +kernel)
theorem zt482 : Cond.methodLink RL 93 yL_clock ∈ zW := zm 482 (by decide +kernel) (by decide +kernel)
theorem zt483 : Cond.static yL_clock ∈ zW := zm 483 (by decide +kernel) (by decide +kernel)
theorem zt484 : Cond.code yL_clock cL_clock 11 (some .int) ∈ zW := zm 484 rfl (by decide +kernel)
theorem zt485 : Cond.methodLink RL 95 yX6_ifIdentified ∈ zW := zm 485 (by decide +kernel) (by decide +kernel)
theorem zt486 : Cond.instanceMethod yX6_ifIdentified ∈ zW := zm 486 (by decide +kernel) (by decide +kernel)
theorem zt487 : Cond.selects RX6 yX6_ifIdentified yX6_ifIdentified ∈ zW := zm 487 (by decide +kernel) (by decide +kernel)
theorem zt488 : Cond.code yX6_ifIdentified cX6_ifIdentified 1 (some .int) ∈ zW := zm 488 (by decide +kernel) (by decide +kernel)
theorem zt489 : Cond.methodLink RX6 98 yX4_readIdentities ∈ zW := zm 489 (by decide +kernel) (by decide +kernel)
theorem zt490 : Cond.static yX4_readIdentities ∈ zW := zm 490 (by decide +kernel) (by decide +kernel)
theorem zt491 : Cond.code yX4_readIdentities cX4_readIdentities 3 (some .int) ∈ zW := zm 491 (by decide +kernel) (by decide +kernel)
theorem zt492 : Cond.methodLink RX4 33 yX0_forgetIdentities ∈ zW := zm 492 (by decide +kernel) (by decide +kernel)
theorem zt493 : Cond.instanceMethod yX0_forgetIdentities ∈ zW := zm 493 (by decide +kernel) (by decide +kernel)
theorem zt494 : Cond.selects RX0 yX0_forgetIdentities yX0_forgetIdentities ∈ zW := zm 494 (by decide +kernel) (by decide +kernel)
theorem zt495 : Cond.code yX0_forgetIdentities cX0_forgetIdentities 1 none ∈ zW := zm 495 (by decide +kernel) (by decide +kernel)
theorem zt496 : Cond.methodLink RX4 36 yX4_readIdentity ∈ zW := zm 496 (by decide +kernel) (by decide +kernel)
theorem zt497 : Cond.static yX4_readIdentity ∈ zW := zm 497 (by decide +kernel) (by decide +kernel)
theorem zt498 : Cond.code yX4_readIdentity cX4_readIdentity 3 (some .int) ∈ zW := zm 498 (by decide +kernel) (by decide +kernel)
theorem zt499 : Cond.methodLink RX4 40 yX0_keepIdentity ∈ zW := zm 499 (by decide +kernel) (by decide +kernel)
theorem zt500 : Cond.instanceMethod yX0_keepIdentity ∈ zW := zm 500 (by decide +kernel) (by decide +kernel)
theorem zt501 : Cond.selects RX0 yX0_keepIdentity yX0_keepIdentity ∈ zW := zm 501 (by decide +kernel) (by decide +kernel)
theorem zt502 : Cond.code yX0_keepIdentity cX0_keepIdentity 2 none ∈ zW := zm 502 (by decide +kernel) (by decide +kernel)
theorem zt503 : Cond.methodLink RL 98 yX6_identify ∈ zW := zm 503 (by decide +kernel) (by decide +kernel)
theorem zt504 : Cond.instanceMethod yX6_identify ∈ zW := zm 504 (by decide +kernel) (by decide +kernel)
theorem zt505 : Cond.selects RX6 yX6_identify yX6_identify ∈ zW := zm 505 (by decide +kernel) (by decide +kernel)
theorem zt506 : Cond.code yX6_identify cX6_identify 1 (some .int) ∈ zW := zm 506 (by decide +kernel) (by decide +kernel)
theorem zinX0 : ∀ w ∈ wsX00, w ∈ zW := zWr _ [84, 86, 88, 90, 92, 94] (by decide +kernel) (by decide +kernel)
theorem zinX1 : ∀ w ∈ wsX10, w ∈ zW := zWr _ [49, 51, 53, 55, 57, 59, 61, 63, 65] (by decide +kernel) (by decide +kernel)
theorem zinX3 : ∀ w ∈ wsX30, w ∈ zW := zWr _ [110, 112] (by decide +kernel) (by decide +kernel)
theorem zinX5 : ∀ w ∈ wsX50, w ∈ zW := zWr _ [126, 128] (by decide +kernel) (by decide +kernel)
theorem zinX6 : ∀ w ∈ wsX60, w ∈ zW := zWr _ [138, 140, 142, 144, 146, 148] (by decide +kernel) (by decide +kernel)
theorem zNest_in : zNest = [30, 35, 36, 38, 43, 44, 47, 69, 70, 72, 73, 75, 76, 78, 80, 82, 83, 109, 122, 124, 125, 299, 403].filterMap (fun i => lw_tbl[i]?) := by decide +kernel
theorem ndX6_init : yX6_init.cls ≠ "java/lang/invoke/MethodHandle" ∧ yX6_init.cls ≠ "java/lang/invoke/VarHandle" ∧ (parseMethodDescriptor yX6_init.desc).map (fun d => d.parameters.length) = some 0 := by decide +kernel
theorem npX6_init : plainName yX6_init.cls = true := by decide +kernel
theorem ndX6_add : yX6_add.cls ≠ "java/lang/invoke/MethodHandle" ∧ yX6_add.cls ≠ "java/lang/invoke/VarHandle" ∧ (parseMethodDescriptor yX6_add.desc).map (fun d => d.parameters.length) = some 3 := by decide +kernel
theorem npX6_add : plainName yX6_add.cls = true := by decide +kernel
theorem ndX6_allOnes : yX6_allOnes.cls ≠ "java/lang/invoke/MethodHandle" ∧ yX6_allOnes.cls ≠ "java/lang/invoke/VarHandle" ∧ (parseMethodDescriptor yX6_allOnes.desc).map (fun d => d.parameters.length) = some 1 := by decide +kernel
theorem npX6_allOnes : plainName yX6_allOnes.cls = true := by decide +kernel
theorem ndX6_append : yX6_append.cls ≠ "java/lang/invoke/MethodHandle" ∧ yX6_append.cls ≠ "java/lang/invoke/VarHandle" ∧ (parseMethodDescriptor yX6_append.desc).map (fun d => d.parameters.length) = some 1 := by decide +kernel
theorem npX6_append : plainName yX6_append.cls = true := by decide +kernel
theorem ndX6_breakChip : yX6_breakChip.cls ≠ "java/lang/invoke/MethodHandle" ∧ yX6_breakChip.cls ≠ "java/lang/invoke/VarHandle" ∧ (parseMethodDescriptor yX6_breakChip.desc).map (fun d => d.parameters.length) = some 2 := by decide +kernel
theorem npX6_breakChip : plainName yX6_breakChip.cls = true := by decide +kernel
theorem ndX6_bypassed : yX6_bypassed.cls ≠ "java/lang/invoke/MethodHandle" ∧ yX6_bypassed.cls ≠ "java/lang/invoke/VarHandle" ∧ (parseMethodDescriptor yX6_bypassed.desc).map (fun d => d.parameters.length) = some 0 := by decide +kernel
theorem npX6_bypassed : plainName yX6_bypassed.cls = true := by decide +kernel
theorem ndX6_chip : yX6_chip.cls ≠ "java/lang/invoke/MethodHandle" ∧ yX6_chip.cls ≠ "java/lang/invoke/VarHandle" ∧ (parseMethodDescriptor yX6_chip.desc).map (fun d => d.parameters.length) = some 2 := by decide +kernel
theorem npX6_chip : plainName yX6_chip.cls = true := by decide +kernel
theorem ndX6_clearText : yX6_clearText.cls ≠ "java/lang/invoke/MethodHandle" ∧ yX6_clearText.cls ≠ "java/lang/invoke/VarHandle" ∧ (parseMethodDescriptor yX6_clearText.desc).map (fun d => d.parameters.length) = some 0 := by decide +kernel
theorem npX6_clearText : plainName yX6_clearText.cls = true := by decide +kernel
theorem ndX6_clock : yX6_clock.cls ≠ "java/lang/invoke/MethodHandle" ∧ yX6_clock.cls ≠ "java/lang/invoke/VarHandle" ∧ (parseMethodDescriptor yX6_clock.desc).map (fun d => d.parameters.length) = some 2 := by decide +kernel
theorem npX6_clock : plainName yX6_clock.cls = true := by decide +kernel
theorem ndX6_count : yX6_count.cls ≠ "java/lang/invoke/MethodHandle" ∧ yX6_count.cls ≠ "java/lang/invoke/VarHandle" ∧ (parseMethodDescriptor yX6_count.desc).map (fun d => d.parameters.length) = some 1 := by decide +kernel
theorem npX6_count : plainName yX6_count.cls = true := by decide +kernel
theorem ndX6_distance : yX6_distance.cls ≠ "java/lang/invoke/MethodHandle" ∧ yX6_distance.cls ≠ "java/lang/invoke/VarHandle" ∧ (parseMethodDescriptor yX6_distance.desc).map (fun d => d.parameters.length) = some 2 := by decide +kernel
theorem npX6_distance : plainName yX6_distance.cls = true := by decide +kernel
theorem ndX6_exchange : yX6_exchange.cls ≠ "java/lang/invoke/MethodHandle" ∧ yX6_exchange.cls ≠ "java/lang/invoke/VarHandle" ∧ (parseMethodDescriptor yX6_exchange.desc).map (fun d => d.parameters.length) = some 2 := by decide +kernel
theorem npX6_exchange : plainName yX6_exchange.cls = true := by decide +kernel
theorem ndX6_exchangeError : yX6_exchangeError.cls ≠ "java/lang/invoke/MethodHandle" ∧ yX6_exchangeError.cls ≠ "java/lang/invoke/VarHandle" ∧ (parseMethodDescriptor yX6_exchangeError.desc).map (fun d => d.parameters.length) = some 2 := by decide +kernel
theorem npX6_exchangeError : plainName yX6_exchangeError.cls = true := by decide +kernel
theorem ndX6_fault : yX6_fault.cls ≠ "java/lang/invoke/MethodHandle" ∧ yX6_fault.cls ≠ "java/lang/invoke/VarHandle" ∧ (parseMethodDescriptor yX6_fault.desc).map (fun d => d.parameters.length) = some 0 := by decide +kernel
theorem npX6_fault : plainName yX6_fault.cls = true := by decide +kernel
theorem ndX6_found : yX6_found.cls ≠ "java/lang/invoke/MethodHandle" ∧ yX6_found.cls ≠ "java/lang/invoke/VarHandle" ∧ (parseMethodDescriptor yX6_found.desc).map (fun d => d.parameters.length) = some 1 := by decide +kernel
theorem npX6_found : plainName yX6_found.cls = true := by decide +kernel
theorem ndX6_identify : yX6_identify.cls ≠ "java/lang/invoke/MethodHandle" ∧ yX6_identify.cls ≠ "java/lang/invoke/VarHandle" ∧ (parseMethodDescriptor yX6_identify.desc).map (fun d => d.parameters.length) = some 0 := by decide +kernel
theorem npX6_identify : plainName yX6_identify.cls = true := by decide +kernel
theorem ndX6_ifExchanged : yX6_ifExchanged.cls ≠ "java/lang/invoke/MethodHandle" ∧ yX6_ifExchanged.cls ≠ "java/lang/invoke/VarHandle" ∧ (parseMethodDescriptor yX6_ifExchanged.desc).map (fun d => d.parameters.length) = some 2 := by decide +kernel
theorem npX6_ifExchanged : plainName yX6_ifExchanged.cls = true := by decide +kernel
theorem ndX6_ifIdentified : yX6_ifIdentified.cls ≠ "java/lang/invoke/MethodHandle" ∧ yX6_ifIdentified.cls ≠ "java/lang/invoke/VarHandle" ∧ (parseMethodDescriptor yX6_ifIdentified.desc).map (fun d => d.parameters.length) = some 0 := by decide +kernel
theorem npX6_ifIdentified : plainName yX6_ifIdentified.cls = true := by decide +kernel
theorem ndX6_isIdentity : yX6_isIdentity.cls ≠ "java/lang/invoke/MethodHandle" ∧ yX6_isIdentity.cls ≠ "java/lang/invoke/VarHandle" ∧ (parseMethodDescriptor yX6_isIdentity.desc).map (fun d => d.parameters.length) = some 1 := by decide +kernel
theorem npX6_isIdentity : plainName yX6_isIdentity.cls = true := by decide +kernel
theorem ndX6_isWithin : yX6_isWithin.cls ≠ "java/lang/invoke/MethodHandle" ∧ yX6_isWithin.cls ≠ "java/lang/invoke/VarHandle" ∧ (parseMethodDescriptor yX6_isWithin.desc).map (fun d => d.parameters.length) = some 3 := by decide +kernel
theorem npX6_isWithin : plainName yX6_isWithin.cls = true := by decide +kernel
theorem ndX6_load : yX6_load.cls ≠ "java/lang/invoke/MethodHandle" ∧ yX6_load.cls ≠ "java/lang/invoke/VarHandle" ∧ (parseMethodDescriptor yX6_load.desc).map (fun d => d.parameters.length) = some 2 := by decide +kernel
theorem npX6_load : plainName yX6_load.cls = true := by decide +kernel
theorem ndX6_move : yX6_move.cls ≠ "java/lang/invoke/MethodHandle" ∧ yX6_move.cls ≠ "java/lang/invoke/VarHandle" ∧ (parseMethodDescriptor yX6_move.desc).map (fun d => d.parameters.length) = some 1 := by decide +kernel
theorem npX6_move : plainName yX6_move.cls = true := by decide +kernel
theorem ndX6_peek : yX6_peek.cls ≠ "java/lang/invoke/MethodHandle" ∧ yX6_peek.cls ≠ "java/lang/invoke/VarHandle" ∧ (parseMethodDescriptor yX6_peek.desc).map (fun d => d.parameters.length) = some 1 := by decide +kernel
theorem npX6_peek : plainName yX6_peek.cls = true := by decide +kernel
theorem ndX6_restore : yX6_restore.cls ≠ "java/lang/invoke/MethodHandle" ∧ yX6_restore.cls ≠ "java/lang/invoke/VarHandle" ∧ (parseMethodDescriptor yX6_restore.desc).map (fun d => d.parameters.length) = some 0 := by decide +kernel
theorem npX6_restore : plainName yX6_restore.cls = true := by decide +kernel
theorem ndX6_run : yX6_run.cls ≠ "java/lang/invoke/MethodHandle" ∧ yX6_run.cls ≠ "java/lang/invoke/VarHandle" ∧ (parseMethodDescriptor yX6_run.desc).map (fun d => d.parameters.length) = some 0 := by decide +kernel
theorem npX6_run : plainName yX6_run.cls = true := by decide +kernel
theorem ndX6_save : yX6_save.cls ≠ "java/lang/invoke/MethodHandle" ∧ yX6_save.cls ≠ "java/lang/invoke/VarHandle" ∧ (parseMethodDescriptor yX6_save.desc).map (fun d => d.parameters.length) = some 0 := by decide +kernel
theorem npX6_save : plainName yX6_save.cls = true := by decide +kernel
theorem ndX6_setPins : yX6_setPins.cls ≠ "java/lang/invoke/MethodHandle" ∧ yX6_setPins.cls ≠ "java/lang/invoke/VarHandle" ∧ (parseMethodDescriptor yX6_setPins.desc).map (fun d => d.parameters.length) = some 2 := by decide +kernel
theorem npX6_setPins : plainName yX6_setPins.cls = true := by decide +kernel
theorem ndX6_take : yX6_take.cls ≠ "java/lang/invoke/MethodHandle" ∧ yX6_take.cls ≠ "java/lang/invoke/VarHandle" ∧ (parseMethodDescriptor yX6_take.desc).map (fun d => d.parameters.length) = some 1 := by decide +kernel
theorem npX6_take : plainName yX6_take.cls = true := by decide +kernel
theorem ndX6_undo : yX6_undo.cls ≠ "java/lang/invoke/MethodHandle" ∧ yX6_undo.cls ≠ "java/lang/invoke/VarHandle" ∧ (parseMethodDescriptor yX6_undo.desc).map (fun d => d.parameters.length) = some 0 := by decide +kernel
theorem npX6_undo : plainName yX6_undo.cls = true := by decide +kernel
theorem ndX0_init : yX0_init.cls ≠ "java/lang/invoke/MethodHandle" ∧ yX0_init.cls ≠ "java/lang/invoke/VarHandle" ∧ (parseMethodDescriptor yX0_init.desc).map (fun d => d.parameters.length) = some 0 := by decide +kernel
theorem npX0_init : plainName yX0_init.cls = true := by decide +kernel
theorem ndX0_becomeCopyOf : yX0_becomeCopyOf.cls ≠ "java/lang/invoke/MethodHandle" ∧ yX0_becomeCopyOf.cls ≠ "java/lang/invoke/VarHandle" ∧ (parseMethodDescriptor yX0_becomeCopyOf.desc).map (fun d => d.parameters.length) = some 1 := by decide +kernel
theorem npX0_becomeCopyOf : plainName yX0_becomeCopyOf.cls = true := by decide +kernel
theorem ndX0_brokenChips : yX0_brokenChips.cls ≠ "java/lang/invoke/MethodHandle" ∧ yX0_brokenChips.cls ≠ "java/lang/invoke/VarHandle" ∧ (parseMethodDescriptor yX0_brokenChips.desc).map (fun d => d.parameters.length) = some 0 := by decide +kernel
theorem npX0_brokenChips : plainName yX0_brokenChips.cls = true := by decide +kernel
theorem ndX0_bypassedChips : yX0_bypassedChips.cls ≠ "java/lang/invoke/MethodHandle" ∧ yX0_bypassedChips.cls ≠ "java/lang/invoke/VarHandle" ∧ (parseMethodDescriptor yX0_bypassedChips.desc).map (fun d => d.parameters.length) = some 0 := by decide +kernel
theorem npX0_bypassedChips : plainName yX0_bypassedChips.cls = true := by decide +kernel
theorem ndX0_forgetIdentities : yX0_forgetIdentities.cls ≠ "java/lang/invoke/MethodHandle" ∧ yX0_forgetIdentities.cls ≠ "java/lang/invoke/VarHandle" ∧ (parseMethodDescriptor yX0_forgetIdentities.desc).map (fun d => d.parameters.length) = some 0 := by decide +kernel
theorem npX0_forgetIdentities : plainName yX0_forgetIdentities.cls = true := by decide +kernel
theorem ndX0_has : yX0_has.cls ≠ "java/lang/invoke/MethodHandle" ∧ yX0_has.cls ≠ "java/lang/invoke/VarHandle" ∧ (parseMethodDescriptor yX0_has.desc).map (fun d => d.parameters.length) = some 1 := by decide +kernel
theorem npX0_has : plainName yX0_has.cls = true := by decide +kernel
theorem ndX0_keepIdentity : yX0_keepIdentity.cls ≠ "java/lang/invoke/MethodHandle" ∧ yX0_keepIdentity.cls ≠ "java/lang/invoke/VarHandle" ∧ (parseMethodDescriptor yX0_keepIdentity.desc).map (fun d => d.parameters.length) = some 1 := by decide +kernel
theorem npX0_keepIdentity : plainName yX0_keepIdentity.cls = true := by decide +kernel
theorem ndX0_outputWith : yX0_outputWith.cls ≠ "java/lang/invoke/MethodHandle" ∧ yX0_outputWith.cls ≠ "java/lang/invoke/VarHandle" ∧ (parseMethodDescriptor yX0_outputWith.desc).map (fun d => d.parameters.length) = some 1 := by decide +kernel
theorem npX0_outputWith : plainName yX0_outputWith.cls = true := by decide +kernel
theorem ndX0_putBehind : yX0_putBehind.cls ≠ "java/lang/invoke/MethodHandle" ∧ yX0_putBehind.cls ≠ "java/lang/invoke/VarHandle" ∧ (parseMethodDescriptor yX0_putBehind.desc).map (fun d => d.parameters.length) = some 3 := by decide +kernel
theorem npX0_putBehind : plainName yX0_putBehind.cls = true := by decide +kernel
theorem ndX0_shiftAllCodes : yX0_shiftAllCodes.cls ≠ "java/lang/invoke/MethodHandle" ∧ yX0_shiftAllCodes.cls ≠ "java/lang/invoke/VarHandle" ∧ (parseMethodDescriptor yX0_shiftAllCodes.desc).map (fun d => d.parameters.length) = some 1 := by decide +kernel
theorem npX0_shiftAllCodes : plainName yX0_shiftAllCodes.cls = true := by decide +kernel
theorem ndX0_shiftAllData : yX0_shiftAllData.cls ≠ "java/lang/invoke/MethodHandle" ∧ yX0_shiftAllData.cls ≠ "java/lang/invoke/VarHandle" ∧ (parseMethodDescriptor yX0_shiftAllData.desc).map (fun d => d.parameters.length) = some 1 := by decide +kernel
theorem npX0_shiftAllData : plainName yX0_shiftAllData.cls = true := by decide +kernel
theorem ndX0_sumOfCodeLengths : yX0_sumOfCodeLengths.cls ≠ "java/lang/invoke/MethodHandle" ∧ yX0_sumOfCodeLengths.cls ≠ "java/lang/invoke/VarHandle" ∧ (parseMethodDescriptor yX0_sumOfCodeLengths.desc).map (fun d => d.parameters.length) = some 0 := by decide +kernel
theorem npX0_sumOfCodeLengths : plainName yX0_sumOfCodeLengths.cls = true := by decide +kernel
theorem ndX0_sumOfDataBits : yX0_sumOfDataBits.cls ≠ "java/lang/invoke/MethodHandle" ∧ yX0_sumOfDataBits.cls ≠ "java/lang/invoke/VarHandle" ∧ (parseMethodDescriptor yX0_sumOfDataBits.desc).map (fun d => d.parameters.length) = some 0 := by decide +kernel
theorem npX0_sumOfDataBits : plainName yX0_sumOfDataBits.cls = true := by decide +kernel
theorem ndX0_takeOut : yX0_takeOut.cls ≠ "java/lang/invoke/MethodHandle" ∧ yX0_takeOut.cls ≠ "java/lang/invoke/VarHandle" ∧ (parseMethodDescriptor yX0_takeOut.desc).map (fun d => d.parameters.length) = some 1 := by decide +kernel
theorem npX0_takeOut : plainName yX0_takeOut.cls = true := by decide +kernel
theorem ndX0_tick : yX0_tick.cls ≠ "java/lang/invoke/MethodHandle" ∧ yX0_tick.cls ≠ "java/lang/invoke/VarHandle" ∧ (parseMethodDescriptor yX0_tick.desc).map (fun d => d.parameters.length) = some 2 := by decide +kernel
theorem npX0_tick : plainName yX0_tick.cls = true := by decide +kernel
theorem ndX0_workOf : yX0_workOf.cls ≠ "java/lang/invoke/MethodHandle" ∧ yX0_workOf.cls ≠ "java/lang/invoke/VarHandle" ∧ (parseMethodDescriptor yX0_workOf.desc).map (fun d => d.parameters.length) = some 1 := by decide +kernel
theorem npX0_workOf : plainName yX0_workOf.cls = true := by decide +kernel
theorem ndX1_init : yX1_init.cls ≠ "java/lang/invoke/MethodHandle" ∧ yX1_init.cls ≠ "java/lang/invoke/VarHandle" ∧ (parseMethodDescriptor yX1_init.desc).map (fun d => d.parameters.length) = some 0 := by decide +kernel
theorem npX1_init : plainName yX1_init.cls = true := by decide +kernel
theorem ndX1_beNew : yX1_beNew.cls ≠ "java/lang/invoke/MethodHandle" ∧ yX1_beNew.cls ≠ "java/lang/invoke/VarHandle" ∧ (parseMethodDescriptor yX1_beNew.desc).map (fun d => d.parameters.length) = some 3 := by decide +kernel
theorem npX1_beNew : plainName yX1_beNew.cls = true := by decide +kernel
theorem ndX1_becomeCopyOf : yX1_becomeCopyOf.cls ≠ "java/lang/invoke/MethodHandle" ∧ yX1_becomeCopyOf.cls ≠ "java/lang/invoke/VarHandle" ∧ (parseMethodDescriptor yX1_becomeCopyOf.desc).map (fun d => d.parameters.length) = some 1 := by decide +kernel
theorem npX1_becomeCopyOf : plainName yX1_becomeCopyOf.cls = true := by decide +kernel
theorem ndX1_captureData : yX1_captureData.cls ≠ "java/lang/invoke/MethodHandle" ∧ yX1_captureData.cls ≠ "java/lang/invoke/VarHandle" ∧ (parseMethodDescriptor yX1_captureData.desc).map (fun d => d.parameters.length) = some 0 := by decide +kernel
theorem npX1_captureData : plainName yX1_captureData.cls = true := by decide +kernel
theorem ndX1_changePins : yX1_changePins.cls ≠ "java/lang/invoke/MethodHandle" ∧ yX1_changePins.cls ≠ "java/lang/invoke/VarHandle" ∧ (parseMethodDescriptor yX1_changePins.desc).map (fun d => d.parameters.length) = some 1 := by decide +kernel
theorem npX1_changePins : plainName yX1_changePins.cls = true := by decide +kernel
theorem ndX1_codeOutput : yX1_codeOutput.cls ≠ "java/lang/invoke/MethodHandle" ∧ yX1_codeOutput.cls ≠ "java/lang/invoke/VarHandle" ∧ (parseMethodDescriptor yX1_codeOutput.desc).map (fun d => d.parameters.length) = some 0 := by decide +kernel
theorem npX1_codeOutput : plainName yX1_codeOutput.cls = true := by decide +kernel
theorem ndX1_dataBits : yX1_dataBits.cls ≠ "java/lang/invoke/MethodHandle" ∧ yX1_dataBits.cls ≠ "java/lang/invoke/VarHandle" ∧ (parseMethodDescriptor yX1_dataBits.desc).map (fun d => d.parameters.length) = some 0 := by decide +kernel
theorem npX1_dataBits : plainName yX1_dataBits.cls = true := by decide +kernel
theorem ndX1_dataOutput : yX1_dataOutput.cls ≠ "java/lang/invoke/MethodHandle" ∧ yX1_dataOutput.cls ≠ "java/lang/invoke/VarHandle" ∧ (parseMethodDescriptor yX1_dataOutput.desc).map (fun d => d.parameters.length) = some 0 := by decide +kernel
theorem npX1_dataOutput : plainName yX1_dataOutput.cls = true := by decide +kernel
theorem ndX1_giveFirstInstruction : yX1_giveFirstInstruction.cls ≠ "java/lang/invoke/MethodHandle" ∧ yX1_giveFirstInstruction.cls ≠ "java/lang/invoke/VarHandle" ∧ (parseMethodDescriptor yX1_giveFirstInstruction.desc).map (fun d => d.parameters.length) = some 0 := by decide +kernel
theorem npX1_giveFirstInstruction : plainName yX1_giveFirstInstruction.cls = true := by decide +kernel
theorem ndX1_giveInstruction : yX1_giveInstruction.cls ≠ "java/lang/invoke/MethodHandle" ∧ yX1_giveInstruction.cls ≠ "java/lang/invoke/VarHandle" ∧ (parseMethodDescriptor yX1_giveInstruction.desc).map (fun d => d.parameters.length) = some 1 := by decide +kernel
theorem npX1_giveInstruction : plainName yX1_giveInstruction.cls = true := by decide +kernel
theorem ndX1_selectsBypass : yX1_selectsBypass.cls ≠ "java/lang/invoke/MethodHandle" ∧ yX1_selectsBypass.cls ≠ "java/lang/invoke/VarHandle" ∧ (parseMethodDescriptor yX1_selectsBypass.desc).map (fun d => d.parameters.length) = some 0 := by decide +kernel
theorem npX1_selectsBypass : plainName yX1_selectsBypass.cls = true := by decide +kernel
theorem ndX1_selectsCells : yX1_selectsCells.cls ≠ "java/lang/invoke/MethodHandle" ∧ yX1_selectsCells.cls ≠ "java/lang/invoke/VarHandle" ∧ (parseMethodDescriptor yX1_selectsCells.desc).map (fun d => d.parameters.length) = some 0 := by decide +kernel
theorem npX1_selectsCells : plainName yX1_selectsCells.cls = true := by decide +kernel
theorem ndX1_selectsIdentity : yX1_selectsIdentity.cls ≠ "java/lang/invoke/MethodHandle" ∧ yX1_selectsIdentity.cls ≠ "java/lang/invoke/VarHandle" ∧ (parseMethodDescriptor yX1_selectsIdentity.desc).map (fun d => d.parameters.length) = some 0 := by decide +kernel
theorem npX1_selectsIdentity : plainName yX1_selectsIdentity.cls = true := by decide +kernel
theorem ndX1_shiftCode : yX1_shiftCode.cls ≠ "java/lang/invoke/MethodHandle" ∧ yX1_shiftCode.cls ≠ "java/lang/invoke/VarHandle" ∧ (parseMethodDescriptor yX1_shiftCode.desc).map (fun d => d.parameters.length) = some 1 := by decide +kernel
theorem npX1_shiftCode : plainName yX1_shiftCode.cls = true := by decide +kernel
theorem ndX1_shiftData : yX1_shiftData.cls ≠ "java/lang/invoke/MethodHandle" ∧ yX1_shiftData.cls ≠ "java/lang/invoke/VarHandle" ∧ (parseMethodDescriptor yX1_shiftData.desc).map (fun d => d.parameters.length) = some 1 := by decide +kernel
theorem npX1_shiftData : plainName yX1_shiftData.cls = true := by decide +kernel
theorem ndX1_shifted : yX1_shifted.cls ≠ "java/lang/invoke/MethodHandle" ∧ yX1_shifted.cls ≠ "java/lang/invoke/VarHandle" ∧ (parseMethodDescriptor yX1_shifted.desc).map (fun d => d.parameters.length) = some 3 := by decide +kernel
theorem npX1_shifted : plainName yX1_shifted.cls = true := by decide +kernel
theorem ndX1_tell : yX1_tell.cls ≠ "java/lang/invoke/MethodHandle" ∧ yX1_tell.cls ≠ "java/lang/invoke/VarHandle" ∧ (parseMethodDescriptor yX1_tell.desc).map (fun d => d.parameters.length) = some 1 := by decide +kernel
theorem npX1_tell : plainName yX1_tell.cls = true := by decide +kernel
theorem ndX1_updateData : yX1_updateData.cls ≠ "java/lang/invoke/MethodHandle" ∧ yX1_updateData.cls ≠ "java/lang/invoke/VarHandle" ∧ (parseMethodDescriptor yX1_updateData.desc).map (fun d => d.parameters.length) = some 0 := by decide +kernel
theorem npX1_updateData : plainName yX1_updateData.cls = true := by decide +kernel
theorem ndX2_clocksBetween : yX2_clocksBetween.cls ≠ "java/lang/invoke/MethodHandle" ∧ yX2_clocksBetween.cls ≠ "java/lang/invoke/VarHandle" ∧ (parseMethodDescriptor yX2_clocksBetween.desc).map (fun d => d.parameters.length) = some 2 := by decide +kernel
theorem npX2_clocksBetween : plainName yX2_clocksBetween.cls = true := by decide +kernel
theorem ndX2_isState : yX2_isState.cls ≠ "java/lang/invoke/MethodHandle" ∧ yX2_isState.cls ≠ "java/lang/invoke/VarHandle" ∧ (parseMethodDescriptor yX2_isState.desc).map (fun d => d.parameters.length) = some 1 := by decide +kernel
theorem npX2_isState : plainName yX2_isState.cls = true := by decide +kernel
theorem ndX2_next : yX2_next.cls ≠ "java/lang/invoke/MethodHandle" ∧ yX2_next.cls ≠ "java/lang/invoke/VarHandle" ∧ (parseMethodDescriptor yX2_next.desc).map (fun d => d.parameters.length) = some 2 := by decide +kernel
theorem npX2_next : plainName yX2_next.cls = true := by decide +kernel
theorem ndX2_nextOfAll : yX2_nextOfAll.cls ≠ "java/lang/invoke/MethodHandle" ∧ yX2_nextOfAll.cls ≠ "java/lang/invoke/VarHandle" ∧ (parseMethodDescriptor yX2_nextOfAll.desc).map (fun d => d.parameters.length) = some 1 := by decide +kernel
theorem npX2_nextOfAll : plainName yX2_nextOfAll.cls = true := by decide +kernel
theorem ndX3_init : yX3_init.cls ≠ "java/lang/invoke/MethodHandle" ∧ yX3_init.cls ≠ "java/lang/invoke/VarHandle" ∧ (parseMethodDescriptor yX3_init.desc).map (fun d => d.parameters.length) = some 0 := by decide +kernel
theorem npX3_init : plainName yX3_init.cls = true := by decide +kernel
theorem ndX3_dropOldest : yX3_dropOldest.cls ≠ "java/lang/invoke/MethodHandle" ∧ yX3_dropOldest.cls ≠ "java/lang/invoke/VarHandle" ∧ (parseMethodDescriptor yX3_dropOldest.desc).map (fun d => d.parameters.length) = some 0 := by decide +kernel
theorem npX3_dropOldest : plainName yX3_dropOldest.cls = true := by decide +kernel
theorem ndX3_record : yX3_record.cls ≠ "java/lang/invoke/MethodHandle" ∧ yX3_record.cls ≠ "java/lang/invoke/VarHandle" ∧ (parseMethodDescriptor yX3_record.desc).map (fun d => d.parameters.length) = some 1 := by decide +kernel
theorem npX3_record : plainName yX3_record.cls = true := by decide +kernel
theorem ndX3_takeBack : yX3_takeBack.cls ≠ "java/lang/invoke/MethodHandle" ∧ yX3_takeBack.cls ≠ "java/lang/invoke/VarHandle" ∧ (parseMethodDescriptor yX3_takeBack.desc).map (fun d => d.parameters.length) = some 1 := by decide +kernel
theorem npX3_takeBack : plainName yX3_takeBack.cls = true := by decide +kernel
theorem ndX4_carryOut : yX4_carryOut.cls ≠ "java/lang/invoke/MethodHandle" ∧ yX4_carryOut.cls ≠ "java/lang/invoke/VarHandle" ∧ (parseMethodDescriptor yX4_carryOut.desc).map (fun d => d.parameters.length) = some 2 := by decide +kernel
theorem npX4_carryOut : plainName yX4_carryOut.cls = true := by decide +kernel
theorem ndX4_clockItem : yX4_clockItem.cls ≠ "java/lang/invoke/MethodHandle" ∧ yX4_clockItem.cls ≠ "java/lang/invoke/VarHandle" ∧ (parseMethodDescriptor yX4_clockItem.desc).map (fun d => d.parameters.length) = some 2 := by decide +kernel
theorem npX4_clockItem : plainName yX4_clockItem.cls = true := by decide +kernel
theorem ndX4_exchangeData : yX4_exchangeData.cls ≠ "java/lang/invoke/MethodHandle" ∧ yX4_exchangeData.cls ≠ "java/lang/invoke/VarHandle" ∧ (parseMethodDescriptor yX4_exchangeData.desc).map (fun d => d.parameters.length) = some 3 := by decide +kernel
theorem npX4_exchangeData : plainName yX4_exchangeData.cls = true := by decide +kernel
theorem ndX4_goTo : yX4_goTo.cls ≠ "java/lang/invoke/MethodHandle" ∧ yX4_goTo.cls ≠ "java/lang/invoke/VarHandle" ∧ (parseMethodDescriptor yX4_goTo.desc).map (fun d => d.parameters.length) = some 2 := by decide +kernel
theorem npX4_goTo : plainName yX4_goTo.cls = true := by decide +kernel
theorem ndX4_loadInstruction : yX4_loadInstruction.cls ≠ "java/lang/invoke/MethodHandle" ∧ yX4_loadInstruction.cls ≠ "java/lang/invoke/VarHandle" ∧ (parseMethodDescriptor yX4_loadInstruction.desc).map (fun d => d.parameters.length) = some 3 := by decide +kernel
theorem npX4_loadInstruction : plainName yX4_loadInstruction.cls = true := by decide +kernel
theorem ndX4_readIdentities : yX4_readIdentities.cls ≠ "java/lang/invoke/MethodHandle" ∧ yX4_readIdentities.cls ≠ "java/lang/invoke/VarHandle" ∧ (parseMethodDescriptor yX4_readIdentities.desc).map (fun d => d.parameters.length) = some 1 := by decide +kernel
theorem npX4_readIdentities : plainName yX4_readIdentities.cls = true := by decide +kernel
theorem ndX4_readIdentity : yX4_readIdentity.cls ≠ "java/lang/invoke/MethodHandle" ∧ yX4_readIdentity.cls ≠ "java/lang/invoke/VarHandle" ∧ (parseMethodDescriptor yX4_readIdentity.desc).map (fun d => d.parameters.length) = some 1 := by decide +kernel
theorem npX4_readIdentity : plainName yX4_readIdentity.cls = true := by decide +kernel
theorem ndX4_shiftThrough : yX4_shiftThrough.cls ≠ "java/lang/invoke/MethodHandle" ∧ yX4_shiftThrough.cls ≠ "java/lang/invoke/VarHandle" ∧ (parseMethodDescriptor yX4_shiftThrough.desc).map (fun d => d.parameters.length) = some 4 := by decide +kernel
theorem npX4_shiftThrough : plainName yX4_shiftThrough.cls = true := by decide +kernel
theorem ndX5_init : yX5_init.cls ≠ "java/lang/invoke/MethodHandle" ∧ yX5_init.cls ≠ "java/lang/invoke/VarHandle" ∧ (parseMethodDescriptor yX5_init.desc).map (fun d => d.parameters.length) = some 0 := by decide +kernel
theorem npX5_init : plainName yX5_init.cls = true := by decide +kernel
theorem ndX5_firstFault : yX5_firstFault.cls ≠ "java/lang/invoke/MethodHandle" ∧ yX5_firstFault.cls ≠ "java/lang/invoke/VarHandle" ∧ (parseMethodDescriptor yX5_firstFault.desc).map (fun d => d.parameters.length) = some 0 := by decide +kernel
theorem npX5_firstFault : plainName yX5_firstFault.cls = true := by decide +kernel
theorem ndX5_hexAt : yX5_hexAt.cls ≠ "java/lang/invoke/MethodHandle" ∧ yX5_hexAt.cls ≠ "java/lang/invoke/VarHandle" ∧ (parseMethodDescriptor yX5_hexAt.desc).map (fun d => d.parameters.length) = some 1 := by decide +kernel
theorem npX5_hexAt : plainName yX5_hexAt.cls = true := by decide +kernel
theorem ndX5_hexValue : yX5_hexValue.cls ≠ "java/lang/invoke/MethodHandle" ∧ yX5_hexValue.cls ≠ "java/lang/invoke/VarHandle" ∧ (parseMethodDescriptor yX5_hexValue.desc).map (fun d => d.parameters.length) = some 1 := by decide +kernel
theorem npX5_hexValue : plainName yX5_hexValue.cls = true := by decide +kernel
theorem ndX5_startsItem : yX5_startsItem.cls ≠ "java/lang/invoke/MethodHandle" ∧ yX5_startsItem.cls ≠ "java/lang/invoke/VarHandle" ∧ (parseMethodDescriptor yX5_startsItem.desc).map (fun d => d.parameters.length) = some 1 := by decide +kernel
theorem npX5_startsItem : plainName yX5_startsItem.cls = true := by decide +kernel
theorem ndX5_wipe : yX5_wipe.cls ≠ "java/lang/invoke/MethodHandle" ∧ yX5_wipe.cls ≠ "java/lang/invoke/VarHandle" ∧ (parseMethodDescriptor yX5_wipe.desc).map (fun d => d.parameters.length) = some 0 := by decide +kernel
theorem npX5_wipe : plainName yX5_wipe.cls = true := by decide +kernel
theorem ndX5_write : yX5_write.cls ≠ "java/lang/invoke/MethodHandle" ∧ yX5_write.cls ≠ "java/lang/invoke/VarHandle" ∧ (parseMethodDescriptor yX5_write.desc).map (fun d => d.parameters.length) = some 1 := by decide +kernel
theorem npX5_write : plainName yX5_write.cls = true := by decide +kernel
theorem ndL_act : yL_act.cls ≠ "java/lang/invoke/MethodHandle" ∧ yL_act.cls ≠ "java/lang/invoke/VarHandle" ∧ (parseMethodDescriptor yL_act.desc).map (fun d => d.parameters.length) = some 2 := by decide +kernel
theorem npL_act : plainName yL_act.cls = true := by decide +kernel
theorem ndL_areWays : yL_areWays.cls ≠ "java/lang/invoke/MethodHandle" ∧ yL_areWays.cls ≠ "java/lang/invoke/VarHandle" ∧ (parseMethodDescriptor yL_areWays.desc).map (fun d => d.parameters.length) = some 2 := by decide +kernel
theorem npL_areWays : plainName yL_areWays.cls = true := by decide +kernel
theorem ndL_cell : yL_cell.cls ≠ "java/lang/invoke/MethodHandle" ∧ yL_cell.cls ≠ "java/lang/invoke/VarHandle" ∧ (parseMethodDescriptor yL_cell.desc).map (fun d => d.parameters.length) = some 2 := by decide +kernel
theorem npL_cell : plainName yL_cell.cls = true := by decide +kernel
theorem ndL_change : yL_change.cls ≠ "java/lang/invoke/MethodHandle" ∧ yL_change.cls ≠ "java/lang/invoke/VarHandle" ∧ (parseMethodDescriptor yL_change.desc).map (fun d => d.parameters.length) = some 3 := by decide +kernel
theorem npL_change : plainName yL_change.cls = true := by decide +kernel
theorem ndL_clock : yL_clock.cls ≠ "java/lang/invoke/MethodHandle" ∧ yL_clock.cls ≠ "java/lang/invoke/VarHandle" ∧ (parseMethodDescriptor yL_clock.desc).map (fun d => d.parameters.length) = some 3 := by decide +kernel
theorem npL_clock : plainName yL_clock.cls = true := by decide +kernel
theorem ndL_isWhole : yL_isWhole.cls ≠ "java/lang/invoke/MethodHandle" ∧ yL_isWhole.cls ≠ "java/lang/invoke/VarHandle" ∧ (parseMethodDescriptor yL_isWhole.desc).map (fun d => d.parameters.length) = some 1 := by decide +kernel
theorem npL_isWhole : plainName yL_isWhole.cls = true := by decide +kernel
theorem ndL_refuses : yL_refuses.cls ≠ "java/lang/invoke/MethodHandle" ∧ yL_refuses.cls ≠ "java/lang/invoke/VarHandle" ∧ (parseMethodDescriptor yL_refuses.desc).map (fun d => d.parameters.length) = some 2 := by decide +kernel
theorem npL_refuses : plainName yL_refuses.cls = true := by decide +kernel
theorem ndL_refusesAny : yL_refusesAny.cls ≠ "java/lang/invoke/MethodHandle" ∧ yL_refusesAny.cls ≠ "java/lang/invoke/VarHandle" ∧ (parseMethodDescriptor yL_refusesAny.desc).map (fun d => d.parameters.length) = some 2 := by decide +kernel
theorem npL_refusesAny : plainName yL_refusesAny.cls = true := by decide +kernel
theorem ndL_seen : yL_seen.cls ≠ "java/lang/invoke/MethodHandle" ∧ yL_seen.cls ≠ "java/lang/invoke/VarHandle" ∧ (parseMethodDescriptor yL_seen.desc).map (fun d => d.parameters.length) = some 1 := by decide +kernel
theorem npL_seen : plainName yL_seen.cls = true := by decide +kernel
theorem gV_L_102 : GoodIn zW (wsV RL 102 RX6 yX6_undo (zws yX6_undo cX6_undo 1 (some .int))) := zGV zt151 zt152 zt153 zt6 zt154
theorem gV_X6_132 : GoodIn zW (wsV RX6 132 RX3 yX3_takeBack (zws yX3_takeBack cX3_takeBack 2 (some .int))) := zGV zt155 zt156 zt157 zt9 zt158
theorem gV_X3_25 : GoodIn zW (wsV RX3 25 RX0 yX0_becomeCopyOf (zws yX0_becomeCopyOf cX0_becomeCopyOf 3 none)) := zGV zt159 zt160 zt161 zt7 zt162
theorem gV_X0_37 : GoodIn zW (wsV RX0 37 RX1 yX1_becomeCopyOf (zws yX1_becomeCopyOf cX1_becomeCopyOf 2 none)) := zGV zt163 zt164 zt165 zt8 zt166
theorem gV_L_111 : GoodIn zW (wsV RL 111 RX6 yX6_save (zws yX6_save cX6_save 1 (some .int))) := zGV zt167 zt168 zt169 zt6 zt170
theorem gV_X6_135 : GoodIn zW (wsV RX6 135 RX0 yX0_becomeCopyOf (zws yX0_becomeCopyOf cX0_becomeCopyOf 3 none)) := zGV zt171 zt160 zt161 zt7 zt162
theorem gV_L_105 : GoodIn zW (wsV RL 105 RX6 yX6_restore (zws yX6_restore cX6_restore 1 (some .int))) := zGV zt172 zt173 zt174 zt6 zt175
theorem gV_X6_52 : GoodIn zW (wsV RX6 52 RX3 yX3_record (zws yX3_record cX3_record 2 none)) := zGV zt176 zt177 zt178 zt9 zt179
theorem gV_X3_22 : GoodIn zW (wsV RX3 22 RX3 yX3_dropOldest (zws yX3_dropOldest cX3_dropOldest 3 none)) := zGV zt180 zt182 zt0 zt9 zt183
theorem gV_L_14 : GoodIn zW (wsV RL 14 RX6 yX6_count (zws yX6_count cX6_count 2 (some .int))) := zGV zt184 zt185 zt186 zt6 zt187
theorem gV_X6_79 : GoodIn zW (wsV RX6 79 RX0 yX0_brokenChips (zws yX0_brokenChips cX0_brokenChips 3 (some .int))) := zGV zt188 zt189 zt190 zt7 zt191
theorem gV_X6_147 : GoodIn zW (wsV RX6 147 RX0 yX0_sumOfCodeLengths (zws yX0_sumOfCodeLengths cX0_sumOfCodeLengths 3 (some .int))) := zGV zt192 zt193 zt194 zt7 zt195
theorem gV_X6_150 : GoodIn zW (wsV RX6 150 RX0 yX0_sumOfDataBits (zws yX0_sumOfDataBits cX0_sumOfDataBits 3 (some .int))) := zGV zt196 zt197 zt198 zt7 zt199
theorem gV_X0_59 : GoodIn zW (wsV RX0 59 RX1 yX1_dataBits (zws yX1_dataBits cX1_dataBits 1 (some .int))) := zGV zt200 zt201 zt202 zt8 zt203
theorem gV_X1_47 : GoodIn zW (wsV RX1 47 RX1 yX1_selectsCells (zws yX1_selectsCells cX1_selectsCells 1 (some .boolean))) := zGV zt204 zt205 zt206 zt8 zt207
theorem gV_X1_51 : GoodIn zW (wsV RX1 51 RX1 yX1_selectsIdentity (zws yX1_selectsIdentity cX1_selectsIdentity 1 (some .boolean))) := zGV zt208 zt209 zt210 zt8 zt211
theorem gS_L_114 : GoodIn zW (va_wsS RL 114 yL_cell (zws yL_cell cL_cell 2 (some .int))) := zGS zt212 zt213 zt5 zt214
theorem gS_L_81 : GoodIn zW (va_wsS RL 81 yL_seen (zws yL_seen cL_seen 4 (some .long))) := zGS zt218 zt219 zt5 zt220
theorem gV_L_20 : GoodIn zW (wsV RL 20 RX6 yX6_chip (zws yX6_chip cX6_chip 3 (some .int))) := zGV zt223 zt224 zt225 zt6 zt226
theorem gV_X6_60 : GoodIn zW (wsV RX6 60 RX0 yX0_has (zws yX0_has cX0_has 2 (some .boolean))) := zGV zt227 zt228 zt229 zt7 zt230
theorem gV_X6_138 : GoodIn zW (wsV RX6 138 RX1 yX1_tell (zws yX1_tell cX1_tell 2 (some .int))) := zGV zt231 zt232 zt233 zt8 zt234
theorem gV_X1_58 : GoodIn zW (wsV RX1 58 RX1 yX1_dataBits (zws yX1_dataBits cX1_dataBits 1 (some .int))) := zGV zt235 zt201 zt202 zt8 zt203
theorem gV_L_24 : GoodIn zW (wsV RL 24 RX6 yX6_found (zws yX6_found cX6_found 2 (some .int))) := zGV zt236 zt237 zt238 zt6 zt239
theorem gS_L_122 : GoodIn zW (va_wsS RL 122 yL_isWhole (zws yL_isWhole cL_isWhole 15 (some .boolean))) := zGS zt240 zt241 zt5 zt242
theorem gV_L_27 : GoodIn zW (wsV RL 27 RX6 yX6_peek (zws yX6_peek cX6_peek 2 (some .int))) := zGV zt243 zt244 zt245 zt6 zt246
theorem gS_X6_40 : GoodIn zW (va_wsS RX6 40 yX6_isWithin (zws yX6_isWithin cX6_isWithin 3 (some .boolean))) := zGS zt247 zt248 zt6 zt249
theorem gV_X6_164 : GoodIn zW (wsV RX6 164 RX0 yX0_outputWith (zws yX0_outputWith cX0_outputWith 3 (some .int))) := zGV zt250 zt251 zt252 zt7 zt253
theorem gV_X0_81 : GoodIn zW (wsV RX0 81 RX1 yX1_dataOutput (zws yX1_dataOutput cX1_dataOutput 1 (some .int))) := zGV zt254 zt255 zt256 zt8 zt257
theorem gV_X0_84 : GoodIn zW (wsV RX0 84 RX1 yX1_codeOutput (zws yX1_codeOutput cX1_codeOutput 1 (some .int))) := zGV zt258 zt259 zt260 zt8 zt261
theorem gV_L_30 : GoodIn zW (wsV RL 30 RX6 yX6_bypassed (zws yX6_bypassed cX6_bypassed 1 (some .float))) := zGV zt262 zt263 zt264 zt6 zt265
theorem gV_X6_167 : GoodIn zW (wsV RX6 167 RX0 yX0_bypassedChips (zws yX0_bypassedChips cX0_bypassedChips 3 (some .int))) := zGV zt266 zt267 zt268 zt7 zt269
theorem gV_X0_52 : GoodIn zW (wsV RX0 52 RX1 yX1_selectsBypass (zws yX1_selectsBypass cX1_selectsBypass 1 (some .boolean))) := zGV zt270 zt271 zt272 zt8 zt273
theorem gS_L_108 : GoodIn zW (va_wsS RL 108 yL_refuses (zws yL_refuses cL_refuses 5 (some .boolean))) := zGS zt274 zt275 zt5 zt276
theorem gS_L_85 : GoodIn zW (va_wsS RL 85 yL_refusesAny (zws yL_refusesAny cL_refusesAny 7 (some .boolean))) := zGS zt277 zt278 zt5 zt279
theorem gV_L_34 : GoodIn zW (wsV RL 34 RX6 yX6_add (zws yX6_add cX6_add 4 (some .int))) := zGV zt280 zt281 zt282 zt6 zt283
theorem gS_X6_44 : GoodIn zW (va_wsS RX6 44 yX6_isIdentity (zws yX6_isIdentity cX6_isIdentity 1 (some .boolean))) := zGS zt284 zt285 zt6 zt286
theorem gV_X6_56 : GoodIn zW (wsV RX6 56 RX0 yX0_putBehind (zws yX0_putBehind cX0_putBehind 5 (some .int))) := zGV zt287 zt288 zt289 zt7 zt290
theorem gV_X0_41 : GoodIn zW (wsV RX0 41 RX1 yX1_beNew (zws yX1_beNew cX1_beNew 4 none)) := zGV zt291 zt292 zt293 zt8 zt294
theorem gV_X1_34 : GoodIn zW (wsV RX1 34 RX1 yX1_giveFirstInstruction (zws yX1_giveFirstInstruction cX1_giveFirstInstruction 1 none)) := zGV zt295 zt296 zt297 zt8 zt298
theorem gV_X1_54 : GoodIn zW (wsV RX1 54 RX1 yX1_giveInstruction (zws yX1_giveInstruction cX1_giveInstruction 2 none)) := zGV zt302 zt303 zt304 zt8 zt305
theorem gV_L_40 : GoodIn zW (wsV RL 40 RX6 yX6_take (zws yX6_take cX6_take 2 (some .int))) := zGV zt306 zt307 zt308 zt6 zt309
theorem gV_X6_63 : GoodIn zW (wsV RX6 63 RX0 yX0_takeOut (zws yX0_takeOut cX0_takeOut 4 (some .int))) := zGV zt310 zt311 zt312 zt7 zt313
theorem gV_L_43 : GoodIn zW (wsV RL 43 RX6 yX6_setPins (zws yX6_setPins cX6_setPins 3 (some .int))) := zGV zt314 zt315 zt316 zt6 zt317
theorem gV_X6_71 : GoodIn zW (wsV RX6 71 RX1 yX1_changePins (zws yX1_changePins cX1_changePins 3 (some .int))) := zGV zt318 zt319 zt320 zt8 zt321
theorem gV_L_46 : GoodIn zW (wsV RL 46 RX6 yX6_breakChip (zws yX6_breakChip cX6_breakChip 3 (some .int))) := zGV zt322 zt323 zt324 zt6 zt325
theorem gV_L_50 : GoodIn zW (wsV RL 50 RX6 yX6_clock (zws yX6_clock cX6_clock 3 (some .int))) := zGV zt326 zt327 zt328 zt6 zt329
theorem gV_X6_83 : GoodIn zW (wsV RX6 83 RX0 yX0_tick (zws yX0_tick cX0_tick 5 (some .int))) := zGV zt330 zt331 zt332 zt7 zt333
theorem gV_X0_63 : GoodIn zW (wsV RX0 63 RX0 yX0_outputWith (zws yX0_outputWith cX0_outputWith 3 (some .int))) := zGV zt334 zt251 zt252 zt7 zt253
theorem gV_X0_67 : GoodIn zW (wsV RX0 67 RX0 yX0_shiftAllData (zws yX0_shiftAllData cX0_shiftAllData 5 none)) := zGV zt335 zt337 zt1 zt7 zt338
theorem gV_X0_102 : GoodIn zW (wsV RX0 102 RX1 yX1_shiftData (zws yX1_shiftData cX1_shiftData 2 none)) := zGV zt339 zt340 zt341 zt8 zt342
theorem gS_X1_62 : GoodIn zW (va_wsS RX1 62 yX1_shifted (zws yX1_shifted cX1_shifted 3 (some .int))) := zGS zt343 zt344 zt8 zt345
theorem gV_X0_71 : GoodIn zW (wsV RX0 71 RX0 yX0_shiftAllCodes (zws yX0_shiftAllCodes cX0_shiftAllCodes 5 none)) := zGV zt346 zt348 zt2 zt7 zt349
theorem gV_X0_105 : GoodIn zW (wsV RX0 105 RX1 yX1_shiftCode (zws yX1_shiftCode cX1_shiftCode 2 none)) := zGV zt350 zt351 zt352 zt8 zt353
theorem gV_X0_74 : GoodIn zW (wsV RX0 74 RX0 yX0_workOf (zws yX0_workOf cX0_workOf 2 none)) := zGV zt354 zt356 zt3 zt7 zt357
theorem gV_X0_87 : GoodIn zW (wsV RX0 87 RX1 yX1_giveFirstInstruction (zws yX1_giveFirstInstruction cX1_giveFirstInstruction 1 none)) := zGV zt358 zt296 zt297 zt8 zt298
theorem gV_X0_90 : GoodIn zW (wsV RX0 90 RX1 yX1_captureData (zws yX1_captureData cX1_captureData 1 none)) := zGV zt359 zt360 zt361 zt8 zt362
theorem gV_X0_93 : GoodIn zW (wsV RX0 93 RX1 yX1_updateData (zws yX1_updateData cX1_updateData 1 none)) := zGV zt363 zt364 zt365 zt8 zt366
theorem gV_X0_99 : GoodIn zW (wsV RX0 99 RX1 yX1_giveInstruction (zws yX1_giveInstruction cX1_giveInstruction 2 none)) := zGV zt367 zt303 zt304 zt8 zt305
theorem gS_X0_77 : GoodIn zW (va_wsS RX0 77 yX2_next (zws yX2_next cX2_next 2 (some .int))) := zGS zt368 zt369 zt11 zt370
theorem gS_X2_9 : GoodIn zW (va_wsS RX2 9 yX2_isState (zws yX2_isState cX2_isState 1 (some .boolean))) := zGS zt371 zt372 zt11 zt373
theorem gV_L_53 : GoodIn zW (wsV RL 53 RX6 yX6_move (zws yX6_move cX6_move 2 (some .int))) := zGV zt378 zt379 zt380 zt6 zt381
theorem gS_X6_87 : GoodIn zW (va_wsS RX6 87 yX2_isState (zws yX2_isState cX2_isState 1 (some .boolean))) := zGS zt382 zt372 zt11 zt373
theorem gS_X6_92 : GoodIn zW (va_wsS RX6 92 yX4_goTo (zws yX4_goTo cX4_goTo 6 (some .int))) := zGS zt383 zt384 zt12 zt385
theorem gS_X4_15 : GoodIn zW (va_wsS RX4 15 yX2_clocksBetween (zws yX2_clocksBetween cX2_clocksBetween 4 (some .int))) := zGS zt386 zt387 zt11 zt388
theorem gS_X2_20 : GoodIn zW (va_wsS RX2 20 yX2_nextOfAll (zws yX2_nextOfAll cX2_nextOfAll 3 (some .int))) := zGS zt389 zt390 zt11 zt391
theorem gS_X2_24 : GoodIn zW (va_wsS RX2 24 yX2_next (zws yX2_next cX2_next 2 (some .int))) := zGS zt392 zt369 zt11 zt370
theorem gS_X4_21 : GoodIn zW (va_wsS RX4 21 yX2_next (zws yX2_next cX2_next 2 (some .int))) := zGS zt393 zt369 zt11 zt370
theorem gV_X4_24 : GoodIn zW (wsV RX4 24 RX0 yX0_tick (zws yX0_tick cX0_tick 5 (some .int))) := zGV zt394 zt331 zt332 zt7 zt333
theorem gV_L_56 : GoodIn zW (wsV RL 56 RX6 yX6_load (zws yX6_load cX6_load 3 (some .int))) := zGV zt395 zt396 zt397 zt6 zt398
theorem gS_X6_102 : GoodIn zW (va_wsS RX6 102 yX4_loadInstruction (zws yX4_loadInstruction cX4_loadInstruction 6 none)) := zGS zt399 zt400 zt12 zt401
theorem gS_X4_29 : GoodIn zW (va_wsS RX4 29 yX4_goTo (zws yX4_goTo cX4_goTo 6 (some .int))) := zGS zt402 zt384 zt12 zt385
theorem gS_X4_63 : GoodIn zW (va_wsS RX4 63 yX4_shiftThrough (zws yX4_shiftThrough cX4_shiftThrough 7 (some .int))) := zGS zt404 zt405 zt12 zt406
theorem gV_X6_106 : GoodIn zW (wsV RX6 106 RX1 yX1_dataBits (zws yX1_dataBits cX1_dataBits 1 (some .int))) := zGV zt407 zt201 zt202 zt8 zt203
theorem gV_L_59 : GoodIn zW (wsV RL 59 RX6 yX6_exchange (zws yX6_exchange cX6_exchange 4 (some .int))) := zGV zt408 zt409 zt410 zt6 zt411
theorem gV_X6_109 : GoodIn zW (wsV RX6 109 RX6 yX6_exchangeError (zws yX6_exchangeError cX6_exchangeError 3 (some .int))) := zGV zt412 zt414 zt4 zt6 zt415
theorem gS_X6_112 : GoodIn zW (va_wsS RX6 112 yX4_exchangeData (zws yX4_exchangeData cX4_exchangeData 7 (some .int))) := zGS zt416 zt417 zt12 zt418
theorem gV_X4_67 : GoodIn zW (wsV RX4 67 RX1 yX1_dataBits (zws yX1_dataBits cX1_dataBits 1 (some .int))) := zGV zt419 zt201 zt202 zt8 zt203
theorem gV_L_62 : GoodIn zW (wsV RL 62 RX6 yX6_distance (zws yX6_distance cX6_distance 3 (some .int))) := zGV zt420 zt421 zt422 zt6 zt423
theorem gS_X6_161 : GoodIn zW (va_wsS RX6 161 yX2_clocksBetween (zws yX2_clocksBetween cX2_clocksBetween 4 (some .int))) := zGS zt424 zt387 zt11 zt388
theorem gV_L_65 : GoodIn zW (wsV RL 65 RX6 yX6_ifExchanged (zws yX6_ifExchanged cX6_ifExchanged 4 (some .int))) := zGV zt425 zt426 zt427 zt6 zt428
theorem gV_L_68 : GoodIn zW (wsV RL 68 RX6 yX6_append (zws yX6_append cX6_append 2 (some .int))) := zGV zt429 zt430 zt431 zt6 zt432
theorem gV_X6_119 : GoodIn zW (wsV RX6 119 RX5 yX5_write (zws yX5_write cX5_write 2 (some .int))) := zGV zt433 zt434 zt435 zt10 zt436
theorem gV_L_71 : GoodIn zW (wsV RL 71 RX6 yX6_clearText (zws yX6_clearText cX6_clearText 1 (some .int))) := zGV zt437 zt438 zt439 zt6 zt440
theorem gV_X6_122 : GoodIn zW (wsV RX6 122 RX5 yX5_wipe (zws yX5_wipe cX5_wipe 2 (some .int))) := zGV zt441 zt442 zt443 zt10 zt444
theorem gV_L_75 : GoodIn zW (wsV RL 75 RX6 yX6_fault (zws yX6_fault cX6_fault 1 (some .int))) := zGV zt445 zt446 zt447 zt6 zt448
theorem gV_X6_125 : GoodIn zW (wsV RX6 125 RX5 yX5_firstFault (zws yX5_firstFault cX5_firstFault 5 (some .int))) := zGV zt449 zt450 zt451 zt10 zt452
theorem gS_X5_19 : GoodIn zW (va_wsS RX5 19 yX5_hexValue (zws yX5_hexValue cX5_hexValue 1 (some .int))) := zGS zt453 zt454 zt10 zt455
theorem gS_X5_23 : GoodIn zW (va_wsS RX5 23 yX5_startsItem (zws yX5_startsItem cX5_startsItem 1 (some .boolean))) := zGS zt456 zt457 zt10 zt458
theorem gV_L_78 : GoodIn zW (wsV RL 78 RX6 yX6_run (zws yX6_run cX6_run 2 (some .int))) := zGV zt459 zt460 zt461 zt6 zt462
theorem gS_X6_128 : GoodIn zW (va_wsS RX6 128 yX4_carryOut (zws yX4_carryOut cX4_carryOut 7 (some .int))) := zGS zt463 zt464 zt12 zt465
theorem gV_X4_80 : GoodIn zW (wsV RX4 80 RX5 yX5_hexAt (zws yX5_hexAt cX5_hexAt 2 (some .int))) := zGV zt466 zt467 zt468 zt10 zt469
theorem gS_X4_83 : GoodIn zW (va_wsS RX4 83 yX4_clockItem (zws yX4_clockItem cX4_clockItem 4 none)) := zGS zt470 zt471 zt12 zt472
theorem gS_L_126 : GoodIn zW (va_wsS RL 126 yL_areWays (zws yL_areWays cL_areWays 5 (some .boolean))) := zGS zt473 zt474 zt5 zt475
theorem gS_L_118 : GoodIn zW (va_wsS RL 118 yL_act (zws yL_act cL_act 8 (some .int))) := zGS zt476 zt477 zt5 zt478
theorem gS_L_89 : GoodIn zW (va_wsS RL 89 yL_change (zws yL_change cL_change 8 (some .int))) := zGS zt479 zt480 zt5 zt481
theorem gS_L_93 : GoodIn zW (va_wsS RL 93 yL_clock (zws yL_clock cL_clock 11 (some .int))) := zGS zt482 zt483 zt5 zt484
theorem gV_L_95 : GoodIn zW (wsV RL 95 RX6 yX6_ifIdentified (zws yX6_ifIdentified cX6_ifIdentified 1 (some .int))) := zGV zt485 zt486 zt487 zt6 zt488
theorem gS_X6_98 : GoodIn zW (va_wsS RX6 98 yX4_readIdentities (zws yX4_readIdentities cX4_readIdentities 3 (some .int))) := zGS zt489 zt490 zt12 zt491
theorem gV_X4_33 : GoodIn zW (wsV RX4 33 RX0 yX0_forgetIdentities (zws yX0_forgetIdentities cX0_forgetIdentities 1 none)) := zGV zt492 zt493 zt494 zt7 zt495
theorem gS_X4_36 : GoodIn zW (va_wsS RX4 36 yX4_readIdentity (zws yX4_readIdentity cX4_readIdentity 3 (some .int))) := zGS zt496 zt497 zt12 zt498
theorem gV_X4_40 : GoodIn zW (wsV RX4 40 RX0 yX0_keepIdentity (zws yX0_keepIdentity cX0_keepIdentity 2 none)) := zGV zt499 zt500 zt501 zt7 zt502
theorem gV_L_98 : GoodIn zW (wsV RL 98 RX6 yX6_identify (zws yX6_identify cX6_identify 1 (some .int))) := zGV zt503 zt504 zt505 zt6 zt506
theorem fl_X1_9 {p s m args meth c cc nL own G} (cx : Cx p s m args meth c cc nL own G) : zFL s args RX1 9 "ScanChain$Chip" "codeLength" "I" := Or.inl (cx.1.2.2.2.2 _ zt34)
theorem fl_X1_15 {p s m args meth c cc nL own G} (cx : Cx p s m args meth c cc nL own G) : zFL s args RX1 15 "ScanChain$Chip" "identity" "I" := Or.inl (cx.1.2.2.2.2 _ zt37)
theorem fl_X1_18 {p s m args meth c cc nL own G} (cx : Cx p s m args meth c cc nL own G) : zFL s args RX1 18 "ScanChain$Chip" "cells" "I" := Or.inl (cx.1.2.2.2.2 _ zt39)
theorem fl_X1_21 {p s m args meth c cc nL own G} (cx : Cx p s m args meth c cc nL own G) : zFL s args RX1 21 "ScanChain$Chip" "pins" "I" := Or.inl (cx.1.2.2.2.2 _ zt40)
theorem fl_X1_24 {p s m args meth c cc nL own G} (cx : Cx p s m args meth c cc nL own G) : zFL s args RX1 24 "ScanChain$Chip" "outputs" "I" := Or.inl (cx.1.2.2.2.2 _ zt41)
theorem fl_X1_27 {p s m args meth c cc nL own G} (cx : Cx p s m args meth c cc nL own G) : zFL s args RX1 27 "ScanChain$Chip" "isBroken" "Z" := Or.inl (cx.1.2.2.2.2 _ zt42)
theorem fl_X1_37 {p s m args meth c cc nL own G} (cx : Cx p s m args meth c cc nL own G) : zFL s args RX1 37 "ScanChain$Chip" "instruction" "I" := Or.inl (cx.1.2.2.2.2 _ zt45)
theorem fl_X1_31 {p s m args meth c cc nL own G} (cx : Cx p s m args meth c cc nL own G) : zFL s args RX1 31 "ScanChain$Chip" "codeRegister" "I" := Or.inl (cx.1.2.2.2.2 _ zt46)
theorem fl_X1_40 {p s m args meth c cc nL own G} (cx : Cx p s m args meth c cc nL own G) : zFL s args RX1 40 "ScanChain$Chip" "dataRegister" "I" := Or.inl (cx.1.2.2.2.2 _ zt48)
theorem fl_X0_11 {p s m args meth c cc nL own G} (cx : Cx p s m args meth c cc nL own G) : zFL s args RX0 11 "ScanChain$Chain" "chips" "[LScanChain$Chip;" := Or.inl (cx.1.2.2.2.2 _ zt68)
theorem fl_X0_18 {p s m args meth c cc nL own G} (cx : Cx p s m args meth c cc nL own G) : zFL s args RX0 18 "ScanChain$Chain" "size" "I" := Or.inl (cx.1.2.2.2.2 _ zt71)
theorem fl_X0_24 {p s m args meth c cc nL own G} (cx : Cx p s m args meth c cc nL own G) : zFL s args RX0 24 "ScanChain$Chain" "state" "I" := Or.inl (cx.1.2.2.2.2 _ zt74)
theorem fl_X0_27 {p s m args meth c cc nL own G} (cx : Cx p s m args meth c cc nL own G) : zFL s args RX0 27 "ScanChain$Chain" "clocks" "I" := Or.inl (cx.1.2.2.2.2 _ zt77)
theorem fl_X0_30 {p s m args meth c cc nL own G} (cx : Cx p s m args meth c cc nL own G) : zFL s args RX0 30 "ScanChain$Chain" "identities" "[I" := Or.inl (cx.1.2.2.2.2 _ zt79)
theorem fl_X0_34 {p s m args meth c cc nL own G} (cx : Cx p s m args meth c cc nL own G) : zFL s args RX0 34 "ScanChain$Chain" "identityCount" "I" := Or.inl (cx.1.2.2.2.2 _ zt81)
theorem fl_X3_11 {p s m args meth c cc nL own G} (cx : Cx p s m args meth c cc nL own G) : zFL s args RX3 11 "ScanChain$History" "records" "[LScanChain$Chain;" := Or.inl (cx.1.2.2.2.2 _ zt107)
theorem fl_X3_18 {p s m args meth c cc nL own G} (cx : Cx p s m args meth c cc nL own G) : zFL s args RX3 18 "ScanChain$History" "size" "I" := Or.inl (cx.1.2.2.2.2 _ zt108)
theorem fl_X5_9 {p s m args meth c cc nL own G} (cx : Cx p s m args meth c cc nL own G) : zFL s args RX5 9 "ScanChain$Script" "characters" "[C" := Or.inl (cx.1.2.2.2.2 _ zt121)
theorem fl_X5_15 {p s m args meth c cc nL own G} (cx : Cx p s m args meth c cc nL own G) : zFL s args RX5 15 "ScanChain$Script" "length" "I" := Or.inl (cx.1.2.2.2.2 _ zt123)
theorem fl_X6_10 {p s m args meth c cc nL own G} (cx : Cx p s m args meth c cc nL own G) : zFL s args RX6 10 "ScanChain" "chain" "LScanChain$Chain;" := Or.inl (cx.1.2.2.2.2 _ zt132)
theorem fl_X6_16 {p s m args meth c cc nL own G} (cx : Cx p s m args meth c cc nL own G) : zFL s args RX6 16 "ScanChain" "trial" "LScanChain$Chain;" := Or.inl (cx.1.2.2.2.2 _ zt133)
theorem fl_X6_19 {p s m args meth c cc nL own G} (cx : Cx p s m args meth c cc nL own G) : zFL s args RX6 19 "ScanChain" "snapshot" "LScanChain$Chain;" := Or.inl (cx.1.2.2.2.2 _ zt134)
theorem fl_X6_22 {p s m args meth c cc nL own G} (cx : Cx p s m args meth c cc nL own G) : zFL s args RX6 22 "ScanChain" "hasSnapshot" "Z" := Or.inl (cx.1.2.2.2.2 _ zt135)
theorem fl_X6_29 {p s m args meth c cc nL own G} (cx : Cx p s m args meth c cc nL own G) : zFL s args RX6 29 "ScanChain" "history" "LScanChain$History;" := Or.inl (cx.1.2.2.2.2 _ zt136)
theorem fl_X6_36 {p s m args meth c cc nL own G} (cx : Cx p s m args meth c cc nL own G) : zFL s args RX6 36 "ScanChain" "script" "LScanChain$Script;" := Or.inl (cx.1.2.2.2.2 _ zt137)
theorem fl_X2_13 {p s m args meth c cc nL own G} (cx : Cx p s m args meth c cc nL own G) : zFL s args RX2 13 "ScanChain$Controller" "NEXT_BY_MODE_0" "[I" := Or.inl (cx.1.2.2.2.2 _ zt374)
theorem fl_X2_17 {p s m args meth c cc nL own G} (cx : Cx p s m args meth c cc nL own G) : zFL s args RX2 17 "ScanChain$Controller" "NEXT_BY_MODE_1" "[I" := Or.inl (cx.1.2.2.2.2 _ zt376)
theorem ml_X0_17 {p s m args meth c cc nL own G} (cx : Cx p s m args meth c cc nL own G) : va_Nw (.methodLinkNest RX0 17 yX1_init "ScanChain") s := cx.2.1.2.1 _ (List.mem_of_getElem? (i := 0) rfl)
theorem fl_X4_54 {p s m args meth c cc nL own G} (cx : Cx p s m args meth c cc nL own G) : zFL s args RX4 54 "ScanChain$Chip" "codeLength" "I" := Or.inr ⟨_, va_Nw.use rfl (cx.2.1.2.1 _ (List.mem_of_getElem? (i := 1) rfl))⟩
theorem fl_X0_56 {p s m args meth c cc nL own G} (cx : Cx p s m args meth c cc nL own G) : zFL s args RX0 56 "ScanChain$Chip" "codeLength" "I" := Or.inr ⟨_, va_Nw.use rfl (cx.2.1.2.1 _ (List.mem_of_getElem? (i := 2) rfl))⟩
theorem fl_X0_45 {p s m args meth c cc nL own G} (cx : Cx p s m args meth c cc nL own G) : zFL s args RX0 45 "ScanChain$Chip" "identity" "I" := Or.inr ⟨_, va_Nw.use rfl (cx.2.1.2.1 _ (List.mem_of_getElem? (i := 3) rfl))⟩
theorem fl_X6_76 {p s m args meth c cc nL own G} (cx : Cx p s m args meth c cc nL own G) : zFL s args RX6 76 "ScanChain$Chip" "isBroken" "Z" := Or.inr ⟨_, va_Nw.use rfl (cx.2.1.2.1 _ (List.mem_of_getElem? (i := 4) rfl))⟩
theorem fl_X0_48 {p s m args meth c cc nL own G} (cx : Cx p s m args meth c cc nL own G) : zFL s args RX0 48 "ScanChain$Chip" "isBroken" "Z" := Or.inr ⟨_, va_Nw.use rfl (cx.2.1.2.1 _ (List.mem_of_getElem? (i := 5) rfl))⟩
theorem fl_X0_96 {p s m args meth c cc nL own G} (cx : Cx p s m args meth c cc nL own G) : zFL s args RX0 96 "ScanChain$Chip" "codeRegister" "I" := Or.inr ⟨_, va_Nw.use rfl (cx.2.1.2.1 _ (List.mem_of_getElem? (i := 6) rfl))⟩
theorem fl_X6_67 {p s m args meth c cc nL own G} (cx : Cx p s m args meth c cc nL own G) : zFL s args RX6 67 "ScanChain$Chain" "chips" "[LScanChain$Chip;" := Or.inr ⟨_, va_Nw.use rfl (cx.2.1.2.1 _ (List.mem_of_getElem? (i := 7) rfl))⟩
theorem fl_X4_50 {p s m args meth c cc nL own G} (cx : Cx p s m args meth c cc nL own G) : zFL s args RX4 50 "ScanChain$Chain" "chips" "[LScanChain$Chip;" := Or.inr ⟨_, va_Nw.use rfl (cx.2.1.2.1 _ (List.mem_of_getElem? (i := 8) rfl))⟩
theorem fl_X6_48 {p s m args meth c cc nL own G} (cx : Cx p s m args meth c cc nL own G) : zFL s args RX6 48 "ScanChain$Chain" "size" "I" := Or.inr ⟨_, va_Nw.use rfl (cx.2.1.2.1 _ (List.mem_of_getElem? (i := 9) rfl))⟩
theorem fl_X4_47 {p s m args meth c cc nL own G} (cx : Cx p s m args meth c cc nL own G) : zFL s args RX4 47 "ScanChain$Chain" "size" "I" := Or.inr ⟨_, va_Nw.use rfl (cx.2.1.2.1 _ (List.mem_of_getElem? (i := 10) rfl))⟩
theorem fl_X4_9 {p s m args meth c cc nL own G} (cx : Cx p s m args meth c cc nL own G) : zFL s args RX4 9 "ScanChain$Chain" "state" "I" := Or.inr ⟨_, va_Nw.use rfl (cx.2.1.2.1 _ (List.mem_of_getElem? (i := 11) rfl))⟩
theorem fl_X6_141 {p s m args meth c cc nL own G} (cx : Cx p s m args meth c cc nL own G) : zFL s args RX6 141 "ScanChain$Chain" "state" "I" := Or.inr ⟨_, va_Nw.use rfl (cx.2.1.2.1 _ (List.mem_of_getElem? (i := 12) rfl))⟩
theorem fl_X6_144 {p s m args meth c cc nL own G} (cx : Cx p s m args meth c cc nL own G) : zFL s args RX6 144 "ScanChain$Chain" "clocks" "I" := Or.inr ⟨_, va_Nw.use rfl (cx.2.1.2.1 _ (List.mem_of_getElem? (i := 13) rfl))⟩
theorem fl_X6_157 {p s m args meth c cc nL own G} (cx : Cx p s m args meth c cc nL own G) : zFL s args RX6 157 "ScanChain$Chain" "identities" "[I" := Or.inr ⟨_, va_Nw.use rfl (cx.2.1.2.1 _ (List.mem_of_getElem? (i := 14) rfl))⟩
theorem fl_X4_44 {p s m args meth c cc nL own G} (cx : Cx p s m args meth c cc nL own G) : zFL s args RX4 44 "ScanChain$Chain" "identityCount" "I" := Or.inr ⟨_, va_Nw.use rfl (cx.2.1.2.1 _ (List.mem_of_getElem? (i := 15) rfl))⟩
theorem fl_X6_153 {p s m args meth c cc nL own G} (cx : Cx p s m args meth c cc nL own G) : zFL s args RX6 153 "ScanChain$Chain" "identityCount" "I" := Or.inr ⟨_, va_Nw.use rfl (cx.2.1.2.1 _ (List.mem_of_getElem? (i := 16) rfl))⟩
theorem fl_X6_156 {p s m args meth c cc nL own G} (cx : Cx p s m args meth c cc nL own G) : zFL s args RX6 156 "ScanChain$History" "size" "I" := Or.inr ⟨_, va_Nw.use rfl (cx.2.1.2.1 _ (List.mem_of_getElem? (i := 17) rfl))⟩
theorem fl_X4_76 {p s m args meth c cc nL own G} (cx : Cx p s m args meth c cc nL own G) : zFL s args RX4 76 "ScanChain$Script" "characters" "[C" := Or.inr ⟨_, va_Nw.use rfl (cx.2.1.2.1 _ (List.mem_of_getElem? (i := 18) rfl))⟩
theorem fl_X4_71 {p s m args meth c cc nL own G} (cx : Cx p s m args meth c cc nL own G) : zFL s args RX4 71 "ScanChain$Script" "length" "I" := Or.inr ⟨_, va_Nw.use rfl (cx.2.1.2.1 _ (List.mem_of_getElem? (i := 19) rfl))⟩
theorem fl_X6_116 {p s m args meth c cc nL own G} (cx : Cx p s m args meth c cc nL own G) : zFL s args RX6 116 "ScanChain$Script" "length" "I" := Or.inr ⟨_, va_Nw.use rfl (cx.2.1.2.1 _ (List.mem_of_getElem? (i := 20) rfl))⟩
theorem ml_X1_43 {p s m args meth c cc nL own G} (cx : Cx p s m args meth c cc nL own G) : va_Nw (.methodLinkNest RX1 43 yX6_allOnes "ScanChain") s := cx.2.1.2.1 _ (List.mem_of_getElem? (i := 21) rfl)
theorem ml_X4_59 {p s m args meth c cc nL own G} (cx : Cx p s m args meth c cc nL own G) : va_Nw (.methodLinkNest RX4 59 yX6_allOnes "ScanChain") s := cx.2.1.2.1 _ (List.mem_of_getElem? (i := 22) rfl)
end
