section
-- ===== PART A: goes FIRST, ahead of the names: the tables' words, and 'selects' of the private methods out of them =====
/-- a private method of a class that the tables say can be made, by its rows of tables_1 -/
def lw_okq (q : MethodName × Nat) : Prop := (q.1.cls ≠ "java/lang/invoke/MethodHandle" ∧ q.1.cls ≠ "java/lang/invoke/VarHandle") ∧ Cond.instantiable q.1.cls q.2 ∈ tables_1 ∧ Cond.privateMethod q.1 ∈ tables_1 ∧ Cond.instanceMethod q.1 ∈ tables_1
theorem lw_p0 : lw_okq (⟨"ScanChain$History", "dropOldest", "()V"⟩, 2) := ⟨⟨by decide +kernel, by decide +kernel⟩, List.mem_of_getElem? (i := 95) (by decide +kernel), List.mem_of_getElem? (i := 162) (by decide +kernel), List.mem_of_getElem? (i := 163) (by decide +kernel)⟩
theorem lw_p1 : lw_okq (⟨"ScanChain$Chain", "work", "(I)V"⟩, 6) := ⟨⟨by decide +kernel, by decide +kernel⟩, List.mem_of_getElem? (i := 18) (by decide +kernel), List.mem_of_getElem? (i := 241) (by decide +kernel), List.mem_of_getElem? (i := 242) (by decide +kernel)⟩
theorem lw_p2 : lw_okq (⟨"ScanChain$Chain", "shiftAllData", "(I)V"⟩, 6) := ⟨⟨by decide +kernel, by decide +kernel⟩, List.mem_of_getElem? (i := 18) (by decide +kernel), List.mem_of_getElem? (i := 245) (by decide +kernel), List.mem_of_getElem? (i := 246) (by decide +kernel)⟩
theorem lw_p3 : lw_okq (⟨"ScanChain$Chain", "shiftAllCodes", "(I)V"⟩, 6) := ⟨⟨by decide +kernel, by decide +kernel⟩, List.mem_of_getElem? (i := 18) (by decide +kernel), List.mem_of_getElem? (i := 268) (by decide +kernel), List.mem_of_getElem? (i := 269) (by decide +kernel)⟩
theorem lw_p4 : lw_okq (⟨"ScanChain$Chain", "workOf", "(LScanChain$Chip;)V"⟩, 6) := ⟨⟨by decide +kernel, by decide +kernel⟩, List.mem_of_getElem? (i := 18) (by decide +kernel), List.mem_of_getElem? (i := 276) (by decide +kernel), List.mem_of_getElem? (i := 277) (by decide +kernel)⟩
theorem lw_p5 : lw_okq (⟨"ScanChain", "exchangeError", "(II)I"⟩, 6) := ⟨⟨by decide +kernel, by decide +kernel⟩, List.mem_of_getElem? (i := 10) (by decide +kernel), List.mem_of_getElem? (i := 352) (by decide +kernel), List.mem_of_getElem? (i := 353) (by decide +kernel)⟩
theorem lw_p6 : lw_okq (⟨"ScanChainModel", "record", "()V"⟩, 9) := ⟨⟨by decide +kernel, by decide +kernel⟩, List.mem_of_getElem? (i := 476) (by decide +kernel), List.mem_of_getElem? (i := 525) (by decide +kernel), List.mem_of_getElem? (i := 526) (by decide +kernel)⟩
theorem lw_p7 : lw_okq (⟨"ScanChainModel", "lay", "(III)V"⟩, 9) := ⟨⟨by decide +kernel, by decide +kernel⟩, List.mem_of_getElem? (i := 476) (by decide +kernel), List.mem_of_getElem? (i := 536) (by decide +kernel), List.mem_of_getElem? (i := 537) (by decide +kernel)⟩
theorem lw_p8 : lw_okq (⟨"ScanChainModel", "giveFirst", "(I)V"⟩, 9) := ⟨⟨by decide +kernel, by decide +kernel⟩, List.mem_of_getElem? (i := 476) (by decide +kernel), List.mem_of_getElem? (i := 540) (by decide +kernel), List.mem_of_getElem? (i := 541) (by decide +kernel)⟩
theorem lw_p9 : lw_okq (⟨"ScanChainModel", "of", "(II)I"⟩, 9) := ⟨⟨by decide +kernel, by decide +kernel⟩, List.mem_of_getElem? (i := 476) (by decide +kernel), List.mem_of_getElem? (i := 544) (by decide +kernel), List.mem_of_getElem? (i := 545) (by decide +kernel)⟩
theorem lw_p10 : lw_okq (⟨"ScanChainModel", "give", "(II)V"⟩, 9) := ⟨⟨by decide +kernel, by decide +kernel⟩, List.mem_of_getElem? (i := 476) (by decide +kernel), List.mem_of_getElem? (i := 551) (by decide +kernel), List.mem_of_getElem? (i := 552) (by decide +kernel)⟩
theorem lw_p11 : lw_okq (⟨"ScanChainModel", "isChip", "(I)Z"⟩, 9) := ⟨⟨by decide +kernel, by decide +kernel⟩, List.mem_of_getElem? (i := 476) (by decide +kernel), List.mem_of_getElem? (i := 559) (by decide +kernel), List.mem_of_getElem? (i := 560) (by decide +kernel)⟩
theorem lw_p12 : lw_okq (⟨"ScanChainModel", "sum", "(I)I"⟩, 9) := ⟨⟨by decide +kernel, by decide +kernel⟩, List.mem_of_getElem? (i := 476) (by decide +kernel), List.mem_of_getElem? (i := 571) (by decide +kernel), List.mem_of_getElem? (i := 572) (by decide +kernel)⟩
theorem lw_p13 : lw_okq (⟨"ScanChainModel", "clockNow", "(II)I"⟩, 9) := ⟨⟨by decide +kernel, by decide +kernel⟩, List.mem_of_getElem? (i := 476) (by decide +kernel), List.mem_of_getElem? (i := 579) (by decide +kernel), List.mem_of_getElem? (i := 580) (by decide +kernel)⟩
theorem lw_p14 : lw_okq (⟨"ScanChainModel", "output", "(I)I"⟩, 9) := ⟨⟨by decide +kernel, by decide +kernel⟩, List.mem_of_getElem? (i := 476) (by decide +kernel), List.mem_of_getElem? (i := 583) (by decide +kernel), List.mem_of_getElem? (i := 584) (by decide +kernel)⟩
theorem lw_p15 : lw_okq (⟨"ScanChainModel", "isShifting", "()Z"⟩, 9) := ⟨⟨by decide +kernel, by decide +kernel⟩, List.mem_of_getElem? (i := 476) (by decide +kernel), List.mem_of_getElem? (i := 587) (by decide +kernel), List.mem_of_getElem? (i := 588) (by decide +kernel)⟩
def lw_privs_1 : List (MethodName × Nat) := [(⟨"ScanChain$History", "dropOldest", "()V"⟩, 2), (⟨"ScanChain$Chain", "work", "(I)V"⟩, 6), (⟨"ScanChain$Chain", "shiftAllData", "(I)V"⟩, 6), (⟨"ScanChain$Chain", "shiftAllCodes", "(I)V"⟩, 6), (⟨"ScanChain$Chain", "workOf", "(LScanChain$Chip;)V"⟩, 6), (⟨"ScanChain", "exchangeError", "(II)I"⟩, 6), (⟨"ScanChainModel", "record", "()V"⟩, 9), (⟨"ScanChainModel", "lay", "(III)V"⟩, 9), (⟨"ScanChainModel", "giveFirst", "(I)V"⟩, 9), (⟨"ScanChainModel", "of", "(II)I"⟩, 9), (⟨"ScanChainModel", "give", "(II)V"⟩, 9), (⟨"ScanChainModel", "isChip", "(I)Z"⟩, 9), (⟨"ScanChainModel", "sum", "(I)I"⟩, 9), (⟨"ScanChainModel", "clockNow", "(II)I"⟩, 9), (⟨"ScanChainModel", "output", "(I)I"⟩, 9), (⟨"ScanChainModel", "isShifting", "()Z"⟩, 9)]
theorem lw_r1 : ∀ q ∈ lw_privs_1, lw_okq q := List.forall_mem_cons.mpr ⟨lw_p0, List.forall_mem_cons.mpr ⟨lw_p1, List.forall_mem_cons.mpr ⟨lw_p2, List.forall_mem_cons.mpr ⟨lw_p3, List.forall_mem_cons.mpr ⟨lw_p4, List.forall_mem_cons.mpr ⟨lw_p5, List.forall_mem_cons.mpr ⟨lw_p6, List.forall_mem_cons.mpr ⟨lw_p7, List.forall_mem_cons.mpr ⟨lw_p8, List.forall_mem_cons.mpr ⟨lw_p9, List.forall_mem_cons.mpr ⟨lw_p10, List.forall_mem_cons.mpr ⟨lw_p11, List.forall_mem_cons.mpr ⟨lw_p12, List.forall_mem_cons.mpr ⟨lw_p13, List.forall_mem_cons.mpr ⟨lw_p14, List.forall_mem_cons.mpr ⟨lw_p15, fun _ h => absurd h List.not_mem_nil⟩⟩⟩⟩⟩⟩⟩⟩⟩⟩⟩⟩⟩⟩⟩⟩
theorem lw_p16 : lw_okq (⟨"ScanChainModel", "outputOf", "(I)I"⟩, 9) := ⟨⟨by decide +kernel, by decide +kernel⟩, List.mem_of_getElem? (i := 476) (by decide +kernel), List.mem_of_getElem? (i := 591) (by decide +kernel), List.mem_of_getElem? (i := 592) (by decide +kernel)⟩
theorem lw_p17 : lw_okq (⟨"ScanChainModel", "shifted", "()I"⟩, 9) := ⟨⟨by decide +kernel, by decide +kernel⟩, List.mem_of_getElem? (i := 476) (by decide +kernel), List.mem_of_getElem? (i := 595) (by decide +kernel), List.mem_of_getElem? (i := 596) (by decide +kernel)⟩
theorem lw_p18 : lw_okq (⟨"ScanChainModel", "shift", "(I)V"⟩, 9) := ⟨⟨by decide +kernel, by decide +kernel⟩, List.mem_of_getElem? (i := 476) (by decide +kernel), List.mem_of_getElem? (i := 599) (by decide +kernel), List.mem_of_getElem? (i := 600) (by decide +kernel)⟩
theorem lw_p19 : lw_okq (⟨"ScanChainModel", "bits", "(I)I"⟩, 9) := ⟨⟨by decide +kernel, by decide +kernel⟩, List.mem_of_getElem? (i := 476) (by decide +kernel), List.mem_of_getElem? (i := 603) (by decide +kernel), List.mem_of_getElem? (i := 604) (by decide +kernel)⟩
theorem lw_p20 : lw_okq (⟨"ScanChainModel", "selectsCells", "(I)Z"⟩, 9) := ⟨⟨by decide +kernel, by decide +kernel⟩, List.mem_of_getElem? (i := 476) (by decide +kernel), List.mem_of_getElem? (i := 607) (by decide +kernel), List.mem_of_getElem? (i := 608) (by decide +kernel)⟩
theorem lw_p21 : lw_okq (⟨"ScanChainModel", "selectsIdentity", "(I)Z"⟩, 9) := ⟨⟨by decide +kernel, by decide +kernel⟩, List.mem_of_getElem? (i := 476) (by decide +kernel), List.mem_of_getElem? (i := 611) (by decide +kernel), List.mem_of_getElem? (i := 612) (by decide +kernel)⟩
theorem lw_p22 : lw_okq (⟨"ScanChainModel", "work", "(I)V"⟩, 9) := ⟨⟨by decide +kernel, by decide +kernel⟩, List.mem_of_getElem? (i := 476) (by decide +kernel), List.mem_of_getElem? (i := 615) (by decide +kernel), List.mem_of_getElem? (i := 616) (by decide +kernel)⟩
theorem lw_p23 : lw_okq (⟨"ScanChainModel", "moveNow", "(I)I"⟩, 9) := ⟨⟨by decide +kernel, by decide +kernel⟩, List.mem_of_getElem? (i := 476) (by decide +kernel), List.mem_of_getElem? (i := 626) (by decide +kernel), List.mem_of_getElem? (i := 627) (by decide +kernel)⟩
theorem lw_p24 : lw_okq (⟨"ScanChainModel", "measure", "(I)V"⟩, 9) := ⟨⟨by decide +kernel, by decide +kernel⟩, List.mem_of_getElem? (i := 476) (by decide +kernel), List.mem_of_getElem? (i := 630) (by decide +kernel), List.mem_of_getElem? (i := 631) (by decide +kernel)⟩
theorem lw_p25 : lw_okq (⟨"ScanChainModel", "identifyNow", "()V"⟩, 9) := ⟨⟨by decide +kernel, by decide +kernel⟩, List.mem_of_getElem? (i := 476) (by decide +kernel), List.mem_of_getElem? (i := 638) (by decide +kernel), List.mem_of_getElem? (i := 639) (by decide +kernel)⟩
theorem lw_p26 : lw_okq (⟨"ScanChainModel", "readOne", "()I"⟩, 9) := ⟨⟨by decide +kernel, by decide +kernel⟩, List.mem_of_getElem? (i := 476) (by decide +kernel), List.mem_of_getElem? (i := 642) (by decide +kernel), List.mem_of_getElem? (i := 643) (by decide +kernel)⟩
theorem lw_p27 : lw_okq (⟨"ScanChainModel", "clockBits", "(III)I"⟩, 9) := ⟨⟨by decide +kernel, by decide +kernel⟩, List.mem_of_getElem? (i := 476) (by decide +kernel), List.mem_of_getElem? (i := 650) (by decide +kernel), List.mem_of_getElem? (i := 651) (by decide +kernel)⟩
theorem lw_p28 : lw_okq (⟨"ScanChainModel", "whyNotExchange", "(II)I"⟩, 9) := ⟨⟨by decide +kernel, by decide +kernel⟩, List.mem_of_getElem? (i := 476) (by decide +kernel), List.mem_of_getElem? (i := 658) (by decide +kernel), List.mem_of_getElem? (i := 659) (by decide +kernel)⟩
theorem lw_p29 : lw_okq (⟨"ScanChainModel", "exchangeNow", "(II)I"⟩, 9) := ⟨⟨by decide +kernel, by decide +kernel⟩, List.mem_of_getElem? (i := 476) (by decide +kernel), List.mem_of_getElem? (i := 662) (by decide +kernel), List.mem_of_getElem? (i := 663) (by decide +kernel)⟩
theorem lw_p30 : lw_okq (⟨"ScanChainModel", "allBits", "()I"⟩, 9) := ⟨⟨by decide +kernel, by decide +kernel⟩, List.mem_of_getElem? (i := 476) (by decide +kernel), List.mem_of_getElem? (i := 694) (by decide +kernel), List.mem_of_getElem? (i := 695) (by decide +kernel)⟩
def lw_privs_2 : List (MethodName × Nat) := [(⟨"ScanChainModel", "outputOf", "(I)I"⟩, 9), (⟨"ScanChainModel", "shifted", "()I"⟩, 9), (⟨"ScanChainModel", "shift", "(I)V"⟩, 9), (⟨"ScanChainModel", "bits", "(I)I"⟩, 9), (⟨"ScanChainModel", "selectsCells", "(I)Z"⟩, 9), (⟨"ScanChainModel", "selectsIdentity", "(I)Z"⟩, 9), (⟨"ScanChainModel", "work", "(I)V"⟩, 9), (⟨"ScanChainModel", "moveNow", "(I)I"⟩, 9), (⟨"ScanChainModel", "measure", "(I)V"⟩, 9), (⟨"ScanChainModel", "identifyNow", "()V"⟩, 9), (⟨"ScanChainModel", "readOne", "()I"⟩, 9), (⟨"ScanChainModel", "clockBits", "(III)I"⟩, 9), (⟨"ScanChainModel", "whyNotExchange", "(II)I"⟩, 9), (⟨"ScanChainModel", "exchangeNow", "(II)I"⟩, 9), (⟨"ScanChainModel", "allBits", "()I"⟩, 9)]
theorem lw_r2 : ∀ q ∈ lw_privs_2, lw_okq q := List.forall_mem_cons.mpr ⟨lw_p16, List.forall_mem_cons.mpr ⟨lw_p17, List.forall_mem_cons.mpr ⟨lw_p18, List.forall_mem_cons.mpr ⟨lw_p19, List.forall_mem_cons.mpr ⟨lw_p20, List.forall_mem_cons.mpr ⟨lw_p21, List.forall_mem_cons.mpr ⟨lw_p22, List.forall_mem_cons.mpr ⟨lw_p23, List.forall_mem_cons.mpr ⟨lw_p24, List.forall_mem_cons.mpr ⟨lw_p25, List.forall_mem_cons.mpr ⟨lw_p26, List.forall_mem_cons.mpr ⟨lw_p27, List.forall_mem_cons.mpr ⟨lw_p28, List.forall_mem_cons.mpr ⟨lw_p29, List.forall_mem_cons.mpr ⟨lw_p30, fun _ h => absurd h List.not_mem_nil⟩⟩⟩⟩⟩⟩⟩⟩⟩⟩⟩⟩⟩⟩⟩
def lw_privs : List (MethodName × Nat) := lw_privs_1 ++ (lw_privs_2)
def lw_tbl : List Cond := k2_sels lw_privs ++ tables_1
theorem lw_privs_ok : ∀ q ∈ lw_privs, lw_okq q := by
  show ∀ q ∈ lw_privs_1 ++ (lw_privs_2), lw_okq q
  exact List.forall_mem_append.mpr ⟨lw_r1, lw_r2⟩
/-- the streams that the claim lets the run draw from -/
abbrev lw_cs : List Choice := [Jvm.Choice.named "NaN.bits"]
theorem lw_bits : nanBits ∈ lw_cs := by first | decide | exact List.mem_cons_self | simp [lw_cs, nanBits]
end
section
def RX0 : String := "ScanChain$Chain"
def TX0 : u_T := fun k => match k with
  | 0 => ("ScanChain$Chain", "chips", "[LScanChain$Chip;", true)
  | 1 => ("ScanChain$Chain", "size", "I", false)
  | 2 => ("ScanChain$Chain", "state", "I", false)
  | 3 => ("ScanChain$Chain", "clocks", "I", false)
  | 4 => ("ScanChain$Chain", "identities", "[I", true)
  | _ => ("ScanChain$Chain", "identityCount", "I", false)
def tyX0 : Nat → FieldType := fun k => match k with
  | 0 => .array (.object "ScanChain$Chip")
  | 1 => .int
  | 2 => .int
  | 3 => .int
  | 4 => .array .int
  | _ => .int
abbrev wsX00 : List Cond := u_ws RX0 TX0 6
theorem nmX0 : ∀ a, a < 6 → ∀ b, b < 6 → a ≠ b → (TX0 a).2.1 ≠ (TX0 b).2.1 := by decide +kernel
theorem tyX0_ok : ∀ k, k < 6 → parseFieldDescriptor (TX0 k).2.2.1 = some (tyX0 k) := by decide +kernel
abbrev cX0_init : ByteArray := prog_2_method_1_code
def yX0_init : MethodName := ⟨RX0, "<init>", "()V"⟩
abbrev cX0_becomeCopyOf : ByteArray := prog_2_method_2_code
def yX0_becomeCopyOf : MethodName := ⟨RX0, "becomeCopyOf", "(LScanChain$Chain;)V"⟩
abbrev cX0_has : ByteArray := prog_2_method_3_code
def yX0_has : MethodName := ⟨RX0, "has", "(I)Z"⟩
abbrev cX0_putBehind : ByteArray := prog_2_method_4_code
def yX0_putBehind : MethodName := ⟨RX0, "putBehind", "(III)I"⟩
abbrev cX0_takeOut : ByteArray := prog_2_method_5_code
def yX0_takeOut : MethodName := ⟨RX0, "takeOut", "(I)I"⟩
abbrev cX0_brokenChips : ByteArray := prog_2_method_6_code
def yX0_brokenChips : MethodName := ⟨RX0, "brokenChips", "()I"⟩
abbrev cX0_bypassedChips : ByteArray := prog_2_method_7_code
def yX0_bypassedChips : MethodName := ⟨RX0, "bypassedChips", "()I"⟩
abbrev cX0_sumOfCodeLengths : ByteArray := prog_2_method_8_code
def yX0_sumOfCodeLengths : MethodName := ⟨RX0, "sumOfCodeLengths", "()I"⟩
abbrev cX0_sumOfDataBits : ByteArray := prog_2_method_9_code
def yX0_sumOfDataBits : MethodName := ⟨RX0, "sumOfDataBits", "()I"⟩
abbrev cX0_forgetIdentities : ByteArray := prog_2_method_10_code
def yX0_forgetIdentities : MethodName := ⟨RX0, "forgetIdentities", "()V"⟩
abbrev cX0_keepIdentity : ByteArray := prog_2_method_11_code
def yX0_keepIdentity : MethodName := ⟨RX0, "keepIdentity", "(I)V"⟩
abbrev cX0_tick : ByteArray := prog_2_method_12_code
def yX0_tick : MethodName := ⟨RX0, "tick", "(II)I"⟩
abbrev cX0_outputWith : ByteArray := prog_2_method_13_code
def yX0_outputWith : MethodName := ⟨RX0, "outputWith", "(I)I"⟩
abbrev cX0_work : ByteArray := prog_2_method_14_code
def yX0_work : MethodName := ⟨RX0, "work", "(I)V"⟩
abbrev cX0_workOf : ByteArray := prog_2_method_15_code
def yX0_workOf : MethodName := ⟨RX0, "workOf", "(LScanChain$Chip;)V"⟩
abbrev cX0_shiftAllData : ByteArray := prog_2_method_16_code
def yX0_shiftAllData : MethodName := ⟨RX0, "shiftAllData", "(I)V"⟩
abbrev cX0_shiftAllCodes : ByteArray := prog_2_method_17_code
def yX0_shiftAllCodes : MethodName := ⟨RX0, "shiftAllCodes", "(I)V"⟩
def RX1 : String := "ScanChain$Chip"
def TX1 : u_T := fun k => match k with
  | 0 => ("ScanChain$Chip", "codeLength", "I", false)
  | 1 => ("ScanChain$Chip", "identity", "I", false)
  | 2 => ("ScanChain$Chip", "cells", "I", false)
  | 3 => ("ScanChain$Chip", "pins", "I", false)
  | 4 => ("ScanChain$Chip", "outputs", "I", false)
  | 5 => ("ScanChain$Chip", "isBroken", "Z", false)
  | 6 => ("ScanChain$Chip", "instruction", "I", false)
  | 7 => ("ScanChain$Chip", "codeRegister", "I", false)
  | _ => ("ScanChain$Chip", "dataRegister", "I", false)
def tyX1 : Nat → FieldType := fun k => match k with
  | 0 => .int
  | 1 => .int
  | 2 => .int
  | 3 => .int
  | 4 => .int
  | 5 => .boolean
  | 6 => .int
  | 7 => .int
  | _ => .int
abbrev wsX10 : List Cond := u_ws RX1 TX1 9
theorem nmX1 : ∀ a, a < 9 → ∀ b, b < 9 → a ≠ b → (TX1 a).2.1 ≠ (TX1 b).2.1 := by decide +kernel
theorem tyX1_ok : ∀ k, k < 9 → parseFieldDescriptor (TX1 k).2.2.1 = some (tyX1 k) := by decide +kernel
abbrev cX1_init : ByteArray := prog_3_method_1_code
def yX1_init : MethodName := ⟨RX1, "<init>", "()V"⟩
abbrev cX1_beNew : ByteArray := prog_3_method_2_code
def yX1_beNew : MethodName := ⟨RX1, "beNew", "(III)V"⟩
abbrev cX1_becomeCopyOf : ByteArray := prog_3_method_3_code
def yX1_becomeCopyOf : MethodName := ⟨RX1, "becomeCopyOf", "(LScanChain$Chip;)V"⟩
abbrev cX1_changePins : ByteArray := prog_3_method_4_code
def yX1_changePins : MethodName := ⟨RX1, "changePins", "(I)I"⟩
abbrev cX1_selectsCells : ByteArray := prog_3_method_5_code
def yX1_selectsCells : MethodName := ⟨RX1, "selectsCells", "()Z"⟩
abbrev cX1_selectsIdentity : ByteArray := prog_3_method_6_code
def yX1_selectsIdentity : MethodName := ⟨RX1, "selectsIdentity", "()Z"⟩
abbrev cX1_selectsBypass : ByteArray := prog_3_method_7_code
def yX1_selectsBypass : MethodName := ⟨RX1, "selectsBypass", "()Z"⟩
abbrev cX1_dataBits : ByteArray := prog_3_method_8_code
def yX1_dataBits : MethodName := ⟨RX1, "dataBits", "()I"⟩
abbrev cX1_giveInstruction : ByteArray := prog_3_method_9_code
def yX1_giveInstruction : MethodName := ⟨RX1, "giveInstruction", "(I)V"⟩
abbrev cX1_giveFirstInstruction : ByteArray := prog_3_method_10_code
def yX1_giveFirstInstruction : MethodName := ⟨RX1, "giveFirstInstruction", "()V"⟩
abbrev cX1_captureData : ByteArray := prog_3_method_11_code
def yX1_captureData : MethodName := ⟨RX1, "captureData", "()V"⟩
abbrev cX1_updateData : ByteArray := prog_3_method_12_code
def yX1_updateData : MethodName := ⟨RX1, "updateData", "()V"⟩
abbrev cX1_dataOutput : ByteArray := prog_3_method_13_code
def yX1_dataOutput : MethodName := ⟨RX1, "dataOutput", "()I"⟩
abbrev cX1_codeOutput : ByteArray := prog_3_method_14_code
def yX1_codeOutput : MethodName := ⟨RX1, "codeOutput", "()I"⟩
abbrev cX1_shiftData : ByteArray := prog_3_method_15_code
def yX1_shiftData : MethodName := ⟨RX1, "shiftData", "(I)V"⟩
abbrev cX1_shiftCode : ByteArray := prog_3_method_16_code
def yX1_shiftCode : MethodName := ⟨RX1, "shiftCode", "(I)V"⟩
abbrev cX1_shifted : ByteArray := prog_3_method_17_code
def yX1_shifted : MethodName := ⟨RX1, "shifted", "(III)I"⟩
abbrev cX1_tell : ByteArray := prog_3_method_18_code
def yX1_tell : MethodName := ⟨RX1, "tell", "(I)I"⟩
def RX2 : String := "ScanChain$Controller"
def TX2 : u_T := fun k => match k with
  | _ => ("", "", "", false)
def tyX2 : Nat → FieldType := fun k => match k with
  | _ => .int
abbrev wsX20 : List Cond := u_ws RX2 TX2 0
theorem nmX2 : ∀ a, a < 0 → ∀ b, b < 0 → a ≠ b → (TX2 a).2.1 ≠ (TX2 b).2.1 := by decide +kernel
theorem tyX2_ok : ∀ k, k < 0 → parseFieldDescriptor (TX2 k).2.2.1 = some (tyX2 k) := by decide +kernel
abbrev cX2_isState : ByteArray := prog_4_method_2_code
def yX2_isState : MethodName := ⟨RX2, "isState", "(I)Z"⟩
abbrev cX2_next : ByteArray := prog_4_method_3_code
def yX2_next : MethodName := ⟨RX2, "next", "(II)I"⟩
abbrev cX2_clocksBetween : ByteArray := prog_4_method_4_code
def yX2_clocksBetween : MethodName := ⟨RX2, "clocksBetween", "(II)I"⟩
abbrev cX2_nextOfAll : ByteArray := prog_4_method_5_code
def yX2_nextOfAll : MethodName := ⟨RX2, "nextOfAll", "(I)I"⟩
def RX3 : String := "ScanChain$History"
def TX3 : u_T := fun k => match k with
  | 0 => ("ScanChain$History", "records", "[LScanChain$Chain;", true)
  | _ => ("ScanChain$History", "size", "I", false)
def tyX3 : Nat → FieldType := fun k => match k with
  | 0 => .array (.object "ScanChain$Chain")
  | _ => .int
abbrev wsX30 : List Cond := u_ws RX3 TX3 2
theorem nmX3 : ∀ a, a < 2 → ∀ b, b < 2 → a ≠ b → (TX3 a).2.1 ≠ (TX3 b).2.1 := by decide +kernel
theorem tyX3_ok : ∀ k, k < 2 → parseFieldDescriptor (TX3 k).2.2.1 = some (tyX3 k) := by decide +kernel
abbrev cX3_init : ByteArray := prog_5_method_1_code
def yX3_init : MethodName := ⟨RX3, "<init>", "()V"⟩
abbrev cX3_record : ByteArray := prog_5_method_2_code
def yX3_record : MethodName := ⟨RX3, "record", "(LScanChain$Chain;)V"⟩
abbrev cX3_dropOldest : ByteArray := prog_5_method_3_code
def yX3_dropOldest : MethodName := ⟨RX3, "dropOldest", "()V"⟩
abbrev cX3_takeBack : ByteArray := prog_5_method_4_code
def yX3_takeBack : MethodName := ⟨RX3, "takeBack", "(LScanChain$Chain;)I"⟩
def RX4 : String := "ScanChain$Master"
def TX4 : u_T := fun k => match k with
  | _ => ("", "", "", false)
def tyX4 : Nat → FieldType := fun k => match k with
  | _ => .int
abbrev wsX40 : List Cond := u_ws RX4 TX4 0
theorem nmX4 : ∀ a, a < 0 → ∀ b, b < 0 → a ≠ b → (TX4 a).2.1 ≠ (TX4 b).2.1 := by decide +kernel
theorem tyX4_ok : ∀ k, k < 0 → parseFieldDescriptor (TX4 k).2.2.1 = some (tyX4 k) := by decide +kernel
abbrev cX4_goTo : ByteArray := prog_6_method_2_code
def yX4_goTo : MethodName := ⟨RX4, "goTo", "(LScanChain$Chain;I)I"⟩
abbrev cX4_readIdentities : ByteArray := prog_6_method_3_code
def yX4_readIdentities : MethodName := ⟨RX4, "readIdentities", "(LScanChain$Chain;)I"⟩
abbrev cX4_readIdentity : ByteArray := prog_6_method_4_code
def yX4_readIdentity : MethodName := ⟨RX4, "readIdentity", "(LScanChain$Chain;)I"⟩
abbrev cX4_loadInstruction : ByteArray := prog_6_method_5_code
def yX4_loadInstruction : MethodName := ⟨RX4, "loadInstruction", "(LScanChain$Chain;II)V"⟩
abbrev cX4_exchangeData : ByteArray := prog_6_method_6_code
def yX4_exchangeData : MethodName := ⟨RX4, "exchangeData", "(LScanChain$Chain;II)I"⟩
abbrev cX4_shiftThrough : ByteArray := prog_6_method_7_code
def yX4_shiftThrough : MethodName := ⟨RX4, "shiftThrough", "(LScanChain$Chain;IIZ)I"⟩
abbrev cX4_carryOut : ByteArray := prog_6_method_8_code
def yX4_carryOut : MethodName := ⟨RX4, "carryOut", "(LScanChain$Chain;LScanChain$Script;)I"⟩
abbrev cX4_clockItem : ByteArray := prog_6_method_9_code
def yX4_clockItem : MethodName := ⟨RX4, "clockItem", "(LScanChain$Chain;C)V"⟩
def RX5 : String := "ScanChain$Script"
def TX5 : u_T := fun k => match k with
  | 0 => ("ScanChain$Script", "characters", "[C", true)
  | _ => ("ScanChain$Script", "length", "I", false)
def tyX5 : Nat → FieldType := fun k => match k with
  | 0 => .array .char
  | _ => .int
abbrev wsX50 : List Cond := u_ws RX5 TX5 2
theorem nmX5 : ∀ a, a < 2 → ∀ b, b < 2 → a ≠ b → (TX5 a).2.1 ≠ (TX5 b).2.1 := by decide +kernel
theorem tyX5_ok : ∀ k, k < 2 → parseFieldDescriptor (TX5 k).2.2.1 = some (tyX5 k) := by decide +kernel
abbrev cX5_init : ByteArray := prog_7_method_1_code
def yX5_init : MethodName := ⟨RX5, "<init>", "()V"⟩
abbrev cX5_write : ByteArray := prog_7_method_2_code
def yX5_write : MethodName := ⟨RX5, "write", "(I)I"⟩
abbrev cX5_wipe : ByteArray := prog_7_method_3_code
def yX5_wipe : MethodName := ⟨RX5, "wipe", "()I"⟩
abbrev cX5_firstFault : ByteArray := prog_7_method_4_code
def yX5_firstFault : MethodName := ⟨RX5, "firstFault", "()I"⟩
abbrev cX5_hexAt : ByteArray := prog_7_method_5_code
def yX5_hexAt : MethodName := ⟨RX5, "hexAt", "(I)I"⟩
abbrev cX5_startsItem : ByteArray := prog_7_method_6_code
def yX5_startsItem : MethodName := ⟨RX5, "startsItem", "(C)Z"⟩
abbrev cX5_hexValue : ByteArray := prog_7_method_7_code
def yX5_hexValue : MethodName := ⟨RX5, "hexValue", "(C)I"⟩
def RX6 : String := "ScanChain"
def TX6 : u_T := fun k => match k with
  | 0 => ("ScanChain", "chain", "LScanChain$Chain;", true)
  | 1 => ("ScanChain", "trial", "LScanChain$Chain;", true)
  | 2 => ("ScanChain", "snapshot", "LScanChain$Chain;", true)
  | 3 => ("ScanChain", "hasSnapshot", "Z", false)
  | 4 => ("ScanChain", "history", "LScanChain$History;", true)
  | _ => ("ScanChain", "script", "LScanChain$Script;", true)
def tyX6 : Nat → FieldType := fun k => match k with
  | 0 => .object "ScanChain$Chain"
  | 1 => .object "ScanChain$Chain"
  | 2 => .object "ScanChain$Chain"
  | 3 => .boolean
  | 4 => .object "ScanChain$History"
  | _ => .object "ScanChain$Script"
abbrev wsX60 : List Cond := u_ws RX6 TX6 6
theorem nmX6 : ∀ a, a < 6 → ∀ b, b < 6 → a ≠ b → (TX6 a).2.1 ≠ (TX6 b).2.1 := by decide +kernel
theorem tyX6_ok : ∀ k, k < 6 → parseFieldDescriptor (TX6 k).2.2.1 = some (tyX6 k) := by decide +kernel
abbrev cX6_init : ByteArray := prog_1_method_1_code
def yX6_init : MethodName := ⟨RX6, "<init>", "()V"⟩
abbrev cX6_add : ByteArray := prog_1_method_2_code
def yX6_add : MethodName := ⟨RX6, "add", "(III)I"⟩
abbrev cX6_take : ByteArray := prog_1_method_3_code
def yX6_take : MethodName := ⟨RX6, "take", "(I)I"⟩
abbrev cX6_setPins : ByteArray := prog_1_method_4_code
def yX6_setPins : MethodName := ⟨RX6, "setPins", "(II)I"⟩
abbrev cX6_breakChip : ByteArray := prog_1_method_5_code
def yX6_breakChip : MethodName := ⟨RX6, "breakChip", "(IZ)I"⟩
abbrev cX6_clock : ByteArray := prog_1_method_6_code
def yX6_clock : MethodName := ⟨RX6, "clock", "(II)I"⟩
abbrev cX6_move : ByteArray := prog_1_method_7_code
def yX6_move : MethodName := ⟨RX6, "move", "(I)I"⟩
abbrev cX6_identify : ByteArray := prog_1_method_8_code
def yX6_identify : MethodName := ⟨RX6, "identify", "()I"⟩
abbrev cX6_load : ByteArray := prog_1_method_9_code
def yX6_load : MethodName := ⟨RX6, "load", "(II)I"⟩
abbrev cX6_exchange : ByteArray := prog_1_method_10_code
def yX6_exchange : MethodName := ⟨RX6, "exchange", "(II)I"⟩
abbrev cX6_append : ByteArray := prog_1_method_11_code
def yX6_append : MethodName := ⟨RX6, "append", "(I)I"⟩
abbrev cX6_clearText : ByteArray := prog_1_method_12_code
def yX6_clearText : MethodName := ⟨RX6, "clearText", "()I"⟩
abbrev cX6_fault : ByteArray := prog_1_method_13_code
def yX6_fault : MethodName := ⟨RX6, "fault", "()I"⟩
abbrev cX6_run : ByteArray := prog_1_method_14_code
def yX6_run : MethodName := ⟨RX6, "run", "()I"⟩
abbrev cX6_undo : ByteArray := prog_1_method_15_code
def yX6_undo : MethodName := ⟨RX6, "undo", "()I"⟩
abbrev cX6_save : ByteArray := prog_1_method_16_code
def yX6_save : MethodName := ⟨RX6, "save", "()I"⟩
abbrev cX6_restore : ByteArray := prog_1_method_17_code
def yX6_restore : MethodName := ⟨RX6, "restore", "()I"⟩
abbrev cX6_chip : ByteArray := prog_1_method_18_code
def yX6_chip : MethodName := ⟨RX6, "chip", "(II)I"⟩
abbrev cX6_count : ByteArray := prog_1_method_19_code
def yX6_count : MethodName := ⟨RX6, "count", "(I)I"⟩
abbrev cX6_found : ByteArray := prog_1_method_20_code
def yX6_found : MethodName := ⟨RX6, "found", "(I)I"⟩
abbrev cX6_distance : ByteArray := prog_1_method_21_code
def yX6_distance : MethodName := ⟨RX6, "distance", "(II)I"⟩
abbrev cX6_peek : ByteArray := prog_1_method_22_code
def yX6_peek : MethodName := ⟨RX6, "peek", "(I)I"⟩
abbrev cX6_ifIdentified : ByteArray := prog_1_method_23_code
def yX6_ifIdentified : MethodName := ⟨RX6, "ifIdentified", "()I"⟩
abbrev cX6_ifExchanged : ByteArray := prog_1_method_24_code
def yX6_ifExchanged : MethodName := ⟨RX6, "ifExchanged", "(II)I"⟩
abbrev cX6_bypassed : ByteArray := prog_1_method_25_code
def yX6_bypassed : MethodName := ⟨RX6, "bypassed", "()F"⟩
abbrev cX6_isWithin : ByteArray := prog_1_method_26_code
def yX6_isWithin : MethodName := ⟨RX6, "isWithin", "(III)Z"⟩
abbrev cX6_isIdentity : ByteArray := prog_1_method_27_code
def yX6_isIdentity : MethodName := ⟨RX6, "isIdentity", "(I)Z"⟩
abbrev cX6_exchangeError : ByteArray := prog_1_method_28_code
def yX6_exchangeError : MethodName := ⟨RX6, "exchangeError", "(II)I"⟩
abbrev cX6_allOnes : ByteArray := prog_1_method_29_code
def yX6_allOnes : MethodName := ⟨RX6, "allOnes", "(I)I"⟩
def RX7 : String := "ScanChainModel"
def TX7 : u_T := fun k => match k with
  | 0 => ("ScanChainModel", "z", "[I", true)
  | 1 => ("ScanChainModel", "spare", "[I", true)
  | 2 => ("ScanChainModel", "past", "[I", true)
  | 3 => ("ScanChainModel", "states", "I", false)
  | 4 => ("ScanChainModel", "kept", "[I", true)
  | 5 => ("ScanChainModel", "isKept", "Z", false)
  | 6 => ("ScanChainModel", "text", "[I", true)
  | 7 => ("ScanChainModel", "length", "I", false)
  | _ => ("ScanChainModel", "far", "[I", true)
def tyX7 : Nat → FieldType := fun k => match k with
  | 0 => .array .int
  | 1 => .array .int
  | 2 => .array .int
  | 3 => .int
  | 4 => .array .int
  | 5 => .boolean
  | 6 => .array .int
  | 7 => .int
  | _ => .array .int
abbrev wsX70 : List Cond := u_ws RX7 TX7 9
theorem nmX7 : ∀ a, a < 9 → ∀ b, b < 9 → a ≠ b → (TX7 a).2.1 ≠ (TX7 b).2.1 := by decide +kernel
theorem tyX7_ok : ∀ k, k < 9 → parseFieldDescriptor (TX7 k).2.2.1 = some (tyX7 k) := by decide +kernel
abbrev cX7_init : ByteArray := prog_9_method_1_code
def yX7_init : MethodName := ⟨RX7, "<init>", "()V"⟩
abbrev cX7_in : ByteArray := prog_9_method_2_code
def yX7_in : MethodName := ⟨RX7, "in", "(III)Z"⟩
abbrev cX7_isChip : ByteArray := prog_9_method_3_code
def yX7_isChip : MethodName := ⟨RX7, "isChip", "(I)Z"⟩
abbrev cX7_of : ByteArray := prog_9_method_4_code
def yX7_of : MethodName := ⟨RX7, "of", "(II)I"⟩
abbrev cX7_lay : ByteArray := prog_9_method_5_code
def yX7_lay : MethodName := ⟨RX7, "lay", "(III)V"⟩
abbrev cX7_ones : ByteArray := prog_9_method_6_code
def yX7_ones : MethodName := ⟨RX7, "ones", "(I)I"⟩
abbrev cX7_copyRow : ByteArray := prog_9_method_7_code
def yX7_copyRow : MethodName := ⟨RX7, "copyRow", "([II[II)V"⟩
abbrev cX7_record : ByteArray := prog_9_method_8_code
def yX7_record : MethodName := ⟨RX7, "record", "()V"⟩
abbrev cX7_undo : ByteArray := prog_9_method_9_code
def yX7_undo : MethodName := ⟨RX7, "undo", "()I"⟩
abbrev cX7_save : ByteArray := prog_9_method_10_code
def yX7_save : MethodName := ⟨RX7, "save", "()I"⟩
abbrev cX7_restore : ByteArray := prog_9_method_11_code
def yX7_restore : MethodName := ⟨RX7, "restore", "()I"⟩
abbrev cX7_selectsCells : ByteArray := prog_9_method_12_code
def yX7_selectsCells : MethodName := ⟨RX7, "selectsCells", "(I)Z"⟩
abbrev cX7_selectsIdentity : ByteArray := prog_9_method_13_code
def yX7_selectsIdentity : MethodName := ⟨RX7, "selectsIdentity", "(I)Z"⟩
abbrev cX7_bits : ByteArray := prog_9_method_14_code
def yX7_bits : MethodName := ⟨RX7, "bits", "(I)I"⟩
abbrev cX7_give : ByteArray := prog_9_method_15_code
def yX7_give : MethodName := ⟨RX7, "give", "(II)V"⟩
abbrev cX7_giveFirst : ByteArray := prog_9_method_16_code
def yX7_giveFirst : MethodName := ⟨RX7, "giveFirst", "(I)V"⟩
abbrev cX7_add : ByteArray := prog_9_method_17_code
def yX7_add : MethodName := ⟨RX7, "add", "(III)I"⟩
abbrev cX7_take : ByteArray := prog_9_method_18_code
def yX7_take : MethodName := ⟨RX7, "take", "(I)I"⟩
abbrev cX7_setPins : ByteArray := prog_9_method_19_code
def yX7_setPins : MethodName := ⟨RX7, "setPins", "(II)I"⟩
abbrev cX7_sum : ByteArray := prog_9_method_20_code
def yX7_sum : MethodName := ⟨RX7, "sum", "(I)I"⟩
abbrev cX7_breakChip : ByteArray := prog_9_method_21_code
def yX7_breakChip : MethodName := ⟨RX7, "breakChip", "(IZ)I"⟩
abbrev cX7_next : ByteArray := prog_9_method_22_code
def yX7_next : MethodName := ⟨RX7, "next", "(II)I"⟩
abbrev cX7_isShifting : ByteArray := prog_9_method_23_code
def yX7_isShifting : MethodName := ⟨RX7, "isShifting", "()Z"⟩
abbrev cX7_shifted : ByteArray := prog_9_method_24_code
def yX7_shifted : MethodName := ⟨RX7, "shifted", "()I"⟩
abbrev cX7_outputOf : ByteArray := prog_9_method_25_code
def yX7_outputOf : MethodName := ⟨RX7, "outputOf", "(I)I"⟩
abbrev cX7_output : ByteArray := prog_9_method_26_code
def yX7_output : MethodName := ⟨RX7, "output", "(I)I"⟩
abbrev cX7_shift : ByteArray := prog_9_method_27_code
def yX7_shift : MethodName := ⟨RX7, "shift", "(I)V"⟩
abbrev cX7_work : ByteArray := prog_9_method_28_code
def yX7_work : MethodName := ⟨RX7, "work", "(I)V"⟩
abbrev cX7_clockNow : ByteArray := prog_9_method_29_code
def yX7_clockNow : MethodName := ⟨RX7, "clockNow", "(II)I"⟩
abbrev cX7_clock : ByteArray := prog_9_method_30_code
def yX7_clock : MethodName := ⟨RX7, "clock", "(II)I"⟩
abbrev cX7_measure : ByteArray := prog_9_method_31_code
def yX7_measure : MethodName := ⟨RX7, "measure", "(I)V"⟩
abbrev cX7_moveNow : ByteArray := prog_9_method_32_code
def yX7_moveNow : MethodName := ⟨RX7, "moveNow", "(I)I"⟩
abbrev cX7_move : ByteArray := prog_9_method_33_code
def yX7_move : MethodName := ⟨RX7, "move", "(I)I"⟩
abbrev cX7_readOne : ByteArray := prog_9_method_34_code
def yX7_readOne : MethodName := ⟨RX7, "readOne", "()I"⟩
abbrev cX7_identifyNow : ByteArray := prog_9_method_35_code
def yX7_identifyNow : MethodName := ⟨RX7, "identifyNow", "()V"⟩
abbrev cX7_identify : ByteArray := prog_9_method_36_code
def yX7_identify : MethodName := ⟨RX7, "identify", "()I"⟩
abbrev cX7_clockBits : ByteArray := prog_9_method_37_code
def yX7_clockBits : MethodName := ⟨RX7, "clockBits", "(III)I"⟩
abbrev cX7_load : ByteArray := prog_9_method_38_code
def yX7_load : MethodName := ⟨RX7, "load", "(II)I"⟩
abbrev cX7_exchangeNow : ByteArray := prog_9_method_39_code
def yX7_exchangeNow : MethodName := ⟨RX7, "exchangeNow", "(II)I"⟩
abbrev cX7_whyNotExchange : ByteArray := prog_9_method_40_code
def yX7_whyNotExchange : MethodName := ⟨RX7, "whyNotExchange", "(II)I"⟩
abbrev cX7_exchange : ByteArray := prog_9_method_41_code
def yX7_exchange : MethodName := ⟨RX7, "exchange", "(II)I"⟩
abbrev cX7_append : ByteArray := prog_9_method_42_code
def yX7_append : MethodName := ⟨RX7, "append", "(I)I"⟩
abbrev cX7_clearText : ByteArray := prog_9_method_43_code
def yX7_clearText : MethodName := ⟨RX7, "clearText", "()I"⟩
abbrev cX7_digit : ByteArray := prog_9_method_44_code
def yX7_digit : MethodName := ⟨RX7, "digit", "(I)I"⟩
abbrev cX7_fault : ByteArray := prog_9_method_45_code
def yX7_fault : MethodName := ⟨RX7, "fault", "()I"⟩
abbrev cX7_run : ByteArray := prog_9_method_46_code
def yX7_run : MethodName := ⟨RX7, "run", "()I"⟩
abbrev cX7_chip : ByteArray := prog_9_method_47_code
def yX7_chip : MethodName := ⟨RX7, "chip", "(II)I"⟩
abbrev cX7_allBits : ByteArray := prog_9_method_48_code
def yX7_allBits : MethodName := ⟨RX7, "allBits", "()I"⟩
abbrev cX7_count : ByteArray := prog_9_method_49_code
def yX7_count : MethodName := ⟨RX7, "count", "(I)I"⟩
abbrev cX7_found : ByteArray := prog_9_method_50_code
def yX7_found : MethodName := ⟨RX7, "found", "(I)I"⟩
abbrev cX7_distance : ByteArray := prog_9_method_51_code
def yX7_distance : MethodName := ⟨RX7, "distance", "(II)I"⟩
abbrev cX7_peek : ByteArray := prog_9_method_52_code
def yX7_peek : MethodName := ⟨RX7, "peek", "(I)I"⟩
abbrev cX7_ifIdentified : ByteArray := prog_9_method_53_code
def yX7_ifIdentified : MethodName := ⟨RX7, "ifIdentified", "()I"⟩
abbrev cX7_ifExchanged : ByteArray := prog_9_method_54_code
def yX7_ifExchanged : MethodName := ⟨RX7, "ifExchanged", "(II)I"⟩
abbrev cX7_bypassed : ByteArray := prog_9_method_55_code
def yX7_bypassed : MethodName := ⟨RX7, "bypassed", "()F"⟩
def RL : String := "ScanChainLaw"
abbrev cL_law : ByteArray := code
def yL_law : MethodName := ⟨RL, "law", "([I)Z"⟩
abbrev vwCl : List vw_C := [(RX0, TX0, 6), (RX1, TX1, 9), (RX3, TX3, 2), (RX5, TX5, 2), (RX6, TX6, 6), (RX7, TX7, 9)]
end
section
theorem dX0_init_0 : decode cX0_init 0 = .ok (.aload_n 0, 1) := by decide +kernel
theorem dX0_init_1 : decode cX0_init 1 = .ok (.invokespecial 3, 3) := by decide +kernel
theorem dX0_init_4 : decode cX0_init 4 = .ok (.aload_n 0, 1) := by decide +kernel
theorem dX0_init_5 : decode cX0_init 5 = .ok (.bipush 6, 2) := by decide +kernel
theorem dX0_init_7 : decode cX0_init 7 = .ok (.anewarray 9, 3) := by decide +kernel
theorem dX0_init_10 : decode cX0_init 10 = .ok (.putfield 11, 3) := by decide +kernel
theorem dX0_init_13 : decode cX0_init 13 = .ok (.iconst 0, 1) := by decide +kernel
theorem dX0_init_14 : decode cX0_init 14 = .ok (.istore_n 1, 1) := by decide +kernel
theorem dX0_init_15 : decode cX0_init 15 = .ok (.iload_n 1, 1) := by decide +kernel
theorem dX0_init_16 : decode cX0_init 16 = .ok (.aload_n 0, 1) := by decide +kernel
theorem dX0_init_17 : decode cX0_init 17 = .ok (.getfield 11, 3) := by decide +kernel
theorem dX0_init_20 : decode cX0_init 20 = .ok (.arraylength, 1) := by decide +kernel
theorem dX0_init_21 : decode cX0_init 21 = .ok (.if_icmp .ge 22, 3) := by decide +kernel
theorem dX0_init_24 : decode cX0_init 24 = .ok (.aload_n 0, 1) := by decide +kernel
theorem dX0_init_25 : decode cX0_init 25 = .ok (.getfield 11, 3) := by decide +kernel
theorem dX0_init_28 : decode cX0_init 28 = .ok (.iload_n 1, 1) := by decide +kernel
theorem dX0_init_29 : decode cX0_init 29 = .ok (.new 9, 3) := by decide +kernel
theorem dX0_init_32 : decode cX0_init 32 = .ok (.dup, 1) := by decide +kernel
theorem dX0_init_33 : decode cX0_init 33 = .ok (.invokespecial 17, 3) := by decide +kernel
theorem dX0_init_36 : decode cX0_init 36 = .ok (.aastore, 1) := by decide +kernel
theorem dX0_init_37 : decode cX0_init 37 = .ok (.iinc 1 1, 3) := by decide +kernel
theorem dX0_init_40 : decode cX0_init 40 = .ok (.goto (-25), 3) := by decide +kernel
theorem dX0_init_43 : decode cX0_init 43 = .ok (.aload_n 0, 1) := by decide +kernel
theorem dX0_init_44 : decode cX0_init 44 = .ok (.iconst 0, 1) := by decide +kernel
theorem dX0_init_45 : decode cX0_init 45 = .ok (.putfield 18, 3) := by decide +kernel
theorem dX0_init_48 : decode cX0_init 48 = .ok (.aload_n 0, 1) := by decide +kernel
theorem dX0_init_49 : decode cX0_init 49 = .ok (.iconst 0, 1) := by decide +kernel
theorem dX0_init_50 : decode cX0_init 50 = .ok (.putfield 24, 3) := by decide +kernel
theorem dX0_init_53 : decode cX0_init 53 = .ok (.aload_n 0, 1) := by decide +kernel
theorem dX0_init_54 : decode cX0_init 54 = .ok (.iconst 0, 1) := by decide +kernel
theorem dX0_init_55 : decode cX0_init 55 = .ok (.putfield 27, 3) := by decide +kernel
theorem dX0_init_58 : decode cX0_init 58 = .ok (.aload_n 0, 1) := by decide +kernel
theorem dX0_init_59 : decode cX0_init 59 = .ok (.bipush 8, 2) := by decide +kernel
theorem dX0_init_61 : decode cX0_init 61 = .ok (.newarray .int, 2) := by decide +kernel
theorem dX0_init_63 : decode cX0_init 63 = .ok (.putfield 30, 3) := by decide +kernel
theorem dX0_init_66 : decode cX0_init 66 = .ok (.aload_n 0, 1) := by decide +kernel
theorem dX0_init_67 : decode cX0_init 67 = .ok (.iconst 0, 1) := by decide +kernel
theorem dX0_init_68 : decode cX0_init 68 = .ok (.putfield 34, 3) := by decide +kernel
theorem dX0_init_71 : decode cX0_init 71 = .ok (.return_, 1) := by decide +kernel
theorem dX0_becomeCopyOf_0 : decode cX0_becomeCopyOf 0 = .ok (.iconst 0, 1) := by decide +kernel
theorem dX0_becomeCopyOf_1 : decode cX0_becomeCopyOf 1 = .ok (.istore_n 2, 1) := by decide +kernel
theorem dX0_becomeCopyOf_2 : decode cX0_becomeCopyOf 2 = .ok (.iload_n 2, 1) := by decide +kernel
theorem dX0_becomeCopyOf_3 : decode cX0_becomeCopyOf 3 = .ok (.aload_n 1, 1) := by decide +kernel
theorem dX0_becomeCopyOf_4 : decode cX0_becomeCopyOf 4 = .ok (.getfield 18, 3) := by decide +kernel
theorem dX0_becomeCopyOf_7 : decode cX0_becomeCopyOf 7 = .ok (.if_icmp .ge 24, 3) := by decide +kernel
theorem dX0_becomeCopyOf_10 : decode cX0_becomeCopyOf 10 = .ok (.aload_n 0, 1) := by decide +kernel
theorem dX0_becomeCopyOf_11 : decode cX0_becomeCopyOf 11 = .ok (.getfield 11, 3) := by decide +kernel
theorem dX0_becomeCopyOf_14 : decode cX0_becomeCopyOf 14 = .ok (.iload_n 2, 1) := by decide +kernel
theorem dX0_becomeCopyOf_15 : decode cX0_becomeCopyOf 15 = .ok (.aaload, 1) := by decide +kernel
theorem dX0_becomeCopyOf_16 : decode cX0_becomeCopyOf 16 = .ok (.aload_n 1, 1) := by decide +kernel
theorem dX0_becomeCopyOf_17 : decode cX0_becomeCopyOf 17 = .ok (.getfield 11, 3) := by decide +kernel
theorem dX0_becomeCopyOf_20 : decode cX0_becomeCopyOf 20 = .ok (.iload_n 2, 1) := by decide +kernel
theorem dX0_becomeCopyOf_21 : decode cX0_becomeCopyOf 21 = .ok (.aaload, 1) := by decide +kernel
theorem dX0_becomeCopyOf_22 : decode cX0_becomeCopyOf 22 = .ok (.invokevirtual 37, 3) := by decide +kernel
theorem dX0_becomeCopyOf_25 : decode cX0_becomeCopyOf 25 = .ok (.iinc 2 1, 3) := by decide +kernel
theorem dX0_becomeCopyOf_28 : decode cX0_becomeCopyOf 28 = .ok (.goto (-26), 3) := by decide +kernel
theorem dX0_becomeCopyOf_31 : decode cX0_becomeCopyOf 31 = .ok (.aload_n 0, 1) := by decide +kernel
theorem dX0_becomeCopyOf_32 : decode cX0_becomeCopyOf 32 = .ok (.aload_n 1, 1) := by decide +kernel
theorem dX0_becomeCopyOf_33 : decode cX0_becomeCopyOf 33 = .ok (.getfield 18, 3) := by decide +kernel
theorem dX0_becomeCopyOf_36 : decode cX0_becomeCopyOf 36 = .ok (.putfield 18, 3) := by decide +kernel
theorem dX0_becomeCopyOf_39 : decode cX0_becomeCopyOf 39 = .ok (.aload_n 0, 1) := by decide +kernel
theorem dX0_becomeCopyOf_40 : decode cX0_becomeCopyOf 40 = .ok (.aload_n 1, 1) := by decide +kernel
theorem dX0_becomeCopyOf_41 : decode cX0_becomeCopyOf 41 = .ok (.getfield 24, 3) := by decide +kernel
theorem dX0_becomeCopyOf_44 : decode cX0_becomeCopyOf 44 = .ok (.putfield 24, 3) := by decide +kernel
theorem dX0_becomeCopyOf_47 : decode cX0_becomeCopyOf 47 = .ok (.aload_n 0, 1) := by decide +kernel
theorem dX0_becomeCopyOf_48 : decode cX0_becomeCopyOf 48 = .ok (.aload_n 1, 1) := by decide +kernel
theorem dX0_becomeCopyOf_49 : decode cX0_becomeCopyOf 49 = .ok (.getfield 27, 3) := by decide +kernel
theorem dX0_becomeCopyOf_52 : decode cX0_becomeCopyOf 52 = .ok (.putfield 27, 3) := by decide +kernel
theorem dX0_becomeCopyOf_55 : decode cX0_becomeCopyOf 55 = .ok (.iconst 0, 1) := by decide +kernel
theorem dX0_becomeCopyOf_56 : decode cX0_becomeCopyOf 56 = .ok (.istore_n 2, 1) := by decide +kernel
theorem dX0_becomeCopyOf_57 : decode cX0_becomeCopyOf 57 = .ok (.iload_n 2, 1) := by decide +kernel
theorem dX0_becomeCopyOf_58 : decode cX0_becomeCopyOf 58 = .ok (.aload_n 1, 1) := by decide +kernel
theorem dX0_becomeCopyOf_59 : decode cX0_becomeCopyOf 59 = .ok (.getfield 34, 3) := by decide +kernel
theorem dX0_becomeCopyOf_62 : decode cX0_becomeCopyOf 62 = .ok (.if_icmp .ge 21, 3) := by decide +kernel
theorem dX0_becomeCopyOf_65 : decode cX0_becomeCopyOf 65 = .ok (.aload_n 0, 1) := by decide +kernel
theorem dX0_becomeCopyOf_66 : decode cX0_becomeCopyOf 66 = .ok (.getfield 30, 3) := by decide +kernel
theorem dX0_becomeCopyOf_69 : decode cX0_becomeCopyOf 69 = .ok (.iload_n 2, 1) := by decide +kernel
theorem dX0_becomeCopyOf_70 : decode cX0_becomeCopyOf 70 = .ok (.aload_n 1, 1) := by decide +kernel
theorem dX0_becomeCopyOf_71 : decode cX0_becomeCopyOf 71 = .ok (.getfield 30, 3) := by decide +kernel
theorem dX0_becomeCopyOf_74 : decode cX0_becomeCopyOf 74 = .ok (.iload_n 2, 1) := by decide +kernel
theorem dX0_becomeCopyOf_75 : decode cX0_becomeCopyOf 75 = .ok (.iaload, 1) := by decide +kernel
theorem dX0_becomeCopyOf_76 : decode cX0_becomeCopyOf 76 = .ok (.iastore, 1) := by decide +kernel
theorem dX0_becomeCopyOf_77 : decode cX0_becomeCopyOf 77 = .ok (.iinc 2 1, 3) := by decide +kernel
theorem dX0_becomeCopyOf_80 : decode cX0_becomeCopyOf 80 = .ok (.goto (-23), 3) := by decide +kernel
theorem dX0_becomeCopyOf_83 : decode cX0_becomeCopyOf 83 = .ok (.aload_n 0, 1) := by decide +kernel
theorem dX0_becomeCopyOf_84 : decode cX0_becomeCopyOf 84 = .ok (.aload_n 1, 1) := by decide +kernel
theorem dX0_becomeCopyOf_85 : decode cX0_becomeCopyOf 85 = .ok (.getfield 34, 3) := by decide +kernel
theorem dX0_becomeCopyOf_88 : decode cX0_becomeCopyOf 88 = .ok (.putfield 34, 3) := by decide +kernel
theorem dX0_becomeCopyOf_91 : decode cX0_becomeCopyOf 91 = .ok (.return_, 1) := by decide +kernel
theorem dX0_has_0 : decode cX0_has 0 = .ok (.iload_n 1, 1) := by decide +kernel
theorem dX0_has_1 : decode cX0_has 1 = .ok (.ifCond .lt 15, 3) := by decide +kernel
theorem dX0_has_4 : decode cX0_has 4 = .ok (.iload_n 1, 1) := by decide +kernel
theorem dX0_has_5 : decode cX0_has 5 = .ok (.aload_n 0, 1) := by decide +kernel
theorem dX0_has_6 : decode cX0_has 6 = .ok (.getfield 18, 3) := by decide +kernel
theorem dX0_has_9 : decode cX0_has 9 = .ok (.if_icmp .ge 7, 3) := by decide +kernel
theorem dX0_has_12 : decode cX0_has 12 = .ok (.iconst 1, 1) := by decide +kernel
theorem dX0_has_13 : decode cX0_has 13 = .ok (.goto 4, 3) := by decide +kernel
theorem dX0_has_16 : decode cX0_has 16 = .ok (.iconst 0, 1) := by decide +kernel
theorem dX0_has_17 : decode cX0_has 17 = .ok (.ireturn, 1) := by decide +kernel
theorem dX0_putBehind_0 : decode cX0_putBehind 0 = .ok (.aload_n 0, 1) := by decide +kernel
theorem dX0_putBehind_1 : decode cX0_putBehind 1 = .ok (.getfield 18, 3) := by decide +kernel
theorem dX0_putBehind_4 : decode cX0_putBehind 4 = .ok (.istore 4, 2) := by decide +kernel
theorem dX0_putBehind_6 : decode cX0_putBehind 6 = .ok (.iload 4, 2) := by decide +kernel
theorem dX0_putBehind_8 : decode cX0_putBehind 8 = .ok (.aload_n 0, 1) := by decide +kernel
theorem dX0_putBehind_9 : decode cX0_putBehind 9 = .ok (.getfield 11, 3) := by decide +kernel
theorem dX0_putBehind_12 : decode cX0_putBehind 12 = .ok (.arraylength, 1) := by decide +kernel
theorem dX0_putBehind_13 : decode cX0_putBehind 13 = .ok (.if_icmp .ge 26, 3) := by decide +kernel
theorem dX0_putBehind_16 : decode cX0_putBehind 16 = .ok (.aload_n 0, 1) := by decide +kernel
theorem dX0_putBehind_17 : decode cX0_putBehind 17 = .ok (.getfield 11, 3) := by decide +kernel
theorem dX0_putBehind_20 : decode cX0_putBehind 20 = .ok (.iload 4, 2) := by decide +kernel
theorem dX0_putBehind_22 : decode cX0_putBehind 22 = .ok (.aaload, 1) := by decide +kernel
theorem dX0_putBehind_23 : decode cX0_putBehind 23 = .ok (.iload_n 1, 1) := by decide +kernel
theorem dX0_putBehind_24 : decode cX0_putBehind 24 = .ok (.iload_n 2, 1) := by decide +kernel
theorem dX0_putBehind_25 : decode cX0_putBehind 25 = .ok (.iload_n 3, 1) := by decide +kernel
theorem dX0_putBehind_26 : decode cX0_putBehind 26 = .ok (.invokevirtual 41, 3) := by decide +kernel
theorem dX0_putBehind_29 : decode cX0_putBehind 29 = .ok (.aload_n 0, 1) := by decide +kernel
theorem dX0_putBehind_30 : decode cX0_putBehind 30 = .ok (.dup, 1) := by decide +kernel
theorem dX0_putBehind_31 : decode cX0_putBehind 31 = .ok (.getfield 18, 3) := by decide +kernel
theorem dX0_putBehind_34 : decode cX0_putBehind 34 = .ok (.iconst 1, 1) := by decide +kernel
theorem dX0_putBehind_35 : decode cX0_putBehind 35 = .ok (.iadd, 1) := by decide +kernel
theorem dX0_putBehind_36 : decode cX0_putBehind 36 = .ok (.putfield 18, 3) := by decide +kernel
theorem dX0_putBehind_39 : decode cX0_putBehind 39 = .ok (.iload 4, 2) := by decide +kernel
theorem dX0_putBehind_41 : decode cX0_putBehind 41 = .ok (.ireturn, 1) := by decide +kernel
theorem dX0_takeOut_0 : decode cX0_takeOut 0 = .ok (.aload_n 0, 1) := by decide +kernel
theorem dX0_takeOut_1 : decode cX0_takeOut 1 = .ok (.getfield 11, 3) := by decide +kernel
theorem dX0_takeOut_4 : decode cX0_takeOut 4 = .ok (.iload_n 1, 1) := by decide +kernel
theorem dX0_takeOut_5 : decode cX0_takeOut 5 = .ok (.aaload, 1) := by decide +kernel
theorem dX0_takeOut_6 : decode cX0_takeOut 6 = .ok (.getfield 45, 3) := by decide +kernel
theorem dX0_takeOut_9 : decode cX0_takeOut 9 = .ok (.istore_n 2, 1) := by decide +kernel
theorem dX0_takeOut_10 : decode cX0_takeOut 10 = .ok (.iload_n 1, 1) := by decide +kernel
theorem dX0_takeOut_11 : decode cX0_takeOut 11 = .ok (.iconst 1, 1) := by decide +kernel
theorem dX0_takeOut_12 : decode cX0_takeOut 12 = .ok (.iadd, 1) := by decide +kernel
theorem dX0_takeOut_13 : decode cX0_takeOut 13 = .ok (.istore_n 3, 1) := by decide +kernel
theorem dX0_takeOut_14 : decode cX0_takeOut 14 = .ok (.iload_n 3, 1) := by decide +kernel
theorem dX0_takeOut_15 : decode cX0_takeOut 15 = .ok (.aload_n 0, 1) := by decide +kernel
theorem dX0_takeOut_16 : decode cX0_takeOut 16 = .ok (.getfield 18, 3) := by decide +kernel
theorem dX0_takeOut_19 : decode cX0_takeOut 19 = .ok (.if_icmp .ge 26, 3) := by decide +kernel
theorem dX0_takeOut_22 : decode cX0_takeOut 22 = .ok (.aload_n 0, 1) := by decide +kernel
theorem dX0_takeOut_23 : decode cX0_takeOut 23 = .ok (.getfield 11, 3) := by decide +kernel
theorem dX0_takeOut_26 : decode cX0_takeOut 26 = .ok (.iload_n 3, 1) := by decide +kernel
theorem dX0_takeOut_27 : decode cX0_takeOut 27 = .ok (.iconst 1, 1) := by decide +kernel
theorem dX0_takeOut_28 : decode cX0_takeOut 28 = .ok (.isub, 1) := by decide +kernel
theorem dX0_takeOut_29 : decode cX0_takeOut 29 = .ok (.aaload, 1) := by decide +kernel
theorem dX0_takeOut_30 : decode cX0_takeOut 30 = .ok (.aload_n 0, 1) := by decide +kernel
theorem dX0_takeOut_31 : decode cX0_takeOut 31 = .ok (.getfield 11, 3) := by decide +kernel
theorem dX0_takeOut_34 : decode cX0_takeOut 34 = .ok (.iload_n 3, 1) := by decide +kernel
theorem dX0_takeOut_35 : decode cX0_takeOut 35 = .ok (.aaload, 1) := by decide +kernel
theorem dX0_takeOut_36 : decode cX0_takeOut 36 = .ok (.invokevirtual 37, 3) := by decide +kernel
theorem dX0_takeOut_39 : decode cX0_takeOut 39 = .ok (.iinc 3 1, 3) := by decide +kernel
theorem dX0_takeOut_42 : decode cX0_takeOut 42 = .ok (.goto (-28), 3) := by decide +kernel
theorem dX0_takeOut_45 : decode cX0_takeOut 45 = .ok (.aload_n 0, 1) := by decide +kernel
theorem dX0_takeOut_46 : decode cX0_takeOut 46 = .ok (.dup, 1) := by decide +kernel
theorem dX0_takeOut_47 : decode cX0_takeOut 47 = .ok (.getfield 18, 3) := by decide +kernel
theorem dX0_takeOut_50 : decode cX0_takeOut 50 = .ok (.iconst 1, 1) := by decide +kernel
theorem dX0_takeOut_51 : decode cX0_takeOut 51 = .ok (.isub, 1) := by decide +kernel
theorem dX0_takeOut_52 : decode cX0_takeOut 52 = .ok (.putfield 18, 3) := by decide +kernel
theorem dX0_takeOut_55 : decode cX0_takeOut 55 = .ok (.iload_n 2, 1) := by decide +kernel
theorem dX0_takeOut_56 : decode cX0_takeOut 56 = .ok (.ireturn, 1) := by decide +kernel
theorem dX0_brokenChips_0 : decode cX0_brokenChips 0 = .ok (.iconst 0, 1) := by decide +kernel
theorem dX0_brokenChips_1 : decode cX0_brokenChips 1 = .ok (.istore_n 1, 1) := by decide +kernel
theorem dX0_brokenChips_2 : decode cX0_brokenChips 2 = .ok (.iconst 0, 1) := by decide +kernel
theorem dX0_brokenChips_3 : decode cX0_brokenChips 3 = .ok (.istore_n 2, 1) := by decide +kernel
theorem dX0_brokenChips_4 : decode cX0_brokenChips 4 = .ok (.iload_n 2, 1) := by decide +kernel
theorem dX0_brokenChips_5 : decode cX0_brokenChips 5 = .ok (.aload_n 0, 1) := by decide +kernel
theorem dX0_brokenChips_6 : decode cX0_brokenChips 6 = .ok (.getfield 18, 3) := by decide +kernel
theorem dX0_brokenChips_9 : decode cX0_brokenChips 9 = .ok (.if_icmp .ge 29, 3) := by decide +kernel
theorem dX0_brokenChips_12 : decode cX0_brokenChips 12 = .ok (.iload_n 1, 1) := by decide +kernel
theorem dX0_brokenChips_13 : decode cX0_brokenChips 13 = .ok (.aload_n 0, 1) := by decide +kernel
theorem dX0_brokenChips_14 : decode cX0_brokenChips 14 = .ok (.getfield 11, 3) := by decide +kernel
theorem dX0_brokenChips_17 : decode cX0_brokenChips 17 = .ok (.iload_n 2, 1) := by decide +kernel
theorem dX0_brokenChips_18 : decode cX0_brokenChips 18 = .ok (.aaload, 1) := by decide +kernel
theorem dX0_brokenChips_19 : decode cX0_brokenChips 19 = .ok (.getfield 48, 3) := by decide +kernel
theorem dX0_brokenChips_22 : decode cX0_brokenChips 22 = .ok (.ifCond .eq 7, 3) := by decide +kernel
theorem dX0_brokenChips_25 : decode cX0_brokenChips 25 = .ok (.iconst 1, 1) := by decide +kernel
theorem dX0_brokenChips_26 : decode cX0_brokenChips 26 = .ok (.goto 4, 3) := by decide +kernel
theorem dX0_brokenChips_29 : decode cX0_brokenChips 29 = .ok (.iconst 0, 1) := by decide +kernel
theorem dX0_brokenChips_30 : decode cX0_brokenChips 30 = .ok (.iadd, 1) := by decide +kernel
theorem dX0_brokenChips_31 : decode cX0_brokenChips 31 = .ok (.istore_n 1, 1) := by decide +kernel
theorem dX0_brokenChips_32 : decode cX0_brokenChips 32 = .ok (.iinc 2 1, 3) := by decide +kernel
theorem dX0_brokenChips_35 : decode cX0_brokenChips 35 = .ok (.goto (-31), 3) := by decide +kernel
theorem dX0_brokenChips_38 : decode cX0_brokenChips 38 = .ok (.iload_n 1, 1) := by decide +kernel
theorem dX0_brokenChips_39 : decode cX0_brokenChips 39 = .ok (.ireturn, 1) := by decide +kernel
theorem dX0_bypassedChips_0 : decode cX0_bypassedChips 0 = .ok (.iconst 0, 1) := by decide +kernel
theorem dX0_bypassedChips_1 : decode cX0_bypassedChips 1 = .ok (.istore_n 1, 1) := by decide +kernel
theorem dX0_bypassedChips_2 : decode cX0_bypassedChips 2 = .ok (.iconst 0, 1) := by decide +kernel
theorem dX0_bypassedChips_3 : decode cX0_bypassedChips 3 = .ok (.istore_n 2, 1) := by decide +kernel
theorem dX0_bypassedChips_4 : decode cX0_bypassedChips 4 = .ok (.iload_n 2, 1) := by decide +kernel
theorem dX0_bypassedChips_5 : decode cX0_bypassedChips 5 = .ok (.aload_n 0, 1) := by decide +kernel
theorem dX0_bypassedChips_6 : decode cX0_bypassedChips 6 = .ok (.getfield 18, 3) := by decide +kernel
theorem dX0_bypassedChips_9 : decode cX0_bypassedChips 9 = .ok (.if_icmp .ge 29, 3) := by decide +kernel
theorem dX0_bypassedChips_12 : decode cX0_bypassedChips 12 = .ok (.iload_n 1, 1) := by decide +kernel
theorem dX0_bypassedChips_13 : decode cX0_bypassedChips 13 = .ok (.aload_n 0, 1) := by decide +kernel
theorem dX0_bypassedChips_14 : decode cX0_bypassedChips 14 = .ok (.getfield 11, 3) := by decide +kernel
theorem dX0_bypassedChips_17 : decode cX0_bypassedChips 17 = .ok (.iload_n 2, 1) := by decide +kernel
theorem dX0_bypassedChips_18 : decode cX0_bypassedChips 18 = .ok (.aaload, 1) := by decide +kernel
theorem dX0_bypassedChips_19 : decode cX0_bypassedChips 19 = .ok (.invokevirtual 52, 3) := by decide +kernel
theorem dX0_bypassedChips_22 : decode cX0_bypassedChips 22 = .ok (.ifCond .eq 7, 3) := by decide +kernel
theorem dX0_bypassedChips_25 : decode cX0_bypassedChips 25 = .ok (.iconst 1, 1) := by decide +kernel
theorem dX0_bypassedChips_26 : decode cX0_bypassedChips 26 = .ok (.goto 4, 3) := by decide +kernel
theorem dX0_bypassedChips_29 : decode cX0_bypassedChips 29 = .ok (.iconst 0, 1) := by decide +kernel
theorem dX0_bypassedChips_30 : decode cX0_bypassedChips 30 = .ok (.iadd, 1) := by decide +kernel
theorem dX0_bypassedChips_31 : decode cX0_bypassedChips 31 = .ok (.istore_n 1, 1) := by decide +kernel
theorem dX0_bypassedChips_32 : decode cX0_bypassedChips 32 = .ok (.iinc 2 1, 3) := by decide +kernel
theorem dX0_bypassedChips_35 : decode cX0_bypassedChips 35 = .ok (.goto (-31), 3) := by decide +kernel
theorem dX0_bypassedChips_38 : decode cX0_bypassedChips 38 = .ok (.iload_n 1, 1) := by decide +kernel
theorem dX0_bypassedChips_39 : decode cX0_bypassedChips 39 = .ok (.ireturn, 1) := by decide +kernel
theorem dX0_sumOfCodeLengths_0 : decode cX0_sumOfCodeLengths 0 = .ok (.iconst 0, 1) := by decide +kernel
theorem dX0_sumOfCodeLengths_1 : decode cX0_sumOfCodeLengths 1 = .ok (.istore_n 1, 1) := by decide +kernel
theorem dX0_sumOfCodeLengths_2 : decode cX0_sumOfCodeLengths 2 = .ok (.iconst 0, 1) := by decide +kernel
theorem dX0_sumOfCodeLengths_3 : decode cX0_sumOfCodeLengths 3 = .ok (.istore_n 2, 1) := by decide +kernel
theorem dX0_sumOfCodeLengths_4 : decode cX0_sumOfCodeLengths 4 = .ok (.iload_n 2, 1) := by decide +kernel
theorem dX0_sumOfCodeLengths_5 : decode cX0_sumOfCodeLengths 5 = .ok (.aload_n 0, 1) := by decide +kernel
theorem dX0_sumOfCodeLengths_6 : decode cX0_sumOfCodeLengths 6 = .ok (.getfield 18, 3) := by decide +kernel
theorem dX0_sumOfCodeLengths_9 : decode cX0_sumOfCodeLengths 9 = .ok (.if_icmp .ge 21, 3) := by decide +kernel
theorem dX0_sumOfCodeLengths_12 : decode cX0_sumOfCodeLengths 12 = .ok (.iload_n 1, 1) := by decide +kernel
theorem dX0_sumOfCodeLengths_13 : decode cX0_sumOfCodeLengths 13 = .ok (.aload_n 0, 1) := by decide +kernel
theorem dX0_sumOfCodeLengths_14 : decode cX0_sumOfCodeLengths 14 = .ok (.getfield 11, 3) := by decide +kernel
theorem dX0_sumOfCodeLengths_17 : decode cX0_sumOfCodeLengths 17 = .ok (.iload_n 2, 1) := by decide +kernel
theorem dX0_sumOfCodeLengths_18 : decode cX0_sumOfCodeLengths 18 = .ok (.aaload, 1) := by decide +kernel
theorem dX0_sumOfCodeLengths_19 : decode cX0_sumOfCodeLengths 19 = .ok (.getfield 56, 3) := by decide +kernel
theorem dX0_sumOfCodeLengths_22 : decode cX0_sumOfCodeLengths 22 = .ok (.iadd, 1) := by decide +kernel
theorem dX0_sumOfCodeLengths_23 : decode cX0_sumOfCodeLengths 23 = .ok (.istore_n 1, 1) := by decide +kernel
theorem dX0_sumOfCodeLengths_24 : decode cX0_sumOfCodeLengths 24 = .ok (.iinc 2 1, 3) := by decide +kernel
theorem dX0_sumOfCodeLengths_27 : decode cX0_sumOfCodeLengths 27 = .ok (.goto (-23), 3) := by decide +kernel
theorem dX0_sumOfCodeLengths_30 : decode cX0_sumOfCodeLengths 30 = .ok (.iload_n 1, 1) := by decide +kernel
theorem dX0_sumOfCodeLengths_31 : decode cX0_sumOfCodeLengths 31 = .ok (.ireturn, 1) := by decide +kernel
theorem dX0_sumOfDataBits_0 : decode cX0_sumOfDataBits 0 = .ok (.iconst 0, 1) := by decide +kernel
theorem dX0_sumOfDataBits_1 : decode cX0_sumOfDataBits 1 = .ok (.istore_n 1, 1) := by decide +kernel
theorem dX0_sumOfDataBits_2 : decode cX0_sumOfDataBits 2 = .ok (.iconst 0, 1) := by decide +kernel
theorem dX0_sumOfDataBits_3 : decode cX0_sumOfDataBits 3 = .ok (.istore_n 2, 1) := by decide +kernel
theorem dX0_sumOfDataBits_4 : decode cX0_sumOfDataBits 4 = .ok (.iload_n 2, 1) := by decide +kernel
theorem dX0_sumOfDataBits_5 : decode cX0_sumOfDataBits 5 = .ok (.aload_n 0, 1) := by decide +kernel
theorem dX0_sumOfDataBits_6 : decode cX0_sumOfDataBits 6 = .ok (.getfield 18, 3) := by decide +kernel
theorem dX0_sumOfDataBits_9 : decode cX0_sumOfDataBits 9 = .ok (.if_icmp .ge 21, 3) := by decide +kernel
theorem dX0_sumOfDataBits_12 : decode cX0_sumOfDataBits 12 = .ok (.iload_n 1, 1) := by decide +kernel
theorem dX0_sumOfDataBits_13 : decode cX0_sumOfDataBits 13 = .ok (.aload_n 0, 1) := by decide +kernel
theorem dX0_sumOfDataBits_14 : decode cX0_sumOfDataBits 14 = .ok (.getfield 11, 3) := by decide +kernel
theorem dX0_sumOfDataBits_17 : decode cX0_sumOfDataBits 17 = .ok (.iload_n 2, 1) := by decide +kernel
theorem dX0_sumOfDataBits_18 : decode cX0_sumOfDataBits 18 = .ok (.aaload, 1) := by decide +kernel
theorem dX0_sumOfDataBits_19 : decode cX0_sumOfDataBits 19 = .ok (.invokevirtual 59, 3) := by decide +kernel
theorem dX0_sumOfDataBits_22 : decode cX0_sumOfDataBits 22 = .ok (.iadd, 1) := by decide +kernel
theorem dX0_sumOfDataBits_23 : decode cX0_sumOfDataBits 23 = .ok (.istore_n 1, 1) := by decide +kernel
theorem dX0_sumOfDataBits_24 : decode cX0_sumOfDataBits 24 = .ok (.iinc 2 1, 3) := by decide +kernel
theorem dX0_sumOfDataBits_27 : decode cX0_sumOfDataBits 27 = .ok (.goto (-23), 3) := by decide +kernel
theorem dX0_sumOfDataBits_30 : decode cX0_sumOfDataBits 30 = .ok (.iload_n 1, 1) := by decide +kernel
theorem dX0_sumOfDataBits_31 : decode cX0_sumOfDataBits 31 = .ok (.ireturn, 1) := by decide +kernel
theorem dX0_forgetIdentities_0 : decode cX0_forgetIdentities 0 = .ok (.aload_n 0, 1) := by decide +kernel
theorem dX0_forgetIdentities_1 : decode cX0_forgetIdentities 1 = .ok (.iconst 0, 1) := by decide +kernel
theorem dX0_forgetIdentities_2 : decode cX0_forgetIdentities 2 = .ok (.putfield 34, 3) := by decide +kernel
theorem dX0_forgetIdentities_5 : decode cX0_forgetIdentities 5 = .ok (.return_, 1) := by decide +kernel
theorem dX0_keepIdentity_0 : decode cX0_keepIdentity 0 = .ok (.aload_n 0, 1) := by decide +kernel
theorem dX0_keepIdentity_1 : decode cX0_keepIdentity 1 = .ok (.getfield 34, 3) := by decide +kernel
theorem dX0_keepIdentity_4 : decode cX0_keepIdentity 4 = .ok (.aload_n 0, 1) := by decide +kernel
theorem dX0_keepIdentity_5 : decode cX0_keepIdentity 5 = .ok (.getfield 30, 3) := by decide +kernel
theorem dX0_keepIdentity_8 : decode cX0_keepIdentity 8 = .ok (.arraylength, 1) := by decide +kernel
theorem dX0_keepIdentity_9 : decode cX0_keepIdentity 9 = .ok (.if_icmp .ge 23, 3) := by decide +kernel
theorem dX0_keepIdentity_12 : decode cX0_keepIdentity 12 = .ok (.aload_n 0, 1) := by decide +kernel
theorem dX0_keepIdentity_13 : decode cX0_keepIdentity 13 = .ok (.getfield 30, 3) := by decide +kernel
theorem dX0_keepIdentity_16 : decode cX0_keepIdentity 16 = .ok (.aload_n 0, 1) := by decide +kernel
theorem dX0_keepIdentity_17 : decode cX0_keepIdentity 17 = .ok (.getfield 34, 3) := by decide +kernel
theorem dX0_keepIdentity_20 : decode cX0_keepIdentity 20 = .ok (.iload_n 1, 1) := by decide +kernel
theorem dX0_keepIdentity_21 : decode cX0_keepIdentity 21 = .ok (.iastore, 1) := by decide +kernel
theorem dX0_keepIdentity_22 : decode cX0_keepIdentity 22 = .ok (.aload_n 0, 1) := by decide +kernel
theorem dX0_keepIdentity_23 : decode cX0_keepIdentity 23 = .ok (.dup, 1) := by decide +kernel
theorem dX0_keepIdentity_24 : decode cX0_keepIdentity 24 = .ok (.getfield 34, 3) := by decide +kernel
theorem dX0_keepIdentity_27 : decode cX0_keepIdentity 27 = .ok (.iconst 1, 1) := by decide +kernel
theorem dX0_keepIdentity_28 : decode cX0_keepIdentity 28 = .ok (.iadd, 1) := by decide +kernel
theorem dX0_keepIdentity_29 : decode cX0_keepIdentity 29 = .ok (.putfield 34, 3) := by decide +kernel
theorem dX0_keepIdentity_32 : decode cX0_keepIdentity 32 = .ok (.return_, 1) := by decide +kernel
theorem dX0_tick_0 : decode cX0_tick 0 = .ok (.aload_n 0, 1) := by decide +kernel
theorem dX0_tick_1 : decode cX0_tick 1 = .ok (.iload_n 2, 1) := by decide +kernel
theorem dX0_tick_2 : decode cX0_tick 2 = .ok (.invokevirtual 63, 3) := by decide +kernel
theorem dX0_tick_5 : decode cX0_tick 5 = .ok (.istore_n 3, 1) := by decide +kernel
theorem dX0_tick_6 : decode cX0_tick 6 = .ok (.aload_n 0, 1) := by decide +kernel
theorem dX0_tick_7 : decode cX0_tick 7 = .ok (.iload_n 2, 1) := by decide +kernel
theorem dX0_tick_8 : decode cX0_tick 8 = .ok (.invokevirtual 67, 3) := by decide +kernel
theorem dX0_tick_11 : decode cX0_tick 11 = .ok (.aload_n 0, 1) := by decide +kernel
theorem dX0_tick_12 : decode cX0_tick 12 = .ok (.aload_n 0, 1) := by decide +kernel
theorem dX0_tick_13 : decode cX0_tick 13 = .ok (.getfield 24, 3) := by decide +kernel
theorem dX0_tick_16 : decode cX0_tick 16 = .ok (.iload_n 1, 1) := by decide +kernel
theorem dX0_tick_17 : decode cX0_tick 17 = .ok (.invokestatic 71, 3) := by decide +kernel
theorem dX0_tick_20 : decode cX0_tick 20 = .ok (.putfield 24, 3) := by decide +kernel
theorem dX0_tick_23 : decode cX0_tick 23 = .ok (.aload_n 0, 1) := by decide +kernel
theorem dX0_tick_24 : decode cX0_tick 24 = .ok (.dup, 1) := by decide +kernel
theorem dX0_tick_25 : decode cX0_tick 25 = .ok (.getfield 27, 3) := by decide +kernel
theorem dX0_tick_28 : decode cX0_tick 28 = .ok (.iconst 1, 1) := by decide +kernel
theorem dX0_tick_29 : decode cX0_tick 29 = .ok (.iadd, 1) := by decide +kernel
theorem dX0_tick_30 : decode cX0_tick 30 = .ok (.putfield 27, 3) := by decide +kernel
theorem dX0_tick_33 : decode cX0_tick 33 = .ok (.iload_n 3, 1) := by decide +kernel
theorem dX0_tick_34 : decode cX0_tick 34 = .ok (.ireturn, 1) := by decide +kernel
theorem dX0_outputWith_0 : decode cX0_outputWith 0 = .ok (.aload_n 0, 1) := by decide +kernel
theorem dX0_outputWith_1 : decode cX0_outputWith 1 = .ok (.getfield 24, 3) := by decide +kernel
theorem dX0_outputWith_4 : decode cX0_outputWith 4 = .ok (.iconst 4, 1) := by decide +kernel
theorem dX0_outputWith_5 : decode cX0_outputWith 5 = .ok (.if_icmp .eq 14, 3) := by decide +kernel
theorem dX0_outputWith_8 : decode cX0_outputWith 8 = .ok (.aload_n 0, 1) := by decide +kernel
theorem dX0_outputWith_9 : decode cX0_outputWith 9 = .ok (.getfield 24, 3) := by decide +kernel
theorem dX0_outputWith_12 : decode cX0_outputWith 12 = .ok (.bipush 11, 2) := by decide +kernel
theorem dX0_outputWith_14 : decode cX0_outputWith 14 = .ok (.if_icmp .eq 5, 3) := by decide +kernel
theorem dX0_outputWith_17 : decode cX0_outputWith 17 = .ok (.iconst 1, 1) := by decide +kernel
theorem dX0_outputWith_18 : decode cX0_outputWith 18 = .ok (.ireturn, 1) := by decide +kernel
theorem dX0_outputWith_19 : decode cX0_outputWith 19 = .ok (.aload_n 0, 1) := by decide +kernel
theorem dX0_outputWith_20 : decode cX0_outputWith 20 = .ok (.getfield 18, 3) := by decide +kernel
theorem dX0_outputWith_23 : decode cX0_outputWith 23 = .ok (.ifCond .gt 5, 3) := by decide +kernel
theorem dX0_outputWith_26 : decode cX0_outputWith 26 = .ok (.iload_n 1, 1) := by decide +kernel
theorem dX0_outputWith_27 : decode cX0_outputWith 27 = .ok (.ireturn, 1) := by decide +kernel
theorem dX0_outputWith_28 : decode cX0_outputWith 28 = .ok (.aload_n 0, 1) := by decide +kernel
theorem dX0_outputWith_29 : decode cX0_outputWith 29 = .ok (.getfield 11, 3) := by decide +kernel
theorem dX0_outputWith_32 : decode cX0_outputWith 32 = .ok (.aload_n 0, 1) := by decide +kernel
theorem dX0_outputWith_33 : decode cX0_outputWith 33 = .ok (.getfield 18, 3) := by decide +kernel
theorem dX0_outputWith_36 : decode cX0_outputWith 36 = .ok (.iconst 1, 1) := by decide +kernel
theorem dX0_outputWith_37 : decode cX0_outputWith 37 = .ok (.isub, 1) := by decide +kernel
theorem dX0_outputWith_38 : decode cX0_outputWith 38 = .ok (.aaload, 1) := by decide +kernel
theorem dX0_outputWith_39 : decode cX0_outputWith 39 = .ok (.astore_n 2, 1) := by decide +kernel
theorem dX0_outputWith_40 : decode cX0_outputWith 40 = .ok (.aload_n 0, 1) := by decide +kernel
theorem dX0_outputWith_41 : decode cX0_outputWith 41 = .ok (.getfield 24, 3) := by decide +kernel
theorem dX0_outputWith_44 : decode cX0_outputWith 44 = .ok (.iconst 4, 1) := by decide +kernel
theorem dX0_outputWith_45 : decode cX0_outputWith 45 = .ok (.if_icmp .ne 10, 3) := by decide +kernel
theorem dX0_outputWith_48 : decode cX0_outputWith 48 = .ok (.aload_n 2, 1) := by decide +kernel
theorem dX0_outputWith_49 : decode cX0_outputWith 49 = .ok (.invokevirtual 75, 3) := by decide +kernel
theorem dX0_outputWith_52 : decode cX0_outputWith 52 = .ok (.goto 7, 3) := by decide +kernel
theorem dX0_outputWith_55 : decode cX0_outputWith 55 = .ok (.aload_n 2, 1) := by decide +kernel
theorem dX0_outputWith_56 : decode cX0_outputWith 56 = .ok (.invokevirtual 78, 3) := by decide +kernel
theorem dX0_outputWith_59 : decode cX0_outputWith 59 = .ok (.ireturn, 1) := by decide +kernel
theorem dX0_work_0 : decode cX0_work 0 = .ok (.aload_n 0, 1) := by decide +kernel
theorem dX0_work_1 : decode cX0_work 1 = .ok (.getfield 24, 3) := by decide +kernel
theorem dX0_work_4 : decode cX0_work 4 = .ok (.iconst 4, 1) := by decide +kernel
theorem dX0_work_5 : decode cX0_work 5 = .ok (.if_icmp .ne 11, 3) := by decide +kernel
theorem dX0_work_8 : decode cX0_work 8 = .ok (.aload_n 0, 1) := by decide +kernel
theorem dX0_work_9 : decode cX0_work 9 = .ok (.iload_n 1, 1) := by decide +kernel
theorem dX0_work_10 : decode cX0_work 10 = .ok (.invokevirtual 81, 3) := by decide +kernel
theorem dX0_work_13 : decode cX0_work 13 = .ok (.goto 46, 3) := by decide +kernel
theorem dX0_work_16 : decode cX0_work 16 = .ok (.aload_n 0, 1) := by decide +kernel
theorem dX0_work_17 : decode cX0_work 17 = .ok (.getfield 24, 3) := by decide +kernel
theorem dX0_work_20 : decode cX0_work 20 = .ok (.bipush 11, 2) := by decide +kernel
theorem dX0_work_22 : decode cX0_work 22 = .ok (.if_icmp .ne 11, 3) := by decide +kernel
theorem dX0_work_25 : decode cX0_work 25 = .ok (.aload_n 0, 1) := by decide +kernel
theorem dX0_work_26 : decode cX0_work 26 = .ok (.iload_n 1, 1) := by decide +kernel
theorem dX0_work_27 : decode cX0_work 27 = .ok (.invokevirtual 84, 3) := by decide +kernel
theorem dX0_work_30 : decode cX0_work 30 = .ok (.goto 29, 3) := by decide +kernel
theorem dX0_work_33 : decode cX0_work 33 = .ok (.iconst 0, 1) := by decide +kernel
theorem dX0_work_34 : decode cX0_work 34 = .ok (.istore_n 2, 1) := by decide +kernel
theorem dX0_work_35 : decode cX0_work 35 = .ok (.iload_n 2, 1) := by decide +kernel
theorem dX0_work_36 : decode cX0_work 36 = .ok (.aload_n 0, 1) := by decide +kernel
theorem dX0_work_37 : decode cX0_work 37 = .ok (.getfield 18, 3) := by decide +kernel
theorem dX0_work_40 : decode cX0_work 40 = .ok (.if_icmp .ge 19, 3) := by decide +kernel
theorem dX0_work_43 : decode cX0_work 43 = .ok (.aload_n 0, 1) := by decide +kernel
theorem dX0_work_44 : decode cX0_work 44 = .ok (.aload_n 0, 1) := by decide +kernel
theorem dX0_work_45 : decode cX0_work 45 = .ok (.getfield 11, 3) := by decide +kernel
theorem dX0_work_48 : decode cX0_work 48 = .ok (.iload_n 2, 1) := by decide +kernel
theorem dX0_work_49 : decode cX0_work 49 = .ok (.aaload, 1) := by decide +kernel
theorem dX0_work_50 : decode cX0_work 50 = .ok (.invokevirtual 87, 3) := by decide +kernel
theorem dX0_work_53 : decode cX0_work 53 = .ok (.iinc 2 1, 3) := by decide +kernel
theorem dX0_work_56 : decode cX0_work 56 = .ok (.goto (-21), 3) := by decide +kernel
theorem dX0_work_59 : decode cX0_work 59 = .ok (.return_, 1) := by decide +kernel
theorem dX0_workOf_0 : decode cX0_workOf 0 = .ok (.aload_n 0, 1) := by decide +kernel
theorem dX0_workOf_1 : decode cX0_workOf 1 = .ok (.getfield 24, 3) := by decide +kernel
theorem dX0_workOf_4 : decode cX0_workOf 4 = .ok (.lookupswitch 92 #[(0, 52), (3, 59), (8, 66), (10, 73), (15, 81)], 52) := by decide +kernel
theorem dX0_workOf_56 : decode cX0_workOf 56 = .ok (.aload_n 1, 1) := by decide +kernel
theorem dX0_workOf_57 : decode cX0_workOf 57 = .ok (.invokevirtual 90, 3) := by decide +kernel
theorem dX0_workOf_60 : decode cX0_workOf 60 = .ok (.goto 36, 3) := by decide +kernel
theorem dX0_workOf_63 : decode cX0_workOf 63 = .ok (.aload_n 1, 1) := by decide +kernel
theorem dX0_workOf_64 : decode cX0_workOf 64 = .ok (.invokevirtual 93, 3) := by decide +kernel
theorem dX0_workOf_67 : decode cX0_workOf 67 = .ok (.goto 29, 3) := by decide +kernel
theorem dX0_workOf_70 : decode cX0_workOf 70 = .ok (.aload_n 1, 1) := by decide +kernel
theorem dX0_workOf_71 : decode cX0_workOf 71 = .ok (.invokevirtual 96, 3) := by decide +kernel
theorem dX0_workOf_74 : decode cX0_workOf 74 = .ok (.goto 22, 3) := by decide +kernel
theorem dX0_workOf_77 : decode cX0_workOf 77 = .ok (.aload_n 1, 1) := by decide +kernel
theorem dX0_workOf_78 : decode cX0_workOf 78 = .ok (.iconst 1, 1) := by decide +kernel
theorem dX0_workOf_79 : decode cX0_workOf 79 = .ok (.putfield 99, 3) := by decide +kernel
theorem dX0_workOf_82 : decode cX0_workOf 82 = .ok (.goto 14, 3) := by decide +kernel
theorem dX0_workOf_85 : decode cX0_workOf 85 = .ok (.aload_n 1, 1) := by decide +kernel
theorem dX0_workOf_86 : decode cX0_workOf 86 = .ok (.aload_n 1, 1) := by decide +kernel
theorem dX0_workOf_87 : decode cX0_workOf 87 = .ok (.getfield 99, 3) := by decide +kernel
theorem dX0_workOf_90 : decode cX0_workOf 90 = .ok (.invokevirtual 102, 3) := by decide +kernel
theorem dX0_workOf_93 : decode cX0_workOf 93 = .ok (.goto 3, 3) := by decide +kernel
theorem dX0_workOf_96 : decode cX0_workOf 96 = .ok (.return_, 1) := by decide +kernel
theorem dX0_shiftAllData_0 : decode cX0_shiftAllData 0 = .ok (.iload_n 1, 1) := by decide +kernel
theorem dX0_shiftAllData_1 : decode cX0_shiftAllData 1 = .ok (.istore_n 2, 1) := by decide +kernel
theorem dX0_shiftAllData_2 : decode cX0_shiftAllData 2 = .ok (.iconst 0, 1) := by decide +kernel
theorem dX0_shiftAllData_3 : decode cX0_shiftAllData 3 = .ok (.istore_n 3, 1) := by decide +kernel
theorem dX0_shiftAllData_4 : decode cX0_shiftAllData 4 = .ok (.iload_n 3, 1) := by decide +kernel
theorem dX0_shiftAllData_5 : decode cX0_shiftAllData 5 = .ok (.aload_n 0, 1) := by decide +kernel
theorem dX0_shiftAllData_6 : decode cX0_shiftAllData 6 = .ok (.getfield 18, 3) := by decide +kernel
theorem dX0_shiftAllData_9 : decode cX0_shiftAllData 9 = .ok (.if_icmp .ge 33, 3) := by decide +kernel
theorem dX0_shiftAllData_12 : decode cX0_shiftAllData 12 = .ok (.aload_n 0, 1) := by decide +kernel
theorem dX0_shiftAllData_13 : decode cX0_shiftAllData 13 = .ok (.getfield 11, 3) := by decide +kernel
theorem dX0_shiftAllData_16 : decode cX0_shiftAllData 16 = .ok (.iload_n 3, 1) := by decide +kernel
theorem dX0_shiftAllData_17 : decode cX0_shiftAllData 17 = .ok (.aaload, 1) := by decide +kernel
theorem dX0_shiftAllData_18 : decode cX0_shiftAllData 18 = .ok (.invokevirtual 75, 3) := by decide +kernel
theorem dX0_shiftAllData_21 : decode cX0_shiftAllData 21 = .ok (.istore 4, 2) := by decide +kernel
theorem dX0_shiftAllData_23 : decode cX0_shiftAllData 23 = .ok (.aload_n 0, 1) := by decide +kernel
theorem dX0_shiftAllData_24 : decode cX0_shiftAllData 24 = .ok (.getfield 11, 3) := by decide +kernel
theorem dX0_shiftAllData_27 : decode cX0_shiftAllData 27 = .ok (.iload_n 3, 1) := by decide +kernel
theorem dX0_shiftAllData_28 : decode cX0_shiftAllData 28 = .ok (.aaload, 1) := by decide +kernel
theorem dX0_shiftAllData_29 : decode cX0_shiftAllData 29 = .ok (.iload_n 2, 1) := by decide +kernel
theorem dX0_shiftAllData_30 : decode cX0_shiftAllData 30 = .ok (.invokevirtual 105, 3) := by decide +kernel
theorem dX0_shiftAllData_33 : decode cX0_shiftAllData 33 = .ok (.iload 4, 2) := by decide +kernel
theorem dX0_shiftAllData_35 : decode cX0_shiftAllData 35 = .ok (.istore_n 2, 1) := by decide +kernel
theorem dX0_shiftAllData_36 : decode cX0_shiftAllData 36 = .ok (.iinc 3 1, 3) := by decide +kernel
theorem dX0_shiftAllData_39 : decode cX0_shiftAllData 39 = .ok (.goto (-35), 3) := by decide +kernel
theorem dX0_shiftAllData_42 : decode cX0_shiftAllData 42 = .ok (.return_, 1) := by decide +kernel
theorem dX0_shiftAllCodes_0 : decode cX0_shiftAllCodes 0 = .ok (.iload_n 1, 1) := by decide +kernel
theorem dX0_shiftAllCodes_1 : decode cX0_shiftAllCodes 1 = .ok (.istore_n 2, 1) := by decide +kernel
theorem dX0_shiftAllCodes_2 : decode cX0_shiftAllCodes 2 = .ok (.iconst 0, 1) := by decide +kernel
theorem dX0_shiftAllCodes_3 : decode cX0_shiftAllCodes 3 = .ok (.istore_n 3, 1) := by decide +kernel
theorem dX0_shiftAllCodes_4 : decode cX0_shiftAllCodes 4 = .ok (.iload_n 3, 1) := by decide +kernel
theorem dX0_shiftAllCodes_5 : decode cX0_shiftAllCodes 5 = .ok (.aload_n 0, 1) := by decide +kernel
theorem dX0_shiftAllCodes_6 : decode cX0_shiftAllCodes 6 = .ok (.getfield 18, 3) := by decide +kernel
theorem dX0_shiftAllCodes_9 : decode cX0_shiftAllCodes 9 = .ok (.if_icmp .ge 33, 3) := by decide +kernel
theorem dX0_shiftAllCodes_12 : decode cX0_shiftAllCodes 12 = .ok (.aload_n 0, 1) := by decide +kernel
theorem dX0_shiftAllCodes_13 : decode cX0_shiftAllCodes 13 = .ok (.getfield 11, 3) := by decide +kernel
theorem dX0_shiftAllCodes_16 : decode cX0_shiftAllCodes 16 = .ok (.iload_n 3, 1) := by decide +kernel
theorem dX0_shiftAllCodes_17 : decode cX0_shiftAllCodes 17 = .ok (.aaload, 1) := by decide +kernel
theorem dX0_shiftAllCodes_18 : decode cX0_shiftAllCodes 18 = .ok (.invokevirtual 78, 3) := by decide +kernel
theorem dX0_shiftAllCodes_21 : decode cX0_shiftAllCodes 21 = .ok (.istore 4, 2) := by decide +kernel
theorem dX0_shiftAllCodes_23 : decode cX0_shiftAllCodes 23 = .ok (.aload_n 0, 1) := by decide +kernel
theorem dX0_shiftAllCodes_24 : decode cX0_shiftAllCodes 24 = .ok (.getfield 11, 3) := by decide +kernel
theorem dX0_shiftAllCodes_27 : decode cX0_shiftAllCodes 27 = .ok (.iload_n 3, 1) := by decide +kernel
theorem dX0_shiftAllCodes_28 : decode cX0_shiftAllCodes 28 = .ok (.aaload, 1) := by decide +kernel
theorem dX0_shiftAllCodes_29 : decode cX0_shiftAllCodes 29 = .ok (.iload_n 2, 1) := by decide +kernel
theorem dX0_shiftAllCodes_30 : decode cX0_shiftAllCodes 30 = .ok (.invokevirtual 108, 3) := by decide +kernel
theorem dX0_shiftAllCodes_33 : decode cX0_shiftAllCodes 33 = .ok (.iload 4, 2) := by decide +kernel
theorem dX0_shiftAllCodes_35 : decode cX0_shiftAllCodes 35 = .ok (.istore_n 2, 1) := by decide +kernel
theorem dX0_shiftAllCodes_36 : decode cX0_shiftAllCodes 36 = .ok (.iinc 3 1, 3) := by decide +kernel
theorem dX0_shiftAllCodes_39 : decode cX0_shiftAllCodes 39 = .ok (.goto (-35), 3) := by decide +kernel
theorem dX0_shiftAllCodes_42 : decode cX0_shiftAllCodes 42 = .ok (.return_, 1) := by decide +kernel
theorem dX1_init_0 : decode cX1_init 0 = .ok (.aload_n 0, 1) := by decide +kernel
theorem dX1_init_1 : decode cX1_init 1 = .ok (.invokespecial 3, 3) := by decide +kernel
theorem dX1_init_4 : decode cX1_init 4 = .ok (.return_, 1) := by decide +kernel
theorem dX1_beNew_0 : decode cX1_beNew 0 = .ok (.aload_n 0, 1) := by decide +kernel
theorem dX1_beNew_1 : decode cX1_beNew 1 = .ok (.iload_n 1, 1) := by decide +kernel
theorem dX1_beNew_2 : decode cX1_beNew 2 = .ok (.putfield 9, 3) := by decide +kernel
theorem dX1_beNew_5 : decode cX1_beNew 5 = .ok (.aload_n 0, 1) := by decide +kernel
theorem dX1_beNew_6 : decode cX1_beNew 6 = .ok (.iload_n 2, 1) := by decide +kernel
theorem dX1_beNew_7 : decode cX1_beNew 7 = .ok (.putfield 15, 3) := by decide +kernel
theorem dX1_beNew_10 : decode cX1_beNew 10 = .ok (.aload_n 0, 1) := by decide +kernel
theorem dX1_beNew_11 : decode cX1_beNew 11 = .ok (.iload_n 3, 1) := by decide +kernel
theorem dX1_beNew_12 : decode cX1_beNew 12 = .ok (.putfield 18, 3) := by decide +kernel
theorem dX1_beNew_15 : decode cX1_beNew 15 = .ok (.aload_n 0, 1) := by decide +kernel
theorem dX1_beNew_16 : decode cX1_beNew 16 = .ok (.iconst 0, 1) := by decide +kernel
theorem dX1_beNew_17 : decode cX1_beNew 17 = .ok (.putfield 21, 3) := by decide +kernel
theorem dX1_beNew_20 : decode cX1_beNew 20 = .ok (.aload_n 0, 1) := by decide +kernel
theorem dX1_beNew_21 : decode cX1_beNew 21 = .ok (.iconst 0, 1) := by decide +kernel
theorem dX1_beNew_22 : decode cX1_beNew 22 = .ok (.putfield 24, 3) := by decide +kernel
theorem dX1_beNew_25 : decode cX1_beNew 25 = .ok (.aload_n 0, 1) := by decide +kernel
theorem dX1_beNew_26 : decode cX1_beNew 26 = .ok (.iconst 0, 1) := by decide +kernel
theorem dX1_beNew_27 : decode cX1_beNew 27 = .ok (.putfield 27, 3) := by decide +kernel
theorem dX1_beNew_30 : decode cX1_beNew 30 = .ok (.aload_n 0, 1) := by decide +kernel
theorem dX1_beNew_31 : decode cX1_beNew 31 = .ok (.iconst 0, 1) := by decide +kernel
theorem dX1_beNew_32 : decode cX1_beNew 32 = .ok (.putfield 31, 3) := by decide +kernel
theorem dX1_beNew_35 : decode cX1_beNew 35 = .ok (.aload_n 0, 1) := by decide +kernel
theorem dX1_beNew_36 : decode cX1_beNew 36 = .ok (.invokevirtual 34, 3) := by decide +kernel
theorem dX1_beNew_39 : decode cX1_beNew 39 = .ok (.return_, 1) := by decide +kernel
theorem dX1_becomeCopyOf_0 : decode cX1_becomeCopyOf 0 = .ok (.aload_n 0, 1) := by decide +kernel
theorem dX1_becomeCopyOf_1 : decode cX1_becomeCopyOf 1 = .ok (.aload_n 1, 1) := by decide +kernel
theorem dX1_becomeCopyOf_2 : decode cX1_becomeCopyOf 2 = .ok (.getfield 9, 3) := by decide +kernel
theorem dX1_becomeCopyOf_5 : decode cX1_becomeCopyOf 5 = .ok (.putfield 9, 3) := by decide +kernel
theorem dX1_becomeCopyOf_8 : decode cX1_becomeCopyOf 8 = .ok (.aload_n 0, 1) := by decide +kernel
theorem dX1_becomeCopyOf_9 : decode cX1_becomeCopyOf 9 = .ok (.aload_n 1, 1) := by decide +kernel
theorem dX1_becomeCopyOf_10 : decode cX1_becomeCopyOf 10 = .ok (.getfield 15, 3) := by decide +kernel
theorem dX1_becomeCopyOf_13 : decode cX1_becomeCopyOf 13 = .ok (.putfield 15, 3) := by decide +kernel
theorem dX1_becomeCopyOf_16 : decode cX1_becomeCopyOf 16 = .ok (.aload_n 0, 1) := by decide +kernel
theorem dX1_becomeCopyOf_17 : decode cX1_becomeCopyOf 17 = .ok (.aload_n 1, 1) := by decide +kernel
theorem dX1_becomeCopyOf_18 : decode cX1_becomeCopyOf 18 = .ok (.getfield 18, 3) := by decide +kernel
theorem dX1_becomeCopyOf_21 : decode cX1_becomeCopyOf 21 = .ok (.putfield 18, 3) := by decide +kernel
theorem dX1_becomeCopyOf_24 : decode cX1_becomeCopyOf 24 = .ok (.aload_n 0, 1) := by decide +kernel
theorem dX1_becomeCopyOf_25 : decode cX1_becomeCopyOf 25 = .ok (.aload_n 1, 1) := by decide +kernel
theorem dX1_becomeCopyOf_26 : decode cX1_becomeCopyOf 26 = .ok (.getfield 21, 3) := by decide +kernel
theorem dX1_becomeCopyOf_29 : decode cX1_becomeCopyOf 29 = .ok (.putfield 21, 3) := by decide +kernel
theorem dX1_becomeCopyOf_32 : decode cX1_becomeCopyOf 32 = .ok (.aload_n 0, 1) := by decide +kernel
theorem dX1_becomeCopyOf_33 : decode cX1_becomeCopyOf 33 = .ok (.aload_n 1, 1) := by decide +kernel
theorem dX1_becomeCopyOf_34 : decode cX1_becomeCopyOf 34 = .ok (.getfield 24, 3) := by decide +kernel
theorem dX1_becomeCopyOf_37 : decode cX1_becomeCopyOf 37 = .ok (.putfield 24, 3) := by decide +kernel
theorem dX1_becomeCopyOf_40 : decode cX1_becomeCopyOf 40 = .ok (.aload_n 0, 1) := by decide +kernel
theorem dX1_becomeCopyOf_41 : decode cX1_becomeCopyOf 41 = .ok (.aload_n 1, 1) := by decide +kernel
theorem dX1_becomeCopyOf_42 : decode cX1_becomeCopyOf 42 = .ok (.getfield 27, 3) := by decide +kernel
theorem dX1_becomeCopyOf_45 : decode cX1_becomeCopyOf 45 = .ok (.putfield 27, 3) := by decide +kernel
theorem dX1_becomeCopyOf_48 : decode cX1_becomeCopyOf 48 = .ok (.aload_n 0, 1) := by decide +kernel
theorem dX1_becomeCopyOf_49 : decode cX1_becomeCopyOf 49 = .ok (.aload_n 1, 1) := by decide +kernel
theorem dX1_becomeCopyOf_50 : decode cX1_becomeCopyOf 50 = .ok (.getfield 37, 3) := by decide +kernel
theorem dX1_becomeCopyOf_53 : decode cX1_becomeCopyOf 53 = .ok (.putfield 37, 3) := by decide +kernel
theorem dX1_becomeCopyOf_56 : decode cX1_becomeCopyOf 56 = .ok (.aload_n 0, 1) := by decide +kernel
theorem dX1_becomeCopyOf_57 : decode cX1_becomeCopyOf 57 = .ok (.aload_n 1, 1) := by decide +kernel
theorem dX1_becomeCopyOf_58 : decode cX1_becomeCopyOf 58 = .ok (.getfield 31, 3) := by decide +kernel
theorem dX1_becomeCopyOf_61 : decode cX1_becomeCopyOf 61 = .ok (.putfield 31, 3) := by decide +kernel
theorem dX1_becomeCopyOf_64 : decode cX1_becomeCopyOf 64 = .ok (.aload_n 0, 1) := by decide +kernel
theorem dX1_becomeCopyOf_65 : decode cX1_becomeCopyOf 65 = .ok (.aload_n 1, 1) := by decide +kernel
theorem dX1_becomeCopyOf_66 : decode cX1_becomeCopyOf 66 = .ok (.getfield 40, 3) := by decide +kernel
theorem dX1_becomeCopyOf_69 : decode cX1_becomeCopyOf 69 = .ok (.putfield 40, 3) := by decide +kernel
theorem dX1_becomeCopyOf_72 : decode cX1_becomeCopyOf 72 = .ok (.return_, 1) := by decide +kernel
theorem dX1_changePins_0 : decode cX1_changePins 0 = .ok (.aload_n 0, 1) := by decide +kernel
theorem dX1_changePins_1 : decode cX1_changePins 1 = .ok (.getfield 21, 3) := by decide +kernel
theorem dX1_changePins_4 : decode cX1_changePins 4 = .ok (.istore_n 2, 1) := by decide +kernel
theorem dX1_changePins_5 : decode cX1_changePins 5 = .ok (.aload_n 0, 1) := by decide +kernel
theorem dX1_changePins_6 : decode cX1_changePins 6 = .ok (.iload_n 1, 1) := by decide +kernel
theorem dX1_changePins_7 : decode cX1_changePins 7 = .ok (.aload_n 0, 1) := by decide +kernel
theorem dX1_changePins_8 : decode cX1_changePins 8 = .ok (.getfield 18, 3) := by decide +kernel
theorem dX1_changePins_11 : decode cX1_changePins 11 = .ok (.invokestatic 43, 3) := by decide +kernel
theorem dX1_changePins_14 : decode cX1_changePins 14 = .ok (.iand, 1) := by decide +kernel
theorem dX1_changePins_15 : decode cX1_changePins 15 = .ok (.putfield 21, 3) := by decide +kernel
theorem dX1_changePins_18 : decode cX1_changePins 18 = .ok (.iload_n 2, 1) := by decide +kernel
theorem dX1_changePins_19 : decode cX1_changePins 19 = .ok (.ireturn, 1) := by decide +kernel
theorem dX1_selectsCells_0 : decode cX1_selectsCells 0 = .ok (.aload_n 0, 1) := by decide +kernel
theorem dX1_selectsCells_1 : decode cX1_selectsCells 1 = .ok (.getfield 37, 3) := by decide +kernel
theorem dX1_selectsCells_4 : decode cX1_selectsCells 4 = .ok (.ifCond .eq 11, 3) := by decide +kernel
theorem dX1_selectsCells_7 : decode cX1_selectsCells 7 = .ok (.aload_n 0, 1) := by decide +kernel
theorem dX1_selectsCells_8 : decode cX1_selectsCells 8 = .ok (.getfield 37, 3) := by decide +kernel
theorem dX1_selectsCells_11 : decode cX1_selectsCells 11 = .ok (.iconst 2, 1) := by decide +kernel
theorem dX1_selectsCells_12 : decode cX1_selectsCells 12 = .ok (.if_icmp .ne 7, 3) := by decide +kernel
theorem dX1_selectsCells_15 : decode cX1_selectsCells 15 = .ok (.iconst 1, 1) := by decide +kernel
theorem dX1_selectsCells_16 : decode cX1_selectsCells 16 = .ok (.goto 4, 3) := by decide +kernel
theorem dX1_selectsCells_19 : decode cX1_selectsCells 19 = .ok (.iconst 0, 1) := by decide +kernel
theorem dX1_selectsCells_20 : decode cX1_selectsCells 20 = .ok (.ireturn, 1) := by decide +kernel
theorem dX1_selectsIdentity_0 : decode cX1_selectsIdentity 0 = .ok (.aload_n 0, 1) := by decide +kernel
theorem dX1_selectsIdentity_1 : decode cX1_selectsIdentity 1 = .ok (.getfield 37, 3) := by decide +kernel
theorem dX1_selectsIdentity_4 : decode cX1_selectsIdentity 4 = .ok (.iconst 1, 1) := by decide +kernel
theorem dX1_selectsIdentity_5 : decode cX1_selectsIdentity 5 = .ok (.if_icmp .ne 14, 3) := by decide +kernel
theorem dX1_selectsIdentity_8 : decode cX1_selectsIdentity 8 = .ok (.aload_n 0, 1) := by decide +kernel
theorem dX1_selectsIdentity_9 : decode cX1_selectsIdentity 9 = .ok (.getfield 15, 3) := by decide +kernel
theorem dX1_selectsIdentity_12 : decode cX1_selectsIdentity 12 = .ok (.ifCond .eq 7, 3) := by decide +kernel
theorem dX1_selectsIdentity_15 : decode cX1_selectsIdentity 15 = .ok (.iconst 1, 1) := by decide +kernel
theorem dX1_selectsIdentity_16 : decode cX1_selectsIdentity 16 = .ok (.goto 4, 3) := by decide +kernel
theorem dX1_selectsIdentity_19 : decode cX1_selectsIdentity 19 = .ok (.iconst 0, 1) := by decide +kernel
theorem dX1_selectsIdentity_20 : decode cX1_selectsIdentity 20 = .ok (.ireturn, 1) := by decide +kernel
theorem dX1_selectsBypass_0 : decode cX1_selectsBypass 0 = .ok (.aload_n 0, 1) := by decide +kernel
theorem dX1_selectsBypass_1 : decode cX1_selectsBypass 1 = .ok (.invokevirtual 47, 3) := by decide +kernel
theorem dX1_selectsBypass_4 : decode cX1_selectsBypass 4 = .ok (.ifCond .ne 14, 3) := by decide +kernel
theorem dX1_selectsBypass_7 : decode cX1_selectsBypass 7 = .ok (.aload_n 0, 1) := by decide +kernel
theorem dX1_selectsBypass_8 : decode cX1_selectsBypass 8 = .ok (.invokevirtual 51, 3) := by decide +kernel
theorem dX1_selectsBypass_11 : decode cX1_selectsBypass 11 = .ok (.ifCond .ne 7, 3) := by decide +kernel
theorem dX1_selectsBypass_14 : decode cX1_selectsBypass 14 = .ok (.iconst 1, 1) := by decide +kernel
theorem dX1_selectsBypass_15 : decode cX1_selectsBypass 15 = .ok (.goto 4, 3) := by decide +kernel
theorem dX1_selectsBypass_18 : decode cX1_selectsBypass 18 = .ok (.iconst 0, 1) := by decide +kernel
theorem dX1_selectsBypass_19 : decode cX1_selectsBypass 19 = .ok (.ireturn, 1) := by decide +kernel
theorem dX1_dataBits_0 : decode cX1_dataBits 0 = .ok (.aload_n 0, 1) := by decide +kernel
theorem dX1_dataBits_1 : decode cX1_dataBits 1 = .ok (.invokevirtual 47, 3) := by decide +kernel
theorem dX1_dataBits_4 : decode cX1_dataBits 4 = .ok (.ifCond .eq 8, 3) := by decide +kernel
theorem dX1_dataBits_7 : decode cX1_dataBits 7 = .ok (.aload_n 0, 1) := by decide +kernel
theorem dX1_dataBits_8 : decode cX1_dataBits 8 = .ok (.getfield 18, 3) := by decide +kernel
theorem dX1_dataBits_11 : decode cX1_dataBits 11 = .ok (.ireturn, 1) := by decide +kernel
theorem dX1_dataBits_12 : decode cX1_dataBits 12 = .ok (.aload_n 0, 1) := by decide +kernel
theorem dX1_dataBits_13 : decode cX1_dataBits 13 = .ok (.invokevirtual 51, 3) := by decide +kernel
theorem dX1_dataBits_16 : decode cX1_dataBits 16 = .ok (.ifCond .eq 8, 3) := by decide +kernel
theorem dX1_dataBits_19 : decode cX1_dataBits 19 = .ok (.bipush 8, 2) := by decide +kernel
theorem dX1_dataBits_21 : decode cX1_dataBits 21 = .ok (.goto 4, 3) := by decide +kernel
theorem dX1_dataBits_24 : decode cX1_dataBits 24 = .ok (.iconst 1, 1) := by decide +kernel
theorem dX1_dataBits_25 : decode cX1_dataBits 25 = .ok (.ireturn, 1) := by decide +kernel
theorem dX1_giveInstruction_0 : decode cX1_giveInstruction 0 = .ok (.aload_n 0, 1) := by decide +kernel
theorem dX1_giveInstruction_1 : decode cX1_giveInstruction 1 = .ok (.iload_n 1, 1) := by decide +kernel
theorem dX1_giveInstruction_2 : decode cX1_giveInstruction 2 = .ok (.putfield 37, 3) := by decide +kernel
theorem dX1_giveInstruction_5 : decode cX1_giveInstruction 5 = .ok (.aload_n 0, 1) := by decide +kernel
theorem dX1_giveInstruction_6 : decode cX1_giveInstruction 6 = .ok (.iconst 0, 1) := by decide +kernel
theorem dX1_giveInstruction_7 : decode cX1_giveInstruction 7 = .ok (.putfield 40, 3) := by decide +kernel
theorem dX1_giveInstruction_10 : decode cX1_giveInstruction 10 = .ok (.return_, 1) := by decide +kernel
theorem dX1_giveFirstInstruction_0 : decode cX1_giveFirstInstruction 0 = .ok (.aload_n 0, 1) := by decide +kernel
theorem dX1_giveFirstInstruction_1 : decode cX1_giveFirstInstruction 1 = .ok (.aload_n 0, 1) := by decide +kernel
theorem dX1_giveFirstInstruction_2 : decode cX1_giveFirstInstruction 2 = .ok (.getfield 15, 3) := by decide +kernel
theorem dX1_giveFirstInstruction_5 : decode cX1_giveFirstInstruction 5 = .ok (.ifCond .eq 7, 3) := by decide +kernel
theorem dX1_giveFirstInstruction_8 : decode cX1_giveFirstInstruction 8 = .ok (.iconst 1, 1) := by decide +kernel
theorem dX1_giveFirstInstruction_9 : decode cX1_giveFirstInstruction 9 = .ok (.goto 10, 3) := by decide +kernel
theorem dX1_giveFirstInstruction_12 : decode cX1_giveFirstInstruction 12 = .ok (.aload_n 0, 1) := by decide +kernel
theorem dX1_giveFirstInstruction_13 : decode cX1_giveFirstInstruction 13 = .ok (.getfield 9, 3) := by decide +kernel
theorem dX1_giveFirstInstruction_16 : decode cX1_giveFirstInstruction 16 = .ok (.invokestatic 43, 3) := by decide +kernel
theorem dX1_giveFirstInstruction_19 : decode cX1_giveFirstInstruction 19 = .ok (.invokevirtual 54, 3) := by decide +kernel
theorem dX1_giveFirstInstruction_22 : decode cX1_giveFirstInstruction 22 = .ok (.return_, 1) := by decide +kernel
theorem dX1_captureData_0 : decode cX1_captureData 0 = .ok (.aload_n 0, 1) := by decide +kernel
theorem dX1_captureData_1 : decode cX1_captureData 1 = .ok (.invokevirtual 47, 3) := by decide +kernel
theorem dX1_captureData_4 : decode cX1_captureData 4 = .ok (.ifCond .eq 14, 3) := by decide +kernel
theorem dX1_captureData_7 : decode cX1_captureData 7 = .ok (.aload_n 0, 1) := by decide +kernel
theorem dX1_captureData_8 : decode cX1_captureData 8 = .ok (.aload_n 0, 1) := by decide +kernel
theorem dX1_captureData_9 : decode cX1_captureData 9 = .ok (.getfield 21, 3) := by decide +kernel
theorem dX1_captureData_12 : decode cX1_captureData 12 = .ok (.putfield 40, 3) := by decide +kernel
theorem dX1_captureData_15 : decode cX1_captureData 15 = .ok (.goto 22, 3) := by decide +kernel
theorem dX1_captureData_18 : decode cX1_captureData 18 = .ok (.aload_n 0, 1) := by decide +kernel
theorem dX1_captureData_19 : decode cX1_captureData 19 = .ok (.aload_n 0, 1) := by decide +kernel
theorem dX1_captureData_20 : decode cX1_captureData 20 = .ok (.invokevirtual 51, 3) := by decide +kernel
theorem dX1_captureData_23 : decode cX1_captureData 23 = .ok (.ifCond .eq 10, 3) := by decide +kernel
theorem dX1_captureData_26 : decode cX1_captureData 26 = .ok (.aload_n 0, 1) := by decide +kernel
theorem dX1_captureData_27 : decode cX1_captureData 27 = .ok (.getfield 15, 3) := by decide +kernel
theorem dX1_captureData_30 : decode cX1_captureData 30 = .ok (.goto 4, 3) := by decide +kernel
theorem dX1_captureData_33 : decode cX1_captureData 33 = .ok (.iconst 0, 1) := by decide +kernel
theorem dX1_captureData_34 : decode cX1_captureData 34 = .ok (.putfield 40, 3) := by decide +kernel
theorem dX1_captureData_37 : decode cX1_captureData 37 = .ok (.return_, 1) := by decide +kernel
theorem dX1_updateData_0 : decode cX1_updateData 0 = .ok (.aload_n 0, 1) := by decide +kernel
theorem dX1_updateData_1 : decode cX1_updateData 1 = .ok (.getfield 37, 3) := by decide +kernel
theorem dX1_updateData_4 : decode cX1_updateData 4 = .ok (.ifCond .ne 11, 3) := by decide +kernel
theorem dX1_updateData_7 : decode cX1_updateData 7 = .ok (.aload_n 0, 1) := by decide +kernel
theorem dX1_updateData_8 : decode cX1_updateData 8 = .ok (.aload_n 0, 1) := by decide +kernel
theorem dX1_updateData_9 : decode cX1_updateData 9 = .ok (.getfield 40, 3) := by decide +kernel
theorem dX1_updateData_12 : decode cX1_updateData 12 = .ok (.putfield 24, 3) := by decide +kernel
theorem dX1_updateData_15 : decode cX1_updateData 15 = .ok (.return_, 1) := by decide +kernel
theorem dX1_dataOutput_0 : decode cX1_dataOutput 0 = .ok (.aload_n 0, 1) := by decide +kernel
theorem dX1_dataOutput_1 : decode cX1_dataOutput 1 = .ok (.getfield 27, 3) := by decide +kernel
theorem dX1_dataOutput_4 : decode cX1_dataOutput 4 = .ok (.ifCond .eq 7, 3) := by decide +kernel
theorem dX1_dataOutput_7 : decode cX1_dataOutput 7 = .ok (.iconst 1, 1) := by decide +kernel
theorem dX1_dataOutput_8 : decode cX1_dataOutput 8 = .ok (.goto 9, 3) := by decide +kernel
theorem dX1_dataOutput_11 : decode cX1_dataOutput 11 = .ok (.aload_n 0, 1) := by decide +kernel
theorem dX1_dataOutput_12 : decode cX1_dataOutput 12 = .ok (.getfield 40, 3) := by decide +kernel
theorem dX1_dataOutput_15 : decode cX1_dataOutput 15 = .ok (.iconst 1, 1) := by decide +kernel
theorem dX1_dataOutput_16 : decode cX1_dataOutput 16 = .ok (.iand, 1) := by decide +kernel
theorem dX1_dataOutput_17 : decode cX1_dataOutput 17 = .ok (.ireturn, 1) := by decide +kernel
theorem dX1_codeOutput_0 : decode cX1_codeOutput 0 = .ok (.aload_n 0, 1) := by decide +kernel
theorem dX1_codeOutput_1 : decode cX1_codeOutput 1 = .ok (.getfield 27, 3) := by decide +kernel
theorem dX1_codeOutput_4 : decode cX1_codeOutput 4 = .ok (.ifCond .eq 7, 3) := by decide +kernel
theorem dX1_codeOutput_7 : decode cX1_codeOutput 7 = .ok (.iconst 1, 1) := by decide +kernel
theorem dX1_codeOutput_8 : decode cX1_codeOutput 8 = .ok (.goto 9, 3) := by decide +kernel
theorem dX1_codeOutput_11 : decode cX1_codeOutput 11 = .ok (.aload_n 0, 1) := by decide +kernel
theorem dX1_codeOutput_12 : decode cX1_codeOutput 12 = .ok (.getfield 31, 3) := by decide +kernel
theorem dX1_codeOutput_15 : decode cX1_codeOutput 15 = .ok (.iconst 1, 1) := by decide +kernel
theorem dX1_codeOutput_16 : decode cX1_codeOutput 16 = .ok (.iand, 1) := by decide +kernel
theorem dX1_codeOutput_17 : decode cX1_codeOutput 17 = .ok (.ireturn, 1) := by decide +kernel
theorem dX1_shiftData_0 : decode cX1_shiftData 0 = .ok (.aload_n 0, 1) := by decide +kernel
theorem dX1_shiftData_1 : decode cX1_shiftData 1 = .ok (.aload_n 0, 1) := by decide +kernel
theorem dX1_shiftData_2 : decode cX1_shiftData 2 = .ok (.getfield 40, 3) := by decide +kernel
theorem dX1_shiftData_5 : decode cX1_shiftData 5 = .ok (.aload_n 0, 1) := by decide +kernel
theorem dX1_shiftData_6 : decode cX1_shiftData 6 = .ok (.invokevirtual 58, 3) := by decide +kernel
theorem dX1_shiftData_9 : decode cX1_shiftData 9 = .ok (.iload_n 1, 1) := by decide +kernel
theorem dX1_shiftData_10 : decode cX1_shiftData 10 = .ok (.invokestatic 62, 3) := by decide +kernel
theorem dX1_shiftData_13 : decode cX1_shiftData 13 = .ok (.putfield 40, 3) := by decide +kernel
theorem dX1_shiftData_16 : decode cX1_shiftData 16 = .ok (.return_, 1) := by decide +kernel
theorem dX1_shiftCode_0 : decode cX1_shiftCode 0 = .ok (.aload_n 0, 1) := by decide +kernel
theorem dX1_shiftCode_1 : decode cX1_shiftCode 1 = .ok (.aload_n 0, 1) := by decide +kernel
theorem dX1_shiftCode_2 : decode cX1_shiftCode 2 = .ok (.getfield 31, 3) := by decide +kernel
theorem dX1_shiftCode_5 : decode cX1_shiftCode 5 = .ok (.aload_n 0, 1) := by decide +kernel
theorem dX1_shiftCode_6 : decode cX1_shiftCode 6 = .ok (.getfield 9, 3) := by decide +kernel
theorem dX1_shiftCode_9 : decode cX1_shiftCode 9 = .ok (.iload_n 1, 1) := by decide +kernel
theorem dX1_shiftCode_10 : decode cX1_shiftCode 10 = .ok (.invokestatic 62, 3) := by decide +kernel
theorem dX1_shiftCode_13 : decode cX1_shiftCode 13 = .ok (.putfield 31, 3) := by decide +kernel
theorem dX1_shiftCode_16 : decode cX1_shiftCode 16 = .ok (.return_, 1) := by decide +kernel
theorem dX1_shifted_0 : decode cX1_shifted 0 = .ok (.iload_n 0, 1) := by decide +kernel
theorem dX1_shifted_1 : decode cX1_shifted 1 = .ok (.iconst 1, 1) := by decide +kernel
theorem dX1_shifted_2 : decode cX1_shifted 2 = .ok (.ishr, 1) := by decide +kernel
theorem dX1_shifted_3 : decode cX1_shifted 3 = .ok (.iload_n 2, 1) := by decide +kernel
theorem dX1_shifted_4 : decode cX1_shifted 4 = .ok (.iload_n 1, 1) := by decide +kernel
theorem dX1_shifted_5 : decode cX1_shifted 5 = .ok (.iconst 1, 1) := by decide +kernel
theorem dX1_shifted_6 : decode cX1_shifted 6 = .ok (.isub, 1) := by decide +kernel
theorem dX1_shifted_7 : decode cX1_shifted 7 = .ok (.ishl, 1) := by decide +kernel
theorem dX1_shifted_8 : decode cX1_shifted 8 = .ok (.ior, 1) := by decide +kernel
theorem dX1_shifted_9 : decode cX1_shifted 9 = .ok (.ireturn, 1) := by decide +kernel
theorem dX1_tell_0 : decode cX1_tell 0 = .ok (.iload_n 1, 1) := by decide +kernel
theorem dX1_tell_1 : decode cX1_tell 1 = .ok (.tableswitch 113 0 9 #[55, 60, 65, 70, 75, 80, 93, 98, 103, 108], 55) := by decide +kernel
theorem dX1_tell_56 : decode cX1_tell 56 = .ok (.aload_n 0, 1) := by decide +kernel
theorem dX1_tell_57 : decode cX1_tell 57 = .ok (.getfield 9, 3) := by decide +kernel
theorem dX1_tell_60 : decode cX1_tell 60 = .ok (.ireturn, 1) := by decide +kernel
theorem dX1_tell_61 : decode cX1_tell 61 = .ok (.aload_n 0, 1) := by decide +kernel
theorem dX1_tell_62 : decode cX1_tell 62 = .ok (.getfield 15, 3) := by decide +kernel
theorem dX1_tell_65 : decode cX1_tell 65 = .ok (.ireturn, 1) := by decide +kernel
theorem dX1_tell_66 : decode cX1_tell 66 = .ok (.aload_n 0, 1) := by decide +kernel
theorem dX1_tell_67 : decode cX1_tell 67 = .ok (.getfield 18, 3) := by decide +kernel
theorem dX1_tell_70 : decode cX1_tell 70 = .ok (.ireturn, 1) := by decide +kernel
theorem dX1_tell_71 : decode cX1_tell 71 = .ok (.aload_n 0, 1) := by decide +kernel
theorem dX1_tell_72 : decode cX1_tell 72 = .ok (.getfield 21, 3) := by decide +kernel
theorem dX1_tell_75 : decode cX1_tell 75 = .ok (.ireturn, 1) := by decide +kernel
theorem dX1_tell_76 : decode cX1_tell 76 = .ok (.aload_n 0, 1) := by decide +kernel
theorem dX1_tell_77 : decode cX1_tell 77 = .ok (.getfield 24, 3) := by decide +kernel
theorem dX1_tell_80 : decode cX1_tell 80 = .ok (.ireturn, 1) := by decide +kernel
theorem dX1_tell_81 : decode cX1_tell 81 = .ok (.aload_n 0, 1) := by decide +kernel
theorem dX1_tell_82 : decode cX1_tell 82 = .ok (.getfield 27, 3) := by decide +kernel
theorem dX1_tell_85 : decode cX1_tell 85 = .ok (.ifCond .eq 7, 3) := by decide +kernel
theorem dX1_tell_88 : decode cX1_tell 88 = .ok (.iconst 1, 1) := by decide +kernel
theorem dX1_tell_89 : decode cX1_tell 89 = .ok (.goto 4, 3) := by decide +kernel
theorem dX1_tell_92 : decode cX1_tell 92 = .ok (.iconst 0, 1) := by decide +kernel
theorem dX1_tell_93 : decode cX1_tell 93 = .ok (.ireturn, 1) := by decide +kernel
theorem dX1_tell_94 : decode cX1_tell 94 = .ok (.aload_n 0, 1) := by decide +kernel
theorem dX1_tell_95 : decode cX1_tell 95 = .ok (.getfield 37, 3) := by decide +kernel
theorem dX1_tell_98 : decode cX1_tell 98 = .ok (.ireturn, 1) := by decide +kernel
theorem dX1_tell_99 : decode cX1_tell 99 = .ok (.aload_n 0, 1) := by decide +kernel
theorem dX1_tell_100 : decode cX1_tell 100 = .ok (.getfield 31, 3) := by decide +kernel
theorem dX1_tell_103 : decode cX1_tell 103 = .ok (.ireturn, 1) := by decide +kernel
theorem dX1_tell_104 : decode cX1_tell 104 = .ok (.aload_n 0, 1) := by decide +kernel
theorem dX1_tell_105 : decode cX1_tell 105 = .ok (.getfield 40, 3) := by decide +kernel
theorem dX1_tell_108 : decode cX1_tell 108 = .ok (.ireturn, 1) := by decide +kernel
theorem dX1_tell_109 : decode cX1_tell 109 = .ok (.aload_n 0, 1) := by decide +kernel
theorem dX1_tell_110 : decode cX1_tell 110 = .ok (.invokevirtual 58, 3) := by decide +kernel
theorem dX1_tell_113 : decode cX1_tell 113 = .ok (.ireturn, 1) := by decide +kernel
theorem dX1_tell_114 : decode cX1_tell 114 = .ok (.bipush (-2), 2) := by decide +kernel
theorem dX1_tell_116 : decode cX1_tell 116 = .ok (.ireturn, 1) := by decide +kernel
theorem dX2_isState_0 : decode cX2_isState 0 = .ok (.iload_n 0, 1) := by decide +kernel
theorem dX2_isState_1 : decode cX2_isState 1 = .ok (.ifCond .lt 13, 3) := by decide +kernel
theorem dX2_isState_4 : decode cX2_isState 4 = .ok (.iload_n 0, 1) := by decide +kernel
theorem dX2_isState_5 : decode cX2_isState 5 = .ok (.bipush 16, 2) := by decide +kernel
theorem dX2_isState_7 : decode cX2_isState 7 = .ok (.if_icmp .ge 7, 3) := by decide +kernel
theorem dX2_isState_10 : decode cX2_isState 10 = .ok (.iconst 1, 1) := by decide +kernel
theorem dX2_isState_11 : decode cX2_isState 11 = .ok (.goto 4, 3) := by decide +kernel
theorem dX2_isState_14 : decode cX2_isState 14 = .ok (.iconst 0, 1) := by decide +kernel
theorem dX2_isState_15 : decode cX2_isState 15 = .ok (.ireturn, 1) := by decide +kernel
theorem dX2_next_0 : decode cX2_next 0 = .ok (.iload_n 0, 1) := by decide +kernel
theorem dX2_next_1 : decode cX2_next 1 = .ok (.invokestatic 9, 3) := by decide +kernel
theorem dX2_next_4 : decode cX2_next 4 = .ok (.ifCond .ne 5, 3) := by decide +kernel
theorem dX2_next_7 : decode cX2_next 7 = .ok (.iconst 0, 1) := by decide +kernel
theorem dX2_next_8 : decode cX2_next 8 = .ok (.ireturn, 1) := by decide +kernel
theorem dX2_next_9 : decode cX2_next 9 = .ok (.iload_n 1, 1) := by decide +kernel
theorem dX2_next_10 : decode cX2_next 10 = .ok (.ifCond .ne 11, 3) := by decide +kernel
theorem dX2_next_13 : decode cX2_next 13 = .ok (.getstatic 13, 3) := by decide +kernel
theorem dX2_next_16 : decode cX2_next 16 = .ok (.iload_n 0, 1) := by decide +kernel
theorem dX2_next_17 : decode cX2_next 17 = .ok (.iaload, 1) := by decide +kernel
theorem dX2_next_18 : decode cX2_next 18 = .ok (.goto 8, 3) := by decide +kernel
theorem dX2_next_21 : decode cX2_next 21 = .ok (.getstatic 17, 3) := by decide +kernel
theorem dX2_next_24 : decode cX2_next 24 = .ok (.iload_n 0, 1) := by decide +kernel
theorem dX2_next_25 : decode cX2_next 25 = .ok (.iaload, 1) := by decide +kernel
theorem dX2_next_26 : decode cX2_next 26 = .ok (.ireturn, 1) := by decide +kernel
theorem dX2_clocksBetween_0 : decode cX2_clocksBetween 0 = .ok (.iconst 1, 1) := by decide +kernel
theorem dX2_clocksBetween_1 : decode cX2_clocksBetween 1 = .ok (.iload_n 0, 1) := by decide +kernel
theorem dX2_clocksBetween_2 : decode cX2_clocksBetween 2 = .ok (.ishl, 1) := by decide +kernel
theorem dX2_clocksBetween_3 : decode cX2_clocksBetween 3 = .ok (.istore_n 2, 1) := by decide +kernel
theorem dX2_clocksBetween_4 : decode cX2_clocksBetween 4 = .ok (.iconst 0, 1) := by decide +kernel
theorem dX2_clocksBetween_5 : decode cX2_clocksBetween 5 = .ok (.istore_n 3, 1) := by decide +kernel
theorem dX2_clocksBetween_6 : decode cX2_clocksBetween 6 = .ok (.iload_n 3, 1) := by decide +kernel
theorem dX2_clocksBetween_7 : decode cX2_clocksBetween 7 = .ok (.bipush 16, 2) := by decide +kernel
theorem dX2_clocksBetween_9 : decode cX2_clocksBetween 9 = .ok (.if_icmp .ge 22, 3) := by decide +kernel
theorem dX2_clocksBetween_12 : decode cX2_clocksBetween 12 = .ok (.iload_n 2, 1) := by decide +kernel
theorem dX2_clocksBetween_13 : decode cX2_clocksBetween 13 = .ok (.iload_n 1, 1) := by decide +kernel
theorem dX2_clocksBetween_14 : decode cX2_clocksBetween 14 = .ok (.ishr, 1) := by decide +kernel
theorem dX2_clocksBetween_15 : decode cX2_clocksBetween 15 = .ok (.iconst 1, 1) := by decide +kernel
theorem dX2_clocksBetween_16 : decode cX2_clocksBetween 16 = .ok (.iand, 1) := by decide +kernel
theorem dX2_clocksBetween_17 : decode cX2_clocksBetween 17 = .ok (.ifCond .ne 14, 3) := by decide +kernel
theorem dX2_clocksBetween_20 : decode cX2_clocksBetween 20 = .ok (.iload_n 2, 1) := by decide +kernel
theorem dX2_clocksBetween_21 : decode cX2_clocksBetween 21 = .ok (.invokestatic 20, 3) := by decide +kernel
theorem dX2_clocksBetween_24 : decode cX2_clocksBetween 24 = .ok (.istore_n 2, 1) := by decide +kernel
theorem dX2_clocksBetween_25 : decode cX2_clocksBetween 25 = .ok (.iinc 3 1, 3) := by decide +kernel
theorem dX2_clocksBetween_28 : decode cX2_clocksBetween 28 = .ok (.goto (-22), 3) := by decide +kernel
theorem dX2_clocksBetween_31 : decode cX2_clocksBetween 31 = .ok (.iload_n 3, 1) := by decide +kernel
theorem dX2_clocksBetween_32 : decode cX2_clocksBetween 32 = .ok (.ireturn, 1) := by decide +kernel
theorem dX2_nextOfAll_0 : decode cX2_nextOfAll 0 = .ok (.iconst 0, 1) := by decide +kernel
theorem dX2_nextOfAll_1 : decode cX2_nextOfAll 1 = .ok (.istore_n 1, 1) := by decide +kernel
theorem dX2_nextOfAll_2 : decode cX2_nextOfAll 2 = .ok (.iconst 0, 1) := by decide +kernel
theorem dX2_nextOfAll_3 : decode cX2_nextOfAll 3 = .ok (.istore_n 2, 1) := by decide +kernel
theorem dX2_nextOfAll_4 : decode cX2_nextOfAll 4 = .ok (.iload_n 2, 1) := by decide +kernel
theorem dX2_nextOfAll_5 : decode cX2_nextOfAll 5 = .ok (.bipush 16, 2) := by decide +kernel
theorem dX2_nextOfAll_7 : decode cX2_nextOfAll 7 = .ok (.if_icmp .ge 36, 3) := by decide +kernel
theorem dX2_nextOfAll_10 : decode cX2_nextOfAll 10 = .ok (.iload_n 0, 1) := by decide +kernel
theorem dX2_nextOfAll_11 : decode cX2_nextOfAll 11 = .ok (.iload_n 2, 1) := by decide +kernel
theorem dX2_nextOfAll_12 : decode cX2_nextOfAll 12 = .ok (.ishr, 1) := by decide +kernel
theorem dX2_nextOfAll_13 : decode cX2_nextOfAll 13 = .ok (.iconst 1, 1) := by decide +kernel
theorem dX2_nextOfAll_14 : decode cX2_nextOfAll 14 = .ok (.iand, 1) := by decide +kernel
theorem dX2_nextOfAll_15 : decode cX2_nextOfAll 15 = .ok (.iconst 1, 1) := by decide +kernel
theorem dX2_nextOfAll_16 : decode cX2_nextOfAll 16 = .ok (.if_icmp .ne 21, 3) := by decide +kernel
theorem dX2_nextOfAll_19 : decode cX2_nextOfAll 19 = .ok (.iload_n 1, 1) := by decide +kernel
theorem dX2_nextOfAll_20 : decode cX2_nextOfAll 20 = .ok (.iconst 1, 1) := by decide +kernel
theorem dX2_nextOfAll_21 : decode cX2_nextOfAll 21 = .ok (.iload_n 2, 1) := by decide +kernel
theorem dX2_nextOfAll_22 : decode cX2_nextOfAll 22 = .ok (.iconst 0, 1) := by decide +kernel
theorem dX2_nextOfAll_23 : decode cX2_nextOfAll 23 = .ok (.invokestatic 24, 3) := by decide +kernel
theorem dX2_nextOfAll_26 : decode cX2_nextOfAll 26 = .ok (.ishl, 1) := by decide +kernel
theorem dX2_nextOfAll_27 : decode cX2_nextOfAll 27 = .ok (.iconst 1, 1) := by decide +kernel
theorem dX2_nextOfAll_28 : decode cX2_nextOfAll 28 = .ok (.iload_n 2, 1) := by decide +kernel
theorem dX2_nextOfAll_29 : decode cX2_nextOfAll 29 = .ok (.iconst 1, 1) := by decide +kernel
theorem dX2_nextOfAll_30 : decode cX2_nextOfAll 30 = .ok (.invokestatic 24, 3) := by decide +kernel
theorem dX2_nextOfAll_33 : decode cX2_nextOfAll 33 = .ok (.ishl, 1) := by decide +kernel
theorem dX2_nextOfAll_34 : decode cX2_nextOfAll 34 = .ok (.ior, 1) := by decide +kernel
theorem dX2_nextOfAll_35 : decode cX2_nextOfAll 35 = .ok (.ior, 1) := by decide +kernel
theorem dX2_nextOfAll_36 : decode cX2_nextOfAll 36 = .ok (.istore_n 1, 1) := by decide +kernel
theorem dX2_nextOfAll_37 : decode cX2_nextOfAll 37 = .ok (.iinc 2 1, 3) := by decide +kernel
theorem dX2_nextOfAll_40 : decode cX2_nextOfAll 40 = .ok (.goto (-36), 3) := by decide +kernel
theorem dX2_nextOfAll_43 : decode cX2_nextOfAll 43 = .ok (.iload_n 1, 1) := by decide +kernel
theorem dX2_nextOfAll_44 : decode cX2_nextOfAll 44 = .ok (.ireturn, 1) := by decide +kernel
theorem dX3_init_0 : decode cX3_init 0 = .ok (.aload_n 0, 1) := by decide +kernel
theorem dX3_init_1 : decode cX3_init 1 = .ok (.invokespecial 3, 3) := by decide +kernel
theorem dX3_init_4 : decode cX3_init 4 = .ok (.aload_n 0, 1) := by decide +kernel
theorem dX3_init_5 : decode cX3_init 5 = .ok (.iconst 4, 1) := by decide +kernel
theorem dX3_init_6 : decode cX3_init 6 = .ok (.anewarray 9, 3) := by decide +kernel
theorem dX3_init_9 : decode cX3_init 9 = .ok (.putfield 11, 3) := by decide +kernel
theorem dX3_init_12 : decode cX3_init 12 = .ok (.iconst 0, 1) := by decide +kernel
theorem dX3_init_13 : decode cX3_init 13 = .ok (.istore_n 1, 1) := by decide +kernel
theorem dX3_init_14 : decode cX3_init 14 = .ok (.iload_n 1, 1) := by decide +kernel
theorem dX3_init_15 : decode cX3_init 15 = .ok (.aload_n 0, 1) := by decide +kernel
theorem dX3_init_16 : decode cX3_init 16 = .ok (.getfield 11, 3) := by decide +kernel
theorem dX3_init_19 : decode cX3_init 19 = .ok (.arraylength, 1) := by decide +kernel
theorem dX3_init_20 : decode cX3_init 20 = .ok (.if_icmp .ge 22, 3) := by decide +kernel
theorem dX3_init_23 : decode cX3_init 23 = .ok (.aload_n 0, 1) := by decide +kernel
theorem dX3_init_24 : decode cX3_init 24 = .ok (.getfield 11, 3) := by decide +kernel
theorem dX3_init_27 : decode cX3_init 27 = .ok (.iload_n 1, 1) := by decide +kernel
theorem dX3_init_28 : decode cX3_init 28 = .ok (.new 9, 3) := by decide +kernel
theorem dX3_init_31 : decode cX3_init 31 = .ok (.dup, 1) := by decide +kernel
theorem dX3_init_32 : decode cX3_init 32 = .ok (.invokespecial 17, 3) := by decide +kernel
theorem dX3_init_35 : decode cX3_init 35 = .ok (.aastore, 1) := by decide +kernel
theorem dX3_init_36 : decode cX3_init 36 = .ok (.iinc 1 1, 3) := by decide +kernel
theorem dX3_init_39 : decode cX3_init 39 = .ok (.goto (-25), 3) := by decide +kernel
theorem dX3_init_42 : decode cX3_init 42 = .ok (.aload_n 0, 1) := by decide +kernel
theorem dX3_init_43 : decode cX3_init 43 = .ok (.iconst 0, 1) := by decide +kernel
theorem dX3_init_44 : decode cX3_init 44 = .ok (.putfield 18, 3) := by decide +kernel
theorem dX3_init_47 : decode cX3_init 47 = .ok (.return_, 1) := by decide +kernel
theorem dX3_record_0 : decode cX3_record 0 = .ok (.aload_n 0, 1) := by decide +kernel
theorem dX3_record_1 : decode cX3_record 1 = .ok (.getfield 18, 3) := by decide +kernel
theorem dX3_record_4 : decode cX3_record 4 = .ok (.aload_n 0, 1) := by decide +kernel
theorem dX3_record_5 : decode cX3_record 5 = .ok (.getfield 11, 3) := by decide +kernel
theorem dX3_record_8 : decode cX3_record 8 = .ok (.arraylength, 1) := by decide +kernel
theorem dX3_record_9 : decode cX3_record 9 = .ok (.if_icmp .lt 7, 3) := by decide +kernel
theorem dX3_record_12 : decode cX3_record 12 = .ok (.aload_n 0, 1) := by decide +kernel
theorem dX3_record_13 : decode cX3_record 13 = .ok (.invokevirtual 22, 3) := by decide +kernel
theorem dX3_record_16 : decode cX3_record 16 = .ok (.aload_n 0, 1) := by decide +kernel
theorem dX3_record_17 : decode cX3_record 17 = .ok (.getfield 11, 3) := by decide +kernel
theorem dX3_record_20 : decode cX3_record 20 = .ok (.aload_n 0, 1) := by decide +kernel
theorem dX3_record_21 : decode cX3_record 21 = .ok (.getfield 18, 3) := by decide +kernel
theorem dX3_record_24 : decode cX3_record 24 = .ok (.aaload, 1) := by decide +kernel
theorem dX3_record_25 : decode cX3_record 25 = .ok (.aload_n 1, 1) := by decide +kernel
theorem dX3_record_26 : decode cX3_record 26 = .ok (.invokevirtual 25, 3) := by decide +kernel
theorem dX3_record_29 : decode cX3_record 29 = .ok (.aload_n 0, 1) := by decide +kernel
theorem dX3_record_30 : decode cX3_record 30 = .ok (.dup, 1) := by decide +kernel
theorem dX3_record_31 : decode cX3_record 31 = .ok (.getfield 18, 3) := by decide +kernel
theorem dX3_record_34 : decode cX3_record 34 = .ok (.iconst 1, 1) := by decide +kernel
theorem dX3_record_35 : decode cX3_record 35 = .ok (.iadd, 1) := by decide +kernel
theorem dX3_record_36 : decode cX3_record 36 = .ok (.putfield 18, 3) := by decide +kernel
theorem dX3_record_39 : decode cX3_record 39 = .ok (.return_, 1) := by decide +kernel
theorem dX3_dropOldest_0 : decode cX3_dropOldest 0 = .ok (.aload_n 0, 1) := by decide +kernel
theorem dX3_dropOldest_1 : decode cX3_dropOldest 1 = .ok (.getfield 11, 3) := by decide +kernel
theorem dX3_dropOldest_4 : decode cX3_dropOldest 4 = .ok (.iconst 0, 1) := by decide +kernel
theorem dX3_dropOldest_5 : decode cX3_dropOldest 5 = .ok (.aaload, 1) := by decide +kernel
theorem dX3_dropOldest_6 : decode cX3_dropOldest 6 = .ok (.astore_n 1, 1) := by decide +kernel
theorem dX3_dropOldest_7 : decode cX3_dropOldest 7 = .ok (.iconst 1, 1) := by decide +kernel
theorem dX3_dropOldest_8 : decode cX3_dropOldest 8 = .ok (.istore_n 2, 1) := by decide +kernel
theorem dX3_dropOldest_9 : decode cX3_dropOldest 9 = .ok (.iload_n 2, 1) := by decide +kernel
theorem dX3_dropOldest_10 : decode cX3_dropOldest 10 = .ok (.aload_n 0, 1) := by decide +kernel
theorem dX3_dropOldest_11 : decode cX3_dropOldest 11 = .ok (.getfield 11, 3) := by decide +kernel
theorem dX3_dropOldest_14 : decode cX3_dropOldest 14 = .ok (.arraylength, 1) := by decide +kernel
theorem dX3_dropOldest_15 : decode cX3_dropOldest 15 = .ok (.if_icmp .ge 23, 3) := by decide +kernel
theorem dX3_dropOldest_18 : decode cX3_dropOldest 18 = .ok (.aload_n 0, 1) := by decide +kernel
theorem dX3_dropOldest_19 : decode cX3_dropOldest 19 = .ok (.getfield 11, 3) := by decide +kernel
theorem dX3_dropOldest_22 : decode cX3_dropOldest 22 = .ok (.iload_n 2, 1) := by decide +kernel
theorem dX3_dropOldest_23 : decode cX3_dropOldest 23 = .ok (.iconst 1, 1) := by decide +kernel
theorem dX3_dropOldest_24 : decode cX3_dropOldest 24 = .ok (.isub, 1) := by decide +kernel
theorem dX3_dropOldest_25 : decode cX3_dropOldest 25 = .ok (.aload_n 0, 1) := by decide +kernel
theorem dX3_dropOldest_26 : decode cX3_dropOldest 26 = .ok (.getfield 11, 3) := by decide +kernel
theorem dX3_dropOldest_29 : decode cX3_dropOldest 29 = .ok (.iload_n 2, 1) := by decide +kernel
theorem dX3_dropOldest_30 : decode cX3_dropOldest 30 = .ok (.aaload, 1) := by decide +kernel
theorem dX3_dropOldest_31 : decode cX3_dropOldest 31 = .ok (.aastore, 1) := by decide +kernel
theorem dX3_dropOldest_32 : decode cX3_dropOldest 32 = .ok (.iinc 2 1, 3) := by decide +kernel
theorem dX3_dropOldest_35 : decode cX3_dropOldest 35 = .ok (.goto (-26), 3) := by decide +kernel
theorem dX3_dropOldest_38 : decode cX3_dropOldest 38 = .ok (.aload_n 0, 1) := by decide +kernel
theorem dX3_dropOldest_39 : decode cX3_dropOldest 39 = .ok (.getfield 11, 3) := by decide +kernel
theorem dX3_dropOldest_42 : decode cX3_dropOldest 42 = .ok (.aload_n 0, 1) := by decide +kernel
theorem dX3_dropOldest_43 : decode cX3_dropOldest 43 = .ok (.getfield 11, 3) := by decide +kernel
theorem dX3_dropOldest_46 : decode cX3_dropOldest 46 = .ok (.arraylength, 1) := by decide +kernel
theorem dX3_dropOldest_47 : decode cX3_dropOldest 47 = .ok (.iconst 1, 1) := by decide +kernel
theorem dX3_dropOldest_48 : decode cX3_dropOldest 48 = .ok (.isub, 1) := by decide +kernel
theorem dX3_dropOldest_49 : decode cX3_dropOldest 49 = .ok (.aload_n 1, 1) := by decide +kernel
theorem dX3_dropOldest_50 : decode cX3_dropOldest 50 = .ok (.aastore, 1) := by decide +kernel
theorem dX3_dropOldest_51 : decode cX3_dropOldest 51 = .ok (.aload_n 0, 1) := by decide +kernel
theorem dX3_dropOldest_52 : decode cX3_dropOldest 52 = .ok (.aload_n 0, 1) := by decide +kernel
theorem dX3_dropOldest_53 : decode cX3_dropOldest 53 = .ok (.getfield 11, 3) := by decide +kernel
theorem dX3_dropOldest_56 : decode cX3_dropOldest 56 = .ok (.arraylength, 1) := by decide +kernel
theorem dX3_dropOldest_57 : decode cX3_dropOldest 57 = .ok (.iconst 1, 1) := by decide +kernel
theorem dX3_dropOldest_58 : decode cX3_dropOldest 58 = .ok (.isub, 1) := by decide +kernel
theorem dX3_dropOldest_59 : decode cX3_dropOldest 59 = .ok (.putfield 18, 3) := by decide +kernel
theorem dX3_dropOldest_62 : decode cX3_dropOldest 62 = .ok (.return_, 1) := by decide +kernel
theorem dX3_takeBack_0 : decode cX3_takeBack 0 = .ok (.aload_n 0, 1) := by decide +kernel
theorem dX3_takeBack_1 : decode cX3_takeBack 1 = .ok (.getfield 18, 3) := by decide +kernel
theorem dX3_takeBack_4 : decode cX3_takeBack 4 = .ok (.ifCond .gt 6, 3) := by decide +kernel
theorem dX3_takeBack_7 : decode cX3_takeBack 7 = .ok (.bipush (-4), 2) := by decide +kernel
theorem dX3_takeBack_9 : decode cX3_takeBack 9 = .ok (.ireturn, 1) := by decide +kernel
theorem dX3_takeBack_10 : decode cX3_takeBack 10 = .ok (.aload_n 0, 1) := by decide +kernel
theorem dX3_takeBack_11 : decode cX3_takeBack 11 = .ok (.dup, 1) := by decide +kernel
theorem dX3_takeBack_12 : decode cX3_takeBack 12 = .ok (.getfield 18, 3) := by decide +kernel
theorem dX3_takeBack_15 : decode cX3_takeBack 15 = .ok (.iconst 1, 1) := by decide +kernel
theorem dX3_takeBack_16 : decode cX3_takeBack 16 = .ok (.isub, 1) := by decide +kernel
theorem dX3_takeBack_17 : decode cX3_takeBack 17 = .ok (.putfield 18, 3) := by decide +kernel
theorem dX3_takeBack_20 : decode cX3_takeBack 20 = .ok (.aload_n 1, 1) := by decide +kernel
theorem dX3_takeBack_21 : decode cX3_takeBack 21 = .ok (.aload_n 0, 1) := by decide +kernel
theorem dX3_takeBack_22 : decode cX3_takeBack 22 = .ok (.getfield 11, 3) := by decide +kernel
theorem dX3_takeBack_25 : decode cX3_takeBack 25 = .ok (.aload_n 0, 1) := by decide +kernel
theorem dX3_takeBack_26 : decode cX3_takeBack 26 = .ok (.getfield 18, 3) := by decide +kernel
theorem dX3_takeBack_29 : decode cX3_takeBack 29 = .ok (.aaload, 1) := by decide +kernel
theorem dX3_takeBack_30 : decode cX3_takeBack 30 = .ok (.invokevirtual 25, 3) := by decide +kernel
theorem dX3_takeBack_33 : decode cX3_takeBack 33 = .ok (.aload_n 0, 1) := by decide +kernel
theorem dX3_takeBack_34 : decode cX3_takeBack 34 = .ok (.getfield 18, 3) := by decide +kernel
theorem dX3_takeBack_37 : decode cX3_takeBack 37 = .ok (.ireturn, 1) := by decide +kernel
theorem dX4_goTo_0 : decode cX4_goTo 0 = .ok (.aload_n 0, 1) := by decide +kernel
theorem dX4_goTo_1 : decode cX4_goTo 1 = .ok (.getfield 9, 3) := by decide +kernel
theorem dX4_goTo_4 : decode cX4_goTo 4 = .ok (.iload_n 1, 1) := by decide +kernel
theorem dX4_goTo_5 : decode cX4_goTo 5 = .ok (.invokestatic 15, 3) := by decide +kernel
theorem dX4_goTo_8 : decode cX4_goTo 8 = .ok (.istore_n 2, 1) := by decide +kernel
theorem dX4_goTo_9 : decode cX4_goTo 9 = .ok (.iload_n 2, 1) := by decide +kernel
theorem dX4_goTo_10 : decode cX4_goTo 10 = .ok (.iconst 1, 1) := by decide +kernel
theorem dX4_goTo_11 : decode cX4_goTo 11 = .ok (.isub, 1) := by decide +kernel
theorem dX4_goTo_12 : decode cX4_goTo 12 = .ok (.istore_n 3, 1) := by decide +kernel
theorem dX4_goTo_13 : decode cX4_goTo 13 = .ok (.iload_n 3, 1) := by decide +kernel
theorem dX4_goTo_14 : decode cX4_goTo 14 = .ok (.ifCond .lt 44, 3) := by decide +kernel
theorem dX4_goTo_17 : decode cX4_goTo 17 = .ok (.aload_n 0, 1) := by decide +kernel
theorem dX4_goTo_18 : decode cX4_goTo 18 = .ok (.getfield 9, 3) := by decide +kernel
theorem dX4_goTo_21 : decode cX4_goTo 21 = .ok (.iconst 0, 1) := by decide +kernel
theorem dX4_goTo_22 : decode cX4_goTo 22 = .ok (.invokestatic 21, 3) := by decide +kernel
theorem dX4_goTo_25 : decode cX4_goTo 25 = .ok (.istore 4, 2) := by decide +kernel
theorem dX4_goTo_27 : decode cX4_goTo 27 = .ok (.iload 4, 2) := by decide +kernel
theorem dX4_goTo_29 : decode cX4_goTo 29 = .ok (.iload_n 1, 1) := by decide +kernel
theorem dX4_goTo_30 : decode cX4_goTo 30 = .ok (.invokestatic 15, 3) := by decide +kernel
theorem dX4_goTo_33 : decode cX4_goTo 33 = .ok (.iload_n 3, 1) := by decide +kernel
theorem dX4_goTo_34 : decode cX4_goTo 34 = .ok (.if_icmp .ne 7, 3) := by decide +kernel
theorem dX4_goTo_37 : decode cX4_goTo 37 = .ok (.iconst 0, 1) := by decide +kernel
theorem dX4_goTo_38 : decode cX4_goTo 38 = .ok (.goto 4, 3) := by decide +kernel
theorem dX4_goTo_41 : decode cX4_goTo 41 = .ok (.iconst 1, 1) := by decide +kernel
theorem dX4_goTo_42 : decode cX4_goTo 42 = .ok (.istore 5, 2) := by decide +kernel
theorem dX4_goTo_44 : decode cX4_goTo 44 = .ok (.aload_n 0, 1) := by decide +kernel
theorem dX4_goTo_45 : decode cX4_goTo 45 = .ok (.iload 5, 2) := by decide +kernel
theorem dX4_goTo_47 : decode cX4_goTo 47 = .ok (.iconst 1, 1) := by decide +kernel
theorem dX4_goTo_48 : decode cX4_goTo 48 = .ok (.invokevirtual 24, 3) := by decide +kernel
theorem dX4_goTo_51 : decode cX4_goTo 51 = .ok (.pop, 1) := by decide +kernel
theorem dX4_goTo_52 : decode cX4_goTo 52 = .ok (.iinc 3 (-1), 3) := by decide +kernel
theorem dX4_goTo_55 : decode cX4_goTo 55 = .ok (.goto (-42), 3) := by decide +kernel
theorem dX4_goTo_58 : decode cX4_goTo 58 = .ok (.iload_n 2, 1) := by decide +kernel
theorem dX4_goTo_59 : decode cX4_goTo 59 = .ok (.ireturn, 1) := by decide +kernel
theorem dX4_readIdentities_0 : decode cX4_readIdentities 0 = .ok (.iconst 0, 1) := by decide +kernel
theorem dX4_readIdentities_1 : decode cX4_readIdentities 1 = .ok (.istore_n 1, 1) := by decide +kernel
theorem dX4_readIdentities_2 : decode cX4_readIdentities 2 = .ok (.iload_n 1, 1) := by decide +kernel
theorem dX4_readIdentities_3 : decode cX4_readIdentities 3 = .ok (.iconst 5, 1) := by decide +kernel
theorem dX4_readIdentities_4 : decode cX4_readIdentities 4 = .ok (.if_icmp .ge 16, 3) := by decide +kernel
theorem dX4_readIdentities_7 : decode cX4_readIdentities 7 = .ok (.aload_n 0, 1) := by decide +kernel
theorem dX4_readIdentities_8 : decode cX4_readIdentities 8 = .ok (.iconst 1, 1) := by decide +kernel
theorem dX4_readIdentities_9 : decode cX4_readIdentities 9 = .ok (.iconst 1, 1) := by decide +kernel
theorem dX4_readIdentities_10 : decode cX4_readIdentities 10 = .ok (.invokevirtual 24, 3) := by decide +kernel
theorem dX4_readIdentities_13 : decode cX4_readIdentities 13 = .ok (.pop, 1) := by decide +kernel
theorem dX4_readIdentities_14 : decode cX4_readIdentities 14 = .ok (.iinc 1 1, 3) := by decide +kernel
theorem dX4_readIdentities_17 : decode cX4_readIdentities 17 = .ok (.goto (-15), 3) := by decide +kernel
theorem dX4_readIdentities_20 : decode cX4_readIdentities 20 = .ok (.aload_n 0, 1) := by decide +kernel
theorem dX4_readIdentities_21 : decode cX4_readIdentities 21 = .ok (.iconst 4, 1) := by decide +kernel
theorem dX4_readIdentities_22 : decode cX4_readIdentities 22 = .ok (.invokestatic 29, 3) := by decide +kernel
theorem dX4_readIdentities_25 : decode cX4_readIdentities 25 = .ok (.pop, 1) := by decide +kernel
theorem dX4_readIdentities_26 : decode cX4_readIdentities 26 = .ok (.aload_n 0, 1) := by decide +kernel
theorem dX4_readIdentities_27 : decode cX4_readIdentities 27 = .ok (.invokevirtual 33, 3) := by decide +kernel
theorem dX4_readIdentities_30 : decode cX4_readIdentities 30 = .ok (.iconst 0, 1) := by decide +kernel
theorem dX4_readIdentities_31 : decode cX4_readIdentities 31 = .ok (.istore_n 1, 1) := by decide +kernel
theorem dX4_readIdentities_32 : decode cX4_readIdentities 32 = .ok (.iload_n 1, 1) := by decide +kernel
theorem dX4_readIdentities_33 : decode cX4_readIdentities 33 = .ok (.bipush 8, 2) := by decide +kernel
theorem dX4_readIdentities_35 : decode cX4_readIdentities 35 = .ok (.if_icmp .ge 29, 3) := by decide +kernel
theorem dX4_readIdentities_38 : decode cX4_readIdentities 38 = .ok (.aload_n 0, 1) := by decide +kernel
theorem dX4_readIdentities_39 : decode cX4_readIdentities 39 = .ok (.invokestatic 36, 3) := by decide +kernel
theorem dX4_readIdentities_42 : decode cX4_readIdentities 42 = .ok (.istore_n 2, 1) := by decide +kernel
theorem dX4_readIdentities_43 : decode cX4_readIdentities 43 = .ok (.iload_n 2, 1) := by decide +kernel
theorem dX4_readIdentities_44 : decode cX4_readIdentities 44 = .ok (.sipush 255, 3) := by decide +kernel
theorem dX4_readIdentities_47 : decode cX4_readIdentities 47 = .ok (.if_icmp .ne 6, 3) := by decide +kernel
theorem dX4_readIdentities_50 : decode cX4_readIdentities 50 = .ok (.goto 14, 3) := by decide +kernel
theorem dX4_readIdentities_53 : decode cX4_readIdentities 53 = .ok (.aload_n 0, 1) := by decide +kernel
theorem dX4_readIdentities_54 : decode cX4_readIdentities 54 = .ok (.iload_n 2, 1) := by decide +kernel
theorem dX4_readIdentities_55 : decode cX4_readIdentities 55 = .ok (.invokevirtual 40, 3) := by decide +kernel
theorem dX4_readIdentities_58 : decode cX4_readIdentities 58 = .ok (.iinc 1 1, 3) := by decide +kernel
theorem dX4_readIdentities_61 : decode cX4_readIdentities 61 = .ok (.goto (-29), 3) := by decide +kernel
theorem dX4_readIdentities_64 : decode cX4_readIdentities 64 = .ok (.aload_n 0, 1) := by decide +kernel
theorem dX4_readIdentities_65 : decode cX4_readIdentities 65 = .ok (.iconst 1, 1) := by decide +kernel
theorem dX4_readIdentities_66 : decode cX4_readIdentities 66 = .ok (.invokestatic 29, 3) := by decide +kernel
theorem dX4_readIdentities_69 : decode cX4_readIdentities 69 = .ok (.pop, 1) := by decide +kernel
theorem dX4_readIdentities_70 : decode cX4_readIdentities 70 = .ok (.aload_n 0, 1) := by decide +kernel
theorem dX4_readIdentities_71 : decode cX4_readIdentities 71 = .ok (.getfield 44, 3) := by decide +kernel
theorem dX4_readIdentities_74 : decode cX4_readIdentities 74 = .ok (.ireturn, 1) := by decide +kernel
theorem dX4_readIdentity_0 : decode cX4_readIdentity 0 = .ok (.aload_n 0, 1) := by decide +kernel
theorem dX4_readIdentity_1 : decode cX4_readIdentity 1 = .ok (.iconst 0, 1) := by decide +kernel
theorem dX4_readIdentity_2 : decode cX4_readIdentity 2 = .ok (.iconst 1, 1) := by decide +kernel
theorem dX4_readIdentity_3 : decode cX4_readIdentity 3 = .ok (.invokevirtual 24, 3) := by decide +kernel
theorem dX4_readIdentity_6 : decode cX4_readIdentity 6 = .ok (.ifCond .ne 5, 3) := by decide +kernel
theorem dX4_readIdentity_9 : decode cX4_readIdentity 9 = .ok (.iconst 0, 1) := by decide +kernel
theorem dX4_readIdentity_10 : decode cX4_readIdentity 10 = .ok (.ireturn, 1) := by decide +kernel
theorem dX4_readIdentity_11 : decode cX4_readIdentity 11 = .ok (.bipush 7, 2) := by decide +kernel
theorem dX4_readIdentity_13 : decode cX4_readIdentity 13 = .ok (.istore_n 1, 1) := by decide +kernel
theorem dX4_readIdentity_14 : decode cX4_readIdentity 14 = .ok (.iconst 1, 1) := by decide +kernel
theorem dX4_readIdentity_15 : decode cX4_readIdentity 15 = .ok (.aload_n 0, 1) := by decide +kernel
theorem dX4_readIdentity_16 : decode cX4_readIdentity 16 = .ok (.iload_n 1, 1) := by decide +kernel
theorem dX4_readIdentity_17 : decode cX4_readIdentity 17 = .ok (.invokestatic 47, 3) := by decide +kernel
theorem dX4_readIdentity_20 : decode cX4_readIdentity 20 = .ok (.iload_n 1, 1) := by decide +kernel
theorem dX4_readIdentity_21 : decode cX4_readIdentity 21 = .ok (.iconst 0, 1) := by decide +kernel
theorem dX4_readIdentity_22 : decode cX4_readIdentity 22 = .ok (.invokestatic 51, 3) := by decide +kernel
theorem dX4_readIdentity_25 : decode cX4_readIdentity 25 = .ok (.iconst 1, 1) := by decide +kernel
theorem dX4_readIdentity_26 : decode cX4_readIdentity 26 = .ok (.ishl, 1) := by decide +kernel
theorem dX4_readIdentity_27 : decode cX4_readIdentity 27 = .ok (.ior, 1) := by decide +kernel
theorem dX4_readIdentity_28 : decode cX4_readIdentity 28 = .ok (.ireturn, 1) := by decide +kernel
theorem dX4_loadInstruction_0 : decode cX4_loadInstruction 0 = .ok (.aload_n 0, 1) := by decide +kernel
theorem dX4_loadInstruction_1 : decode cX4_loadInstruction 1 = .ok (.bipush 11, 2) := by decide +kernel
theorem dX4_loadInstruction_3 : decode cX4_loadInstruction 3 = .ok (.invokestatic 29, 3) := by decide +kernel
theorem dX4_loadInstruction_6 : decode cX4_loadInstruction 6 = .ok (.pop, 1) := by decide +kernel
theorem dX4_loadInstruction_7 : decode cX4_loadInstruction 7 = .ok (.aload_n 0, 1) := by decide +kernel
theorem dX4_loadInstruction_8 : decode cX4_loadInstruction 8 = .ok (.getfield 55, 3) := by decide +kernel
theorem dX4_loadInstruction_11 : decode cX4_loadInstruction 11 = .ok (.iconst 1, 1) := by decide +kernel
theorem dX4_loadInstruction_12 : decode cX4_loadInstruction 12 = .ok (.isub, 1) := by decide +kernel
theorem dX4_loadInstruction_13 : decode cX4_loadInstruction 13 = .ok (.istore_n 3, 1) := by decide +kernel
theorem dX4_loadInstruction_14 : decode cX4_loadInstruction 14 = .ok (.iload_n 3, 1) := by decide +kernel
theorem dX4_loadInstruction_15 : decode cX4_loadInstruction 15 = .ok (.ifCond .lt 54, 3) := by decide +kernel
theorem dX4_loadInstruction_18 : decode cX4_loadInstruction 18 = .ok (.aload_n 0, 1) := by decide +kernel
theorem dX4_loadInstruction_19 : decode cX4_loadInstruction 19 = .ok (.getfield 58, 3) := by decide +kernel
theorem dX4_loadInstruction_22 : decode cX4_loadInstruction 22 = .ok (.iload_n 3, 1) := by decide +kernel
theorem dX4_loadInstruction_23 : decode cX4_loadInstruction 23 = .ok (.aaload, 1) := by decide +kernel
theorem dX4_loadInstruction_24 : decode cX4_loadInstruction 24 = .ok (.getfield 62, 3) := by decide +kernel
theorem dX4_loadInstruction_27 : decode cX4_loadInstruction 27 = .ok (.istore 4, 2) := by decide +kernel
theorem dX4_loadInstruction_29 : decode cX4_loadInstruction 29 = .ok (.iload_n 3, 1) := by decide +kernel
theorem dX4_loadInstruction_30 : decode cX4_loadInstruction 30 = .ok (.iload_n 1, 1) := by decide +kernel
theorem dX4_loadInstruction_31 : decode cX4_loadInstruction 31 = .ok (.if_icmp .ne 7, 3) := by decide +kernel
theorem dX4_loadInstruction_34 : decode cX4_loadInstruction 34 = .ok (.iload_n 2, 1) := by decide +kernel
theorem dX4_loadInstruction_35 : decode cX4_loadInstruction 35 = .ok (.goto 8, 3) := by decide +kernel
theorem dX4_loadInstruction_38 : decode cX4_loadInstruction 38 = .ok (.iload 4, 2) := by decide +kernel
theorem dX4_loadInstruction_40 : decode cX4_loadInstruction 40 = .ok (.invokestatic 47, 3) := by decide +kernel
theorem dX4_loadInstruction_43 : decode cX4_loadInstruction 43 = .ok (.istore 5, 2) := by decide +kernel
theorem dX4_loadInstruction_45 : decode cX4_loadInstruction 45 = .ok (.aload_n 0, 1) := by decide +kernel
theorem dX4_loadInstruction_46 : decode cX4_loadInstruction 46 = .ok (.iload 5, 2) := by decide +kernel
theorem dX4_loadInstruction_48 : decode cX4_loadInstruction 48 = .ok (.iload 4, 2) := by decide +kernel
theorem dX4_loadInstruction_50 : decode cX4_loadInstruction 50 = .ok (.iload_n 3, 1) := by decide +kernel
theorem dX4_loadInstruction_51 : decode cX4_loadInstruction 51 = .ok (.ifCond .ne 7, 3) := by decide +kernel
theorem dX4_loadInstruction_54 : decode cX4_loadInstruction 54 = .ok (.iconst 1, 1) := by decide +kernel
theorem dX4_loadInstruction_55 : decode cX4_loadInstruction 55 = .ok (.goto 4, 3) := by decide +kernel
theorem dX4_loadInstruction_58 : decode cX4_loadInstruction 58 = .ok (.iconst 0, 1) := by decide +kernel
theorem dX4_loadInstruction_59 : decode cX4_loadInstruction 59 = .ok (.invokestatic 51, 3) := by decide +kernel
theorem dX4_loadInstruction_62 : decode cX4_loadInstruction 62 = .ok (.pop, 1) := by decide +kernel
theorem dX4_loadInstruction_63 : decode cX4_loadInstruction 63 = .ok (.iinc 3 (-1), 3) := by decide +kernel
theorem dX4_loadInstruction_66 : decode cX4_loadInstruction 66 = .ok (.goto (-52), 3) := by decide +kernel
theorem dX4_loadInstruction_69 : decode cX4_loadInstruction 69 = .ok (.aload_n 0, 1) := by decide +kernel
theorem dX4_loadInstruction_70 : decode cX4_loadInstruction 70 = .ok (.iconst 1, 1) := by decide +kernel
theorem dX4_loadInstruction_71 : decode cX4_loadInstruction 71 = .ok (.invokestatic 29, 3) := by decide +kernel
theorem dX4_loadInstruction_74 : decode cX4_loadInstruction 74 = .ok (.pop, 1) := by decide +kernel
theorem dX4_loadInstruction_75 : decode cX4_loadInstruction 75 = .ok (.return_, 1) := by decide +kernel
theorem dX4_exchangeData_0 : decode cX4_exchangeData 0 = .ok (.iconst 0, 1) := by decide +kernel
theorem dX4_exchangeData_1 : decode cX4_exchangeData 1 = .ok (.istore_n 3, 1) := by decide +kernel
theorem dX4_exchangeData_2 : decode cX4_exchangeData 2 = .ok (.aload_n 0, 1) := by decide +kernel
theorem dX4_exchangeData_3 : decode cX4_exchangeData 3 = .ok (.iconst 4, 1) := by decide +kernel
theorem dX4_exchangeData_4 : decode cX4_exchangeData 4 = .ok (.invokestatic 29, 3) := by decide +kernel
theorem dX4_exchangeData_7 : decode cX4_exchangeData 7 = .ok (.pop, 1) := by decide +kernel
theorem dX4_exchangeData_8 : decode cX4_exchangeData 8 = .ok (.aload_n 0, 1) := by decide +kernel
theorem dX4_exchangeData_9 : decode cX4_exchangeData 9 = .ok (.getfield 55, 3) := by decide +kernel
theorem dX4_exchangeData_12 : decode cX4_exchangeData 12 = .ok (.iconst 1, 1) := by decide +kernel
theorem dX4_exchangeData_13 : decode cX4_exchangeData 13 = .ok (.isub, 1) := by decide +kernel
theorem dX4_exchangeData_14 : decode cX4_exchangeData 14 = .ok (.istore 4, 2) := by decide +kernel
theorem dX4_exchangeData_16 : decode cX4_exchangeData 16 = .ok (.iload 4, 2) := by decide +kernel
theorem dX4_exchangeData_18 : decode cX4_exchangeData 18 = .ok (.ifCond .lt 59, 3) := by decide +kernel
theorem dX4_exchangeData_21 : decode cX4_exchangeData 21 = .ok (.iload 4, 2) := by decide +kernel
theorem dX4_exchangeData_23 : decode cX4_exchangeData 23 = .ok (.iload_n 1, 1) := by decide +kernel
theorem dX4_exchangeData_24 : decode cX4_exchangeData 24 = .ok (.if_icmp .ne 7, 3) := by decide +kernel
theorem dX4_exchangeData_27 : decode cX4_exchangeData 27 = .ok (.iload_n 2, 1) := by decide +kernel
theorem dX4_exchangeData_28 : decode cX4_exchangeData 28 = .ok (.goto 4, 3) := by decide +kernel
theorem dX4_exchangeData_31 : decode cX4_exchangeData 31 = .ok (.iconst 0, 1) := by decide +kernel
theorem dX4_exchangeData_32 : decode cX4_exchangeData 32 = .ok (.istore 5, 2) := by decide +kernel
theorem dX4_exchangeData_34 : decode cX4_exchangeData 34 = .ok (.aload_n 0, 1) := by decide +kernel
theorem dX4_exchangeData_35 : decode cX4_exchangeData 35 = .ok (.iload 5, 2) := by decide +kernel
theorem dX4_exchangeData_37 : decode cX4_exchangeData 37 = .ok (.aload_n 0, 1) := by decide +kernel
theorem dX4_exchangeData_38 : decode cX4_exchangeData 38 = .ok (.getfield 58, 3) := by decide +kernel
theorem dX4_exchangeData_41 : decode cX4_exchangeData 41 = .ok (.iload 4, 2) := by decide +kernel
theorem dX4_exchangeData_43 : decode cX4_exchangeData 43 = .ok (.aaload, 1) := by decide +kernel
theorem dX4_exchangeData_44 : decode cX4_exchangeData 44 = .ok (.invokevirtual 67, 3) := by decide +kernel
theorem dX4_exchangeData_47 : decode cX4_exchangeData 47 = .ok (.iload 4, 2) := by decide +kernel
theorem dX4_exchangeData_49 : decode cX4_exchangeData 49 = .ok (.ifCond .ne 7, 3) := by decide +kernel
theorem dX4_exchangeData_52 : decode cX4_exchangeData 52 = .ok (.iconst 1, 1) := by decide +kernel
theorem dX4_exchangeData_53 : decode cX4_exchangeData 53 = .ok (.goto 4, 3) := by decide +kernel
theorem dX4_exchangeData_56 : decode cX4_exchangeData 56 = .ok (.iconst 0, 1) := by decide +kernel
theorem dX4_exchangeData_57 : decode cX4_exchangeData 57 = .ok (.invokestatic 51, 3) := by decide +kernel
theorem dX4_exchangeData_60 : decode cX4_exchangeData 60 = .ok (.istore 6, 2) := by decide +kernel
theorem dX4_exchangeData_62 : decode cX4_exchangeData 62 = .ok (.iload 4, 2) := by decide +kernel
theorem dX4_exchangeData_64 : decode cX4_exchangeData 64 = .ok (.iload_n 1, 1) := by decide +kernel
theorem dX4_exchangeData_65 : decode cX4_exchangeData 65 = .ok (.if_icmp .ne 6, 3) := by decide +kernel
theorem dX4_exchangeData_68 : decode cX4_exchangeData 68 = .ok (.iload 6, 2) := by decide +kernel
theorem dX4_exchangeData_70 : decode cX4_exchangeData 70 = .ok (.istore_n 3, 1) := by decide +kernel
theorem dX4_exchangeData_71 : decode cX4_exchangeData 71 = .ok (.iinc 4 (-1), 3) := by decide +kernel
theorem dX4_exchangeData_74 : decode cX4_exchangeData 74 = .ok (.goto (-58), 3) := by decide +kernel
theorem dX4_exchangeData_77 : decode cX4_exchangeData 77 = .ok (.aload_n 0, 1) := by decide +kernel
theorem dX4_exchangeData_78 : decode cX4_exchangeData 78 = .ok (.iconst 1, 1) := by decide +kernel
theorem dX4_exchangeData_79 : decode cX4_exchangeData 79 = .ok (.invokestatic 29, 3) := by decide +kernel
theorem dX4_exchangeData_82 : decode cX4_exchangeData 82 = .ok (.pop, 1) := by decide +kernel
theorem dX4_exchangeData_83 : decode cX4_exchangeData 83 = .ok (.iload_n 3, 1) := by decide +kernel
theorem dX4_exchangeData_84 : decode cX4_exchangeData 84 = .ok (.ireturn, 1) := by decide +kernel
theorem dX4_shiftThrough_0 : decode cX4_shiftThrough 0 = .ok (.iconst 0, 1) := by decide +kernel
theorem dX4_shiftThrough_1 : decode cX4_shiftThrough 1 = .ok (.istore 4, 2) := by decide +kernel
theorem dX4_shiftThrough_3 : decode cX4_shiftThrough 3 = .ok (.iconst 0, 1) := by decide +kernel
theorem dX4_shiftThrough_4 : decode cX4_shiftThrough 4 = .ok (.istore 5, 2) := by decide +kernel
theorem dX4_shiftThrough_6 : decode cX4_shiftThrough 6 = .ok (.iload 5, 2) := by decide +kernel
theorem dX4_shiftThrough_8 : decode cX4_shiftThrough 8 = .ok (.iload_n 2, 1) := by decide +kernel
theorem dX4_shiftThrough_9 : decode cX4_shiftThrough 9 = .ok (.if_icmp .ge 48, 3) := by decide +kernel
theorem dX4_shiftThrough_12 : decode cX4_shiftThrough 12 = .ok (.iload_n 3, 1) := by decide +kernel
theorem dX4_shiftThrough_13 : decode cX4_shiftThrough 13 = .ok (.ifCond .eq 15, 3) := by decide +kernel
theorem dX4_shiftThrough_16 : decode cX4_shiftThrough 16 = .ok (.iload 5, 2) := by decide +kernel
theorem dX4_shiftThrough_18 : decode cX4_shiftThrough 18 = .ok (.iload_n 2, 1) := by decide +kernel
theorem dX4_shiftThrough_19 : decode cX4_shiftThrough 19 = .ok (.iconst 1, 1) := by decide +kernel
theorem dX4_shiftThrough_20 : decode cX4_shiftThrough 20 = .ok (.isub, 1) := by decide +kernel
theorem dX4_shiftThrough_21 : decode cX4_shiftThrough 21 = .ok (.if_icmp .ne 7, 3) := by decide +kernel
theorem dX4_shiftThrough_24 : decode cX4_shiftThrough 24 = .ok (.iconst 1, 1) := by decide +kernel
theorem dX4_shiftThrough_25 : decode cX4_shiftThrough 25 = .ok (.goto 4, 3) := by decide +kernel
theorem dX4_shiftThrough_28 : decode cX4_shiftThrough 28 = .ok (.iconst 0, 1) := by decide +kernel
theorem dX4_shiftThrough_29 : decode cX4_shiftThrough 29 = .ok (.istore 6, 2) := by decide +kernel
theorem dX4_shiftThrough_31 : decode cX4_shiftThrough 31 = .ok (.iload 4, 2) := by decide +kernel
theorem dX4_shiftThrough_33 : decode cX4_shiftThrough 33 = .ok (.aload_n 0, 1) := by decide +kernel
theorem dX4_shiftThrough_34 : decode cX4_shiftThrough 34 = .ok (.iload 6, 2) := by decide +kernel
theorem dX4_shiftThrough_36 : decode cX4_shiftThrough 36 = .ok (.iload_n 1, 1) := by decide +kernel
theorem dX4_shiftThrough_37 : decode cX4_shiftThrough 37 = .ok (.iload 5, 2) := by decide +kernel
theorem dX4_shiftThrough_39 : decode cX4_shiftThrough 39 = .ok (.ishr, 1) := by decide +kernel
theorem dX4_shiftThrough_40 : decode cX4_shiftThrough 40 = .ok (.iconst 1, 1) := by decide +kernel
theorem dX4_shiftThrough_41 : decode cX4_shiftThrough 41 = .ok (.iand, 1) := by decide +kernel
theorem dX4_shiftThrough_42 : decode cX4_shiftThrough 42 = .ok (.invokevirtual 24, 3) := by decide +kernel
theorem dX4_shiftThrough_45 : decode cX4_shiftThrough 45 = .ok (.iload 5, 2) := by decide +kernel
theorem dX4_shiftThrough_47 : decode cX4_shiftThrough 47 = .ok (.ishl, 1) := by decide +kernel
theorem dX4_shiftThrough_48 : decode cX4_shiftThrough 48 = .ok (.ior, 1) := by decide +kernel
theorem dX4_shiftThrough_49 : decode cX4_shiftThrough 49 = .ok (.istore 4, 2) := by decide +kernel
theorem dX4_shiftThrough_51 : decode cX4_shiftThrough 51 = .ok (.iinc 5 1, 3) := by decide +kernel
theorem dX4_shiftThrough_54 : decode cX4_shiftThrough 54 = .ok (.goto (-48), 3) := by decide +kernel
theorem dX4_shiftThrough_57 : decode cX4_shiftThrough 57 = .ok (.iload 4, 2) := by decide +kernel
theorem dX4_shiftThrough_59 : decode cX4_shiftThrough 59 = .ok (.ireturn, 1) := by decide +kernel
theorem dX4_carryOut_0 : decode cX4_carryOut 0 = .ok (.iconst 0, 1) := by decide +kernel
theorem dX4_carryOut_1 : decode cX4_carryOut 1 = .ok (.istore_n 2, 1) := by decide +kernel
theorem dX4_carryOut_2 : decode cX4_carryOut 2 = .ok (.iconst 0, 1) := by decide +kernel
theorem dX4_carryOut_3 : decode cX4_carryOut 3 = .ok (.istore_n 3, 1) := by decide +kernel
theorem dX4_carryOut_4 : decode cX4_carryOut 4 = .ok (.iconst 0, 1) := by decide +kernel
theorem dX4_carryOut_5 : decode cX4_carryOut 5 = .ok (.istore 4, 2) := by decide +kernel
theorem dX4_carryOut_7 : decode cX4_carryOut 7 = .ok (.iload 4, 2) := by decide +kernel
theorem dX4_carryOut_9 : decode cX4_carryOut 9 = .ok (.aload_n 1, 1) := by decide +kernel
theorem dX4_carryOut_10 : decode cX4_carryOut 10 = .ok (.getfield 71, 3) := by decide +kernel
theorem dX4_carryOut_13 : decode cX4_carryOut 13 = .ok (.if_icmp .ge 82, 3) := by decide +kernel
theorem dX4_carryOut_16 : decode cX4_carryOut 16 = .ok (.aload_n 1, 1) := by decide +kernel
theorem dX4_carryOut_17 : decode cX4_carryOut 17 = .ok (.getfield 76, 3) := by decide +kernel
theorem dX4_carryOut_20 : decode cX4_carryOut 20 = .ok (.iload 4, 2) := by decide +kernel
theorem dX4_carryOut_22 : decode cX4_carryOut 22 = .ok (.caload, 1) := by decide +kernel
theorem dX4_carryOut_23 : decode cX4_carryOut 23 = .ok (.istore 5, 2) := by decide +kernel
theorem dX4_carryOut_25 : decode cX4_carryOut 25 = .ok (.iload 5, 2) := by decide +kernel
theorem dX4_carryOut_27 : decode cX4_carryOut 27 = .ok (.bipush 63, 2) := by decide +kernel
theorem dX4_carryOut_29 : decode cX4_carryOut 29 = .ok (.if_icmp .ne 30, 3) := by decide +kernel
theorem dX4_carryOut_32 : decode cX4_carryOut 32 = .ok (.aload_n 0, 1) := by decide +kernel
theorem dX4_carryOut_33 : decode cX4_carryOut 33 = .ok (.iconst 0, 1) := by decide +kernel
theorem dX4_carryOut_34 : decode cX4_carryOut 34 = .ok (.iconst 1, 1) := by decide +kernel
theorem dX4_carryOut_35 : decode cX4_carryOut 35 = .ok (.invokevirtual 24, 3) := by decide +kernel
theorem dX4_carryOut_38 : decode cX4_carryOut 38 = .ok (.istore 6, 2) := by decide +kernel
theorem dX4_carryOut_40 : decode cX4_carryOut 40 = .ok (.iload_n 3, 1) := by decide +kernel
theorem dX4_carryOut_41 : decode cX4_carryOut 41 = .ok (.bipush 30, 2) := by decide +kernel
theorem dX4_carryOut_43 : decode cX4_carryOut 43 = .ok (.if_icmp .ge 13, 3) := by decide +kernel
theorem dX4_carryOut_46 : decode cX4_carryOut 46 = .ok (.iload_n 2, 1) := by decide +kernel
theorem dX4_carryOut_47 : decode cX4_carryOut 47 = .ok (.iload 6, 2) := by decide +kernel
theorem dX4_carryOut_49 : decode cX4_carryOut 49 = .ok (.iload_n 3, 1) := by decide +kernel
theorem dX4_carryOut_50 : decode cX4_carryOut 50 = .ok (.ishl, 1) := by decide +kernel
theorem dX4_carryOut_51 : decode cX4_carryOut 51 = .ok (.ior, 1) := by decide +kernel
theorem dX4_carryOut_52 : decode cX4_carryOut 52 = .ok (.istore_n 2, 1) := by decide +kernel
theorem dX4_carryOut_53 : decode cX4_carryOut 53 = .ok (.iinc 3 1, 3) := by decide +kernel
theorem dX4_carryOut_56 : decode cX4_carryOut 56 = .ok (.goto 33, 3) := by decide +kernel
theorem dX4_carryOut_59 : decode cX4_carryOut 59 = .ok (.iload 5, 2) := by decide +kernel
theorem dX4_carryOut_61 : decode cX4_carryOut 61 = .ok (.bipush 64, 2) := by decide +kernel
theorem dX4_carryOut_63 : decode cX4_carryOut 63 = .ok (.if_icmp .ne 20, 3) := by decide +kernel
theorem dX4_carryOut_66 : decode cX4_carryOut 66 = .ok (.iinc 4 1, 3) := by decide +kernel
theorem dX4_carryOut_69 : decode cX4_carryOut 69 = .ok (.aload_n 0, 1) := by decide +kernel
theorem dX4_carryOut_70 : decode cX4_carryOut 70 = .ok (.aload_n 1, 1) := by decide +kernel
theorem dX4_carryOut_71 : decode cX4_carryOut 71 = .ok (.iload 4, 2) := by decide +kernel
theorem dX4_carryOut_73 : decode cX4_carryOut 73 = .ok (.invokevirtual 80, 3) := by decide +kernel
theorem dX4_carryOut_76 : decode cX4_carryOut 76 = .ok (.invokestatic 29, 3) := by decide +kernel
theorem dX4_carryOut_79 : decode cX4_carryOut 79 = .ok (.pop, 1) := by decide +kernel
theorem dX4_carryOut_80 : decode cX4_carryOut 80 = .ok (.goto 9, 3) := by decide +kernel
theorem dX4_carryOut_83 : decode cX4_carryOut 83 = .ok (.aload_n 0, 1) := by decide +kernel
theorem dX4_carryOut_84 : decode cX4_carryOut 84 = .ok (.iload 5, 2) := by decide +kernel
theorem dX4_carryOut_86 : decode cX4_carryOut 86 = .ok (.invokestatic 83, 3) := by decide +kernel
theorem dX4_carryOut_89 : decode cX4_carryOut 89 = .ok (.iinc 4 1, 3) := by decide +kernel
theorem dX4_carryOut_92 : decode cX4_carryOut 92 = .ok (.goto (-85), 3) := by decide +kernel
theorem dX4_carryOut_95 : decode cX4_carryOut 95 = .ok (.iload_n 2, 1) := by decide +kernel
theorem dX4_carryOut_96 : decode cX4_carryOut 96 = .ok (.ireturn, 1) := by decide +kernel
theorem dX4_clockItem_0 : decode cX4_clockItem 0 = .ok (.iload_n 1, 1) := by decide +kernel
theorem dX4_clockItem_1 : decode cX4_clockItem 1 = .ok (.bipush 97, 2) := by decide +kernel
theorem dX4_clockItem_3 : decode cX4_clockItem 3 = .ok (.if_icmp .eq 9, 3) := by decide +kernel
theorem dX4_clockItem_6 : decode cX4_clockItem 6 = .ok (.iload_n 1, 1) := by decide +kernel
theorem dX4_clockItem_7 : decode cX4_clockItem 7 = .ok (.bipush 98, 2) := by decide +kernel
theorem dX4_clockItem_9 : decode cX4_clockItem 9 = .ok (.if_icmp .ne 7, 3) := by decide +kernel
theorem dX4_clockItem_12 : decode cX4_clockItem 12 = .ok (.iconst 1, 1) := by decide +kernel
theorem dX4_clockItem_13 : decode cX4_clockItem 13 = .ok (.goto 4, 3) := by decide +kernel
theorem dX4_clockItem_16 : decode cX4_clockItem 16 = .ok (.iconst 0, 1) := by decide +kernel
theorem dX4_clockItem_17 : decode cX4_clockItem 17 = .ok (.istore_n 2, 1) := by decide +kernel
theorem dX4_clockItem_18 : decode cX4_clockItem 18 = .ok (.iload_n 1, 1) := by decide +kernel
theorem dX4_clockItem_19 : decode cX4_clockItem 19 = .ok (.bipush 49, 2) := by decide +kernel
theorem dX4_clockItem_21 : decode cX4_clockItem 21 = .ok (.if_icmp .eq 9, 3) := by decide +kernel
theorem dX4_clockItem_24 : decode cX4_clockItem 24 = .ok (.iload_n 1, 1) := by decide +kernel
theorem dX4_clockItem_25 : decode cX4_clockItem 25 = .ok (.bipush 98, 2) := by decide +kernel
theorem dX4_clockItem_27 : decode cX4_clockItem 27 = .ok (.if_icmp .ne 7, 3) := by decide +kernel
theorem dX4_clockItem_30 : decode cX4_clockItem 30 = .ok (.iconst 1, 1) := by decide +kernel
theorem dX4_clockItem_31 : decode cX4_clockItem 31 = .ok (.goto 4, 3) := by decide +kernel
theorem dX4_clockItem_34 : decode cX4_clockItem 34 = .ok (.iconst 0, 1) := by decide +kernel
theorem dX4_clockItem_35 : decode cX4_clockItem 35 = .ok (.istore_n 3, 1) := by decide +kernel
theorem dX4_clockItem_36 : decode cX4_clockItem 36 = .ok (.aload_n 0, 1) := by decide +kernel
theorem dX4_clockItem_37 : decode cX4_clockItem 37 = .ok (.iload_n 2, 1) := by decide +kernel
theorem dX4_clockItem_38 : decode cX4_clockItem 38 = .ok (.iload_n 3, 1) := by decide +kernel
theorem dX4_clockItem_39 : decode cX4_clockItem 39 = .ok (.invokevirtual 24, 3) := by decide +kernel
theorem dX4_clockItem_42 : decode cX4_clockItem 42 = .ok (.pop, 1) := by decide +kernel
theorem dX4_clockItem_43 : decode cX4_clockItem 43 = .ok (.return_, 1) := by decide +kernel
theorem dX5_init_0 : decode cX5_init 0 = .ok (.aload_n 0, 1) := by decide +kernel
theorem dX5_init_1 : decode cX5_init 1 = .ok (.invokespecial 3, 3) := by decide +kernel
theorem dX5_init_4 : decode cX5_init 4 = .ok (.aload_n 0, 1) := by decide +kernel
theorem dX5_init_5 : decode cX5_init 5 = .ok (.bipush 80, 2) := by decide +kernel
theorem dX5_init_7 : decode cX5_init 7 = .ok (.newarray .char, 2) := by decide +kernel
theorem dX5_init_9 : decode cX5_init 9 = .ok (.putfield 9, 3) := by decide +kernel
theorem dX5_init_12 : decode cX5_init 12 = .ok (.aload_n 0, 1) := by decide +kernel
theorem dX5_init_13 : decode cX5_init 13 = .ok (.iconst 0, 1) := by decide +kernel
theorem dX5_init_14 : decode cX5_init 14 = .ok (.putfield 15, 3) := by decide +kernel
theorem dX5_init_17 : decode cX5_init 17 = .ok (.return_, 1) := by decide +kernel
theorem dX5_write_0 : decode cX5_write 0 = .ok (.aload_n 0, 1) := by decide +kernel
theorem dX5_write_1 : decode cX5_write 1 = .ok (.getfield 15, 3) := by decide +kernel
theorem dX5_write_4 : decode cX5_write 4 = .ok (.aload_n 0, 1) := by decide +kernel
theorem dX5_write_5 : decode cX5_write 5 = .ok (.getfield 9, 3) := by decide +kernel
theorem dX5_write_8 : decode cX5_write 8 = .ok (.arraylength, 1) := by decide +kernel
theorem dX5_write_9 : decode cX5_write 9 = .ok (.if_icmp .ge 24, 3) := by decide +kernel
theorem dX5_write_12 : decode cX5_write 12 = .ok (.aload_n 0, 1) := by decide +kernel
theorem dX5_write_13 : decode cX5_write 13 = .ok (.getfield 9, 3) := by decide +kernel
theorem dX5_write_16 : decode cX5_write 16 = .ok (.aload_n 0, 1) := by decide +kernel
theorem dX5_write_17 : decode cX5_write 17 = .ok (.getfield 15, 3) := by decide +kernel
theorem dX5_write_20 : decode cX5_write 20 = .ok (.iload_n 1, 1) := by decide +kernel
theorem dX5_write_21 : decode cX5_write 21 = .ok (.i2c, 1) := by decide +kernel
theorem dX5_write_22 : decode cX5_write 22 = .ok (.castore, 1) := by decide +kernel
theorem dX5_write_23 : decode cX5_write 23 = .ok (.aload_n 0, 1) := by decide +kernel
theorem dX5_write_24 : decode cX5_write 24 = .ok (.dup, 1) := by decide +kernel
theorem dX5_write_25 : decode cX5_write 25 = .ok (.getfield 15, 3) := by decide +kernel
theorem dX5_write_28 : decode cX5_write 28 = .ok (.iconst 1, 1) := by decide +kernel
theorem dX5_write_29 : decode cX5_write 29 = .ok (.iadd, 1) := by decide +kernel
theorem dX5_write_30 : decode cX5_write 30 = .ok (.putfield 15, 3) := by decide +kernel
theorem dX5_write_33 : decode cX5_write 33 = .ok (.aload_n 0, 1) := by decide +kernel
theorem dX5_write_34 : decode cX5_write 34 = .ok (.getfield 15, 3) := by decide +kernel
theorem dX5_write_37 : decode cX5_write 37 = .ok (.ireturn, 1) := by decide +kernel
theorem dX5_wipe_0 : decode cX5_wipe 0 = .ok (.aload_n 0, 1) := by decide +kernel
theorem dX5_wipe_1 : decode cX5_wipe 1 = .ok (.getfield 15, 3) := by decide +kernel
theorem dX5_wipe_4 : decode cX5_wipe 4 = .ok (.istore_n 1, 1) := by decide +kernel
theorem dX5_wipe_5 : decode cX5_wipe 5 = .ok (.aload_n 0, 1) := by decide +kernel
theorem dX5_wipe_6 : decode cX5_wipe 6 = .ok (.iconst 0, 1) := by decide +kernel
theorem dX5_wipe_7 : decode cX5_wipe 7 = .ok (.putfield 15, 3) := by decide +kernel
theorem dX5_wipe_10 : decode cX5_wipe 10 = .ok (.iload_n 1, 1) := by decide +kernel
theorem dX5_wipe_11 : decode cX5_wipe 11 = .ok (.ireturn, 1) := by decide +kernel
theorem dX5_firstFault_0 : decode cX5_firstFault 0 = .ok (.iconst 0, 1) := by decide +kernel
theorem dX5_firstFault_1 : decode cX5_firstFault 1 = .ok (.istore_n 1, 1) := by decide +kernel
theorem dX5_firstFault_2 : decode cX5_firstFault 2 = .ok (.iconst 0, 1) := by decide +kernel
theorem dX5_firstFault_3 : decode cX5_firstFault 3 = .ok (.istore_n 2, 1) := by decide +kernel
theorem dX5_firstFault_4 : decode cX5_firstFault 4 = .ok (.iload_n 2, 1) := by decide +kernel
theorem dX5_firstFault_5 : decode cX5_firstFault 5 = .ok (.aload_n 0, 1) := by decide +kernel
theorem dX5_firstFault_6 : decode cX5_firstFault 6 = .ok (.getfield 15, 3) := by decide +kernel
theorem dX5_firstFault_9 : decode cX5_firstFault 9 = .ok (.if_icmp .ge 65, 3) := by decide +kernel
theorem dX5_firstFault_12 : decode cX5_firstFault 12 = .ok (.aload_n 0, 1) := by decide +kernel
theorem dX5_firstFault_13 : decode cX5_firstFault 13 = .ok (.getfield 9, 3) := by decide +kernel
theorem dX5_firstFault_16 : decode cX5_firstFault 16 = .ok (.iload_n 2, 1) := by decide +kernel
theorem dX5_firstFault_17 : decode cX5_firstFault 17 = .ok (.caload, 1) := by decide +kernel
theorem dX5_firstFault_18 : decode cX5_firstFault 18 = .ok (.istore_n 3, 1) := by decide +kernel
theorem dX5_firstFault_19 : decode cX5_firstFault 19 = .ok (.iload_n 1, 1) := by decide +kernel
theorem dX5_firstFault_20 : decode cX5_firstFault 20 = .ok (.ifCond .eq 19, 3) := by decide +kernel
theorem dX5_firstFault_23 : decode cX5_firstFault 23 = .ok (.iload_n 3, 1) := by decide +kernel
theorem dX5_firstFault_24 : decode cX5_firstFault 24 = .ok (.invokestatic 19, 3) := by decide +kernel
theorem dX5_firstFault_27 : decode cX5_firstFault 27 = .ok (.iconst (-1), 1) := by decide +kernel
theorem dX5_firstFault_28 : decode cX5_firstFault 28 = .ok (.if_icmp .eq 7, 3) := by decide +kernel
theorem dX5_firstFault_31 : decode cX5_firstFault 31 = .ok (.iconst 1, 1) := by decide +kernel
theorem dX5_firstFault_32 : decode cX5_firstFault 32 = .ok (.goto 11, 3) := by decide +kernel
theorem dX5_firstFault_35 : decode cX5_firstFault 35 = .ok (.iconst 0, 1) := by decide +kernel
theorem dX5_firstFault_36 : decode cX5_firstFault 36 = .ok (.goto 7, 3) := by decide +kernel
theorem dX5_firstFault_39 : decode cX5_firstFault 39 = .ok (.iload_n 3, 1) := by decide +kernel
theorem dX5_firstFault_40 : decode cX5_firstFault 40 = .ok (.invokestatic 23, 3) := by decide +kernel
theorem dX5_firstFault_43 : decode cX5_firstFault 43 = .ok (.istore 4, 2) := by decide +kernel
theorem dX5_firstFault_45 : decode cX5_firstFault 45 = .ok (.iload 4, 2) := by decide +kernel
theorem dX5_firstFault_47 : decode cX5_firstFault 47 = .ok (.ifCond .ne 5, 3) := by decide +kernel
theorem dX5_firstFault_50 : decode cX5_firstFault 50 = .ok (.iload_n 2, 1) := by decide +kernel
theorem dX5_firstFault_51 : decode cX5_firstFault 51 = .ok (.ireturn, 1) := by decide +kernel
theorem dX5_firstFault_52 : decode cX5_firstFault 52 = .ok (.iload_n 1, 1) := by decide +kernel
theorem dX5_firstFault_53 : decode cX5_firstFault 53 = .ok (.ifCond .ne 13, 3) := by decide +kernel
theorem dX5_firstFault_56 : decode cX5_firstFault 56 = .ok (.iload_n 3, 1) := by decide +kernel
theorem dX5_firstFault_57 : decode cX5_firstFault 57 = .ok (.bipush 64, 2) := by decide +kernel
theorem dX5_firstFault_59 : decode cX5_firstFault 59 = .ok (.if_icmp .ne 7, 3) := by decide +kernel
theorem dX5_firstFault_62 : decode cX5_firstFault 62 = .ok (.iconst 1, 1) := by decide +kernel
theorem dX5_firstFault_63 : decode cX5_firstFault 63 = .ok (.goto 4, 3) := by decide +kernel
theorem dX5_firstFault_66 : decode cX5_firstFault 66 = .ok (.iconst 0, 1) := by decide +kernel
theorem dX5_firstFault_67 : decode cX5_firstFault 67 = .ok (.istore_n 1, 1) := by decide +kernel
theorem dX5_firstFault_68 : decode cX5_firstFault 68 = .ok (.iinc 2 1, 3) := by decide +kernel
theorem dX5_firstFault_71 : decode cX5_firstFault 71 = .ok (.goto (-67), 3) := by decide +kernel
theorem dX5_firstFault_74 : decode cX5_firstFault 74 = .ok (.aload_n 0, 1) := by decide +kernel
theorem dX5_firstFault_75 : decode cX5_firstFault 75 = .ok (.getfield 15, 3) := by decide +kernel
theorem dX5_firstFault_78 : decode cX5_firstFault 78 = .ok (.ifCond .le 11, 3) := by decide +kernel
theorem dX5_firstFault_81 : decode cX5_firstFault 81 = .ok (.iload_n 1, 1) := by decide +kernel
theorem dX5_firstFault_82 : decode cX5_firstFault 82 = .ok (.ifCond .ne 7, 3) := by decide +kernel
theorem dX5_firstFault_85 : decode cX5_firstFault 85 = .ok (.iconst 1, 1) := by decide +kernel
theorem dX5_firstFault_86 : decode cX5_firstFault 86 = .ok (.goto 4, 3) := by decide +kernel
theorem dX5_firstFault_89 : decode cX5_firstFault 89 = .ok (.iconst 0, 1) := by decide +kernel
theorem dX5_firstFault_90 : decode cX5_firstFault 90 = .ok (.istore_n 2, 1) := by decide +kernel
theorem dX5_firstFault_91 : decode cX5_firstFault 91 = .ok (.iload_n 2, 1) := by decide +kernel
theorem dX5_firstFault_92 : decode cX5_firstFault 92 = .ok (.ifCond .eq 8, 3) := by decide +kernel
theorem dX5_firstFault_95 : decode cX5_firstFault 95 = .ok (.bipush (-4), 2) := by decide +kernel
theorem dX5_firstFault_97 : decode cX5_firstFault 97 = .ok (.goto 7, 3) := by decide +kernel
theorem dX5_firstFault_100 : decode cX5_firstFault 100 = .ok (.aload_n 0, 1) := by decide +kernel
theorem dX5_firstFault_101 : decode cX5_firstFault 101 = .ok (.getfield 15, 3) := by decide +kernel
theorem dX5_firstFault_104 : decode cX5_firstFault 104 = .ok (.ireturn, 1) := by decide +kernel
theorem dX5_hexAt_0 : decode cX5_hexAt 0 = .ok (.iload_n 1, 1) := by decide +kernel
theorem dX5_hexAt_1 : decode cX5_hexAt 1 = .ok (.ifCond .lt 23, 3) := by decide +kernel
theorem dX5_hexAt_4 : decode cX5_hexAt 4 = .ok (.iload_n 1, 1) := by decide +kernel
theorem dX5_hexAt_5 : decode cX5_hexAt 5 = .ok (.aload_n 0, 1) := by decide +kernel
theorem dX5_hexAt_6 : decode cX5_hexAt 6 = .ok (.getfield 15, 3) := by decide +kernel
theorem dX5_hexAt_9 : decode cX5_hexAt 9 = .ok (.if_icmp .ge 15, 3) := by decide +kernel
theorem dX5_hexAt_12 : decode cX5_hexAt 12 = .ok (.aload_n 0, 1) := by decide +kernel
theorem dX5_hexAt_13 : decode cX5_hexAt 13 = .ok (.getfield 9, 3) := by decide +kernel
theorem dX5_hexAt_16 : decode cX5_hexAt 16 = .ok (.iload_n 1, 1) := by decide +kernel
theorem dX5_hexAt_17 : decode cX5_hexAt 17 = .ok (.caload, 1) := by decide +kernel
theorem dX5_hexAt_18 : decode cX5_hexAt 18 = .ok (.invokestatic 19, 3) := by decide +kernel
theorem dX5_hexAt_21 : decode cX5_hexAt 21 = .ok (.goto 4, 3) := by decide +kernel
theorem dX5_hexAt_24 : decode cX5_hexAt 24 = .ok (.iconst (-1), 1) := by decide +kernel
theorem dX5_hexAt_25 : decode cX5_hexAt 25 = .ok (.ireturn, 1) := by decide +kernel
theorem dX5_startsItem_0 : decode cX5_startsItem 0 = .ok (.iload_n 0, 1) := by decide +kernel
theorem dX5_startsItem_1 : decode cX5_startsItem 1 = .ok (.bipush 48, 2) := by decide +kernel
theorem dX5_startsItem_3 : decode cX5_startsItem 3 = .ok (.if_icmp .eq 33, 3) := by decide +kernel
theorem dX5_startsItem_6 : decode cX5_startsItem 6 = .ok (.iload_n 0, 1) := by decide +kernel
theorem dX5_startsItem_7 : decode cX5_startsItem 7 = .ok (.bipush 49, 2) := by decide +kernel
theorem dX5_startsItem_9 : decode cX5_startsItem 9 = .ok (.if_icmp .eq 27, 3) := by decide +kernel
theorem dX5_startsItem_12 : decode cX5_startsItem 12 = .ok (.iload_n 0, 1) := by decide +kernel
theorem dX5_startsItem_13 : decode cX5_startsItem 13 = .ok (.bipush 97, 2) := by decide +kernel
theorem dX5_startsItem_15 : decode cX5_startsItem 15 = .ok (.if_icmp .eq 21, 3) := by decide +kernel
theorem dX5_startsItem_18 : decode cX5_startsItem 18 = .ok (.iload_n 0, 1) := by decide +kernel
theorem dX5_startsItem_19 : decode cX5_startsItem 19 = .ok (.bipush 98, 2) := by decide +kernel
theorem dX5_startsItem_21 : decode cX5_startsItem 21 = .ok (.if_icmp .eq 15, 3) := by decide +kernel
theorem dX5_startsItem_24 : decode cX5_startsItem 24 = .ok (.iload_n 0, 1) := by decide +kernel
theorem dX5_startsItem_25 : decode cX5_startsItem 25 = .ok (.bipush 63, 2) := by decide +kernel
theorem dX5_startsItem_27 : decode cX5_startsItem 27 = .ok (.if_icmp .eq 9, 3) := by decide +kernel
theorem dX5_startsItem_30 : decode cX5_startsItem 30 = .ok (.iload_n 0, 1) := by decide +kernel
theorem dX5_startsItem_31 : decode cX5_startsItem 31 = .ok (.bipush 64, 2) := by decide +kernel
theorem dX5_startsItem_33 : decode cX5_startsItem 33 = .ok (.if_icmp .ne 7, 3) := by decide +kernel
theorem dX5_startsItem_36 : decode cX5_startsItem 36 = .ok (.iconst 1, 1) := by decide +kernel
theorem dX5_startsItem_37 : decode cX5_startsItem 37 = .ok (.goto 4, 3) := by decide +kernel
theorem dX5_startsItem_40 : decode cX5_startsItem 40 = .ok (.iconst 0, 1) := by decide +kernel
theorem dX5_startsItem_41 : decode cX5_startsItem 41 = .ok (.ireturn, 1) := by decide +kernel
theorem dX5_hexValue_0 : decode cX5_hexValue 0 = .ok (.iload_n 0, 1) := by decide +kernel
theorem dX5_hexValue_1 : decode cX5_hexValue 1 = .ok (.bipush 48, 2) := by decide +kernel
theorem dX5_hexValue_3 : decode cX5_hexValue 3 = .ok (.if_icmp .lt 14, 3) := by decide +kernel
theorem dX5_hexValue_6 : decode cX5_hexValue 6 = .ok (.iload_n 0, 1) := by decide +kernel
theorem dX5_hexValue_7 : decode cX5_hexValue 7 = .ok (.bipush 57, 2) := by decide +kernel
theorem dX5_hexValue_9 : decode cX5_hexValue 9 = .ok (.if_icmp .gt 8, 3) := by decide +kernel
theorem dX5_hexValue_12 : decode cX5_hexValue 12 = .ok (.iload_n 0, 1) := by decide +kernel
theorem dX5_hexValue_13 : decode cX5_hexValue 13 = .ok (.bipush 48, 2) := by decide +kernel
theorem dX5_hexValue_15 : decode cX5_hexValue 15 = .ok (.isub, 1) := by decide +kernel
theorem dX5_hexValue_16 : decode cX5_hexValue 16 = .ok (.ireturn, 1) := by decide +kernel
theorem dX5_hexValue_17 : decode cX5_hexValue 17 = .ok (.iload_n 0, 1) := by decide +kernel
theorem dX5_hexValue_18 : decode cX5_hexValue 18 = .ok (.bipush 97, 2) := by decide +kernel
theorem dX5_hexValue_20 : decode cX5_hexValue 20 = .ok (.if_icmp .lt 17, 3) := by decide +kernel
theorem dX5_hexValue_23 : decode cX5_hexValue 23 = .ok (.iload_n 0, 1) := by decide +kernel
theorem dX5_hexValue_24 : decode cX5_hexValue 24 = .ok (.bipush 102, 2) := by decide +kernel
theorem dX5_hexValue_26 : decode cX5_hexValue 26 = .ok (.if_icmp .gt 11, 3) := by decide +kernel
theorem dX5_hexValue_29 : decode cX5_hexValue 29 = .ok (.iload_n 0, 1) := by decide +kernel
theorem dX5_hexValue_30 : decode cX5_hexValue 30 = .ok (.bipush 97, 2) := by decide +kernel
theorem dX5_hexValue_32 : decode cX5_hexValue 32 = .ok (.isub, 1) := by decide +kernel
theorem dX5_hexValue_33 : decode cX5_hexValue 33 = .ok (.bipush 10, 2) := by decide +kernel
theorem dX5_hexValue_35 : decode cX5_hexValue 35 = .ok (.iadd, 1) := by decide +kernel
theorem dX5_hexValue_36 : decode cX5_hexValue 36 = .ok (.ireturn, 1) := by decide +kernel
theorem dX5_hexValue_37 : decode cX5_hexValue 37 = .ok (.iconst (-1), 1) := by decide +kernel
theorem dX5_hexValue_38 : decode cX5_hexValue 38 = .ok (.ireturn, 1) := by decide +kernel
theorem dX6_init_0 : decode cX6_init 0 = .ok (.aload_n 0, 1) := by decide +kernel
theorem dX6_init_1 : decode cX6_init 1 = .ok (.invokespecial 1, 3) := by decide +kernel
theorem dX6_init_4 : decode cX6_init 4 = .ok (.aload_n 0, 1) := by decide +kernel
theorem dX6_init_5 : decode cX6_init 5 = .ok (.new 7, 3) := by decide +kernel
theorem dX6_init_8 : decode cX6_init 8 = .ok (.dup, 1) := by decide +kernel
theorem dX6_init_9 : decode cX6_init 9 = .ok (.invokespecial 9, 3) := by decide +kernel
theorem dX6_init_12 : decode cX6_init 12 = .ok (.putfield 10, 3) := by decide +kernel
theorem dX6_init_15 : decode cX6_init 15 = .ok (.aload_n 0, 1) := by decide +kernel
theorem dX6_init_16 : decode cX6_init 16 = .ok (.new 7, 3) := by decide +kernel
theorem dX6_init_19 : decode cX6_init 19 = .ok (.dup, 1) := by decide +kernel
theorem dX6_init_20 : decode cX6_init 20 = .ok (.invokespecial 9, 3) := by decide +kernel
theorem dX6_init_23 : decode cX6_init 23 = .ok (.putfield 16, 3) := by decide +kernel
theorem dX6_init_26 : decode cX6_init 26 = .ok (.aload_n 0, 1) := by decide +kernel
theorem dX6_init_27 : decode cX6_init 27 = .ok (.new 7, 3) := by decide +kernel
theorem dX6_init_30 : decode cX6_init 30 = .ok (.dup, 1) := by decide +kernel
theorem dX6_init_31 : decode cX6_init 31 = .ok (.invokespecial 9, 3) := by decide +kernel
theorem dX6_init_34 : decode cX6_init 34 = .ok (.putfield 19, 3) := by decide +kernel
theorem dX6_init_37 : decode cX6_init 37 = .ok (.aload_n 0, 1) := by decide +kernel
theorem dX6_init_38 : decode cX6_init 38 = .ok (.iconst 0, 1) := by decide +kernel
theorem dX6_init_39 : decode cX6_init 39 = .ok (.putfield 22, 3) := by decide +kernel
theorem dX6_init_42 : decode cX6_init 42 = .ok (.aload_n 0, 1) := by decide +kernel
theorem dX6_init_43 : decode cX6_init 43 = .ok (.new 26, 3) := by decide +kernel
theorem dX6_init_46 : decode cX6_init 46 = .ok (.dup, 1) := by decide +kernel
theorem dX6_init_47 : decode cX6_init 47 = .ok (.invokespecial 28, 3) := by decide +kernel
theorem dX6_init_50 : decode cX6_init 50 = .ok (.putfield 29, 3) := by decide +kernel
theorem dX6_init_53 : decode cX6_init 53 = .ok (.aload_n 0, 1) := by decide +kernel
theorem dX6_init_54 : decode cX6_init 54 = .ok (.new 33, 3) := by decide +kernel
theorem dX6_init_57 : decode cX6_init 57 = .ok (.dup, 1) := by decide +kernel
theorem dX6_init_58 : decode cX6_init 58 = .ok (.invokespecial 35, 3) := by decide +kernel
theorem dX6_init_61 : decode cX6_init 61 = .ok (.putfield 36, 3) := by decide +kernel
theorem dX6_init_64 : decode cX6_init 64 = .ok (.return_, 1) := by decide +kernel
theorem dX6_add_0 : decode cX6_add 0 = .ok (.iload_n 1, 1) := by decide +kernel
theorem dX6_add_1 : decode cX6_add 1 = .ok (.iconst 2, 1) := by decide +kernel
theorem dX6_add_2 : decode cX6_add 2 = .ok (.bipush 6, 2) := by decide +kernel
theorem dX6_add_4 : decode cX6_add 4 = .ok (.invokestatic 40, 3) := by decide +kernel
theorem dX6_add_7 : decode cX6_add 7 = .ok (.ifCond .eq 20, 3) := by decide +kernel
theorem dX6_add_10 : decode cX6_add 10 = .ok (.iload_n 2, 1) := by decide +kernel
theorem dX6_add_11 : decode cX6_add 11 = .ok (.invokestatic 44, 3) := by decide +kernel
theorem dX6_add_14 : decode cX6_add 14 = .ok (.ifCond .eq 13, 3) := by decide +kernel
theorem dX6_add_17 : decode cX6_add 17 = .ok (.iload_n 3, 1) := by decide +kernel
theorem dX6_add_18 : decode cX6_add 18 = .ok (.iconst 1, 1) := by decide +kernel
theorem dX6_add_19 : decode cX6_add 19 = .ok (.bipush 8, 2) := by decide +kernel
theorem dX6_add_21 : decode cX6_add 21 = .ok (.invokestatic 40, 3) := by decide +kernel
theorem dX6_add_24 : decode cX6_add 24 = .ok (.ifCond .ne 6, 3) := by decide +kernel
theorem dX6_add_27 : decode cX6_add 27 = .ok (.bipush (-2), 2) := by decide +kernel
theorem dX6_add_29 : decode cX6_add 29 = .ok (.ireturn, 1) := by decide +kernel
theorem dX6_add_30 : decode cX6_add 30 = .ok (.aload_n 0, 1) := by decide +kernel
theorem dX6_add_31 : decode cX6_add 31 = .ok (.getfield 10, 3) := by decide +kernel
theorem dX6_add_34 : decode cX6_add 34 = .ok (.getfield 48, 3) := by decide +kernel
theorem dX6_add_37 : decode cX6_add 37 = .ok (.bipush 6, 2) := by decide +kernel
theorem dX6_add_39 : decode cX6_add 39 = .ok (.if_icmp .lt 6, 3) := by decide +kernel
theorem dX6_add_42 : decode cX6_add 42 = .ok (.bipush (-3), 2) := by decide +kernel
theorem dX6_add_44 : decode cX6_add 44 = .ok (.ireturn, 1) := by decide +kernel
theorem dX6_add_45 : decode cX6_add 45 = .ok (.aload_n 0, 1) := by decide +kernel
theorem dX6_add_46 : decode cX6_add 46 = .ok (.getfield 29, 3) := by decide +kernel
theorem dX6_add_49 : decode cX6_add 49 = .ok (.aload_n 0, 1) := by decide +kernel
theorem dX6_add_50 : decode cX6_add 50 = .ok (.getfield 10, 3) := by decide +kernel
theorem dX6_add_53 : decode cX6_add 53 = .ok (.invokevirtual 52, 3) := by decide +kernel
theorem dX6_add_56 : decode cX6_add 56 = .ok (.aload_n 0, 1) := by decide +kernel
theorem dX6_add_57 : decode cX6_add 57 = .ok (.getfield 10, 3) := by decide +kernel
theorem dX6_add_60 : decode cX6_add 60 = .ok (.iload_n 1, 1) := by decide +kernel
theorem dX6_add_61 : decode cX6_add 61 = .ok (.iload_n 2, 1) := by decide +kernel
theorem dX6_add_62 : decode cX6_add 62 = .ok (.iload_n 3, 1) := by decide +kernel
theorem dX6_add_63 : decode cX6_add 63 = .ok (.invokevirtual 56, 3) := by decide +kernel
theorem dX6_add_66 : decode cX6_add 66 = .ok (.ireturn, 1) := by decide +kernel
theorem dX6_take_0 : decode cX6_take 0 = .ok (.aload_n 0, 1) := by decide +kernel
theorem dX6_take_1 : decode cX6_take 1 = .ok (.getfield 10, 3) := by decide +kernel
theorem dX6_take_4 : decode cX6_take 4 = .ok (.iload_n 1, 1) := by decide +kernel
theorem dX6_take_5 : decode cX6_take 5 = .ok (.invokevirtual 60, 3) := by decide +kernel
theorem dX6_take_8 : decode cX6_take 8 = .ok (.ifCond .ne 5, 3) := by decide +kernel
theorem dX6_take_11 : decode cX6_take 11 = .ok (.iconst (-1), 1) := by decide +kernel
theorem dX6_take_12 : decode cX6_take 12 = .ok (.ireturn, 1) := by decide +kernel
theorem dX6_take_13 : decode cX6_take 13 = .ok (.aload_n 0, 1) := by decide +kernel
theorem dX6_take_14 : decode cX6_take 14 = .ok (.getfield 29, 3) := by decide +kernel
theorem dX6_take_17 : decode cX6_take 17 = .ok (.aload_n 0, 1) := by decide +kernel
theorem dX6_take_18 : decode cX6_take 18 = .ok (.getfield 10, 3) := by decide +kernel
theorem dX6_take_21 : decode cX6_take 21 = .ok (.invokevirtual 52, 3) := by decide +kernel
theorem dX6_take_24 : decode cX6_take 24 = .ok (.aload_n 0, 1) := by decide +kernel
theorem dX6_take_25 : decode cX6_take 25 = .ok (.getfield 10, 3) := by decide +kernel
theorem dX6_take_28 : decode cX6_take 28 = .ok (.iload_n 1, 1) := by decide +kernel
theorem dX6_take_29 : decode cX6_take 29 = .ok (.invokevirtual 63, 3) := by decide +kernel
theorem dX6_take_32 : decode cX6_take 32 = .ok (.ireturn, 1) := by decide +kernel
theorem dX6_setPins_0 : decode cX6_setPins 0 = .ok (.aload_n 0, 1) := by decide +kernel
theorem dX6_setPins_1 : decode cX6_setPins 1 = .ok (.getfield 10, 3) := by decide +kernel
theorem dX6_setPins_4 : decode cX6_setPins 4 = .ok (.iload_n 1, 1) := by decide +kernel
theorem dX6_setPins_5 : decode cX6_setPins 5 = .ok (.invokevirtual 60, 3) := by decide +kernel
theorem dX6_setPins_8 : decode cX6_setPins 8 = .ok (.ifCond .ne 5, 3) := by decide +kernel
theorem dX6_setPins_11 : decode cX6_setPins 11 = .ok (.iconst (-1), 1) := by decide +kernel
theorem dX6_setPins_12 : decode cX6_setPins 12 = .ok (.ireturn, 1) := by decide +kernel
theorem dX6_setPins_13 : decode cX6_setPins 13 = .ok (.iload_n 2, 1) := by decide +kernel
theorem dX6_setPins_14 : decode cX6_setPins 14 = .ok (.iconst 0, 1) := by decide +kernel
theorem dX6_setPins_15 : decode cX6_setPins 15 = .ok (.sipush 255, 3) := by decide +kernel
theorem dX6_setPins_18 : decode cX6_setPins 18 = .ok (.invokestatic 40, 3) := by decide +kernel
theorem dX6_setPins_21 : decode cX6_setPins 21 = .ok (.ifCond .ne 6, 3) := by decide +kernel
theorem dX6_setPins_24 : decode cX6_setPins 24 = .ok (.bipush (-2), 2) := by decide +kernel
theorem dX6_setPins_26 : decode cX6_setPins 26 = .ok (.ireturn, 1) := by decide +kernel
theorem dX6_setPins_27 : decode cX6_setPins 27 = .ok (.aload_n 0, 1) := by decide +kernel
theorem dX6_setPins_28 : decode cX6_setPins 28 = .ok (.getfield 29, 3) := by decide +kernel
theorem dX6_setPins_31 : decode cX6_setPins 31 = .ok (.aload_n 0, 1) := by decide +kernel
theorem dX6_setPins_32 : decode cX6_setPins 32 = .ok (.getfield 10, 3) := by decide +kernel
theorem dX6_setPins_35 : decode cX6_setPins 35 = .ok (.invokevirtual 52, 3) := by decide +kernel
theorem dX6_setPins_38 : decode cX6_setPins 38 = .ok (.aload_n 0, 1) := by decide +kernel
theorem dX6_setPins_39 : decode cX6_setPins 39 = .ok (.getfield 10, 3) := by decide +kernel
theorem dX6_setPins_42 : decode cX6_setPins 42 = .ok (.getfield 67, 3) := by decide +kernel
theorem dX6_setPins_45 : decode cX6_setPins 45 = .ok (.iload_n 1, 1) := by decide +kernel
theorem dX6_setPins_46 : decode cX6_setPins 46 = .ok (.aaload, 1) := by decide +kernel
theorem dX6_setPins_47 : decode cX6_setPins 47 = .ok (.iload_n 2, 1) := by decide +kernel
theorem dX6_setPins_48 : decode cX6_setPins 48 = .ok (.invokevirtual 71, 3) := by decide +kernel
theorem dX6_setPins_51 : decode cX6_setPins 51 = .ok (.ireturn, 1) := by decide +kernel
theorem dX6_breakChip_0 : decode cX6_breakChip 0 = .ok (.aload_n 0, 1) := by decide +kernel
theorem dX6_breakChip_1 : decode cX6_breakChip 1 = .ok (.getfield 10, 3) := by decide +kernel
theorem dX6_breakChip_4 : decode cX6_breakChip 4 = .ok (.iload_n 1, 1) := by decide +kernel
theorem dX6_breakChip_5 : decode cX6_breakChip 5 = .ok (.invokevirtual 60, 3) := by decide +kernel
theorem dX6_breakChip_8 : decode cX6_breakChip 8 = .ok (.ifCond .ne 5, 3) := by decide +kernel
theorem dX6_breakChip_11 : decode cX6_breakChip 11 = .ok (.iconst (-1), 1) := by decide +kernel
theorem dX6_breakChip_12 : decode cX6_breakChip 12 = .ok (.ireturn, 1) := by decide +kernel
theorem dX6_breakChip_13 : decode cX6_breakChip 13 = .ok (.aload_n 0, 1) := by decide +kernel
theorem dX6_breakChip_14 : decode cX6_breakChip 14 = .ok (.getfield 29, 3) := by decide +kernel
theorem dX6_breakChip_17 : decode cX6_breakChip 17 = .ok (.aload_n 0, 1) := by decide +kernel
theorem dX6_breakChip_18 : decode cX6_breakChip 18 = .ok (.getfield 10, 3) := by decide +kernel
theorem dX6_breakChip_21 : decode cX6_breakChip 21 = .ok (.invokevirtual 52, 3) := by decide +kernel
theorem dX6_breakChip_24 : decode cX6_breakChip 24 = .ok (.aload_n 0, 1) := by decide +kernel
theorem dX6_breakChip_25 : decode cX6_breakChip 25 = .ok (.getfield 10, 3) := by decide +kernel
theorem dX6_breakChip_28 : decode cX6_breakChip 28 = .ok (.getfield 67, 3) := by decide +kernel
theorem dX6_breakChip_31 : decode cX6_breakChip 31 = .ok (.iload_n 1, 1) := by decide +kernel
theorem dX6_breakChip_32 : decode cX6_breakChip 32 = .ok (.aaload, 1) := by decide +kernel
theorem dX6_breakChip_33 : decode cX6_breakChip 33 = .ok (.iload_n 2, 1) := by decide +kernel
theorem dX6_breakChip_34 : decode cX6_breakChip 34 = .ok (.putfield 76, 3) := by decide +kernel
theorem dX6_breakChip_37 : decode cX6_breakChip 37 = .ok (.aload_n 0, 1) := by decide +kernel
theorem dX6_breakChip_38 : decode cX6_breakChip 38 = .ok (.getfield 10, 3) := by decide +kernel
theorem dX6_breakChip_41 : decode cX6_breakChip 41 = .ok (.invokevirtual 79, 3) := by decide +kernel
theorem dX6_breakChip_44 : decode cX6_breakChip 44 = .ok (.ireturn, 1) := by decide +kernel
theorem dX6_clock_0 : decode cX6_clock 0 = .ok (.iload_n 1, 1) := by decide +kernel
theorem dX6_clock_1 : decode cX6_clock 1 = .ok (.iconst 0, 1) := by decide +kernel
theorem dX6_clock_2 : decode cX6_clock 2 = .ok (.iconst 1, 1) := by decide +kernel
theorem dX6_clock_3 : decode cX6_clock 3 = .ok (.invokestatic 40, 3) := by decide +kernel
theorem dX6_clock_6 : decode cX6_clock 6 = .ok (.ifCond .eq 12, 3) := by decide +kernel
theorem dX6_clock_9 : decode cX6_clock 9 = .ok (.iload_n 2, 1) := by decide +kernel
theorem dX6_clock_10 : decode cX6_clock 10 = .ok (.iconst 0, 1) := by decide +kernel
theorem dX6_clock_11 : decode cX6_clock 11 = .ok (.iconst 1, 1) := by decide +kernel
theorem dX6_clock_12 : decode cX6_clock 12 = .ok (.invokestatic 40, 3) := by decide +kernel
theorem dX6_clock_15 : decode cX6_clock 15 = .ok (.ifCond .ne 6, 3) := by decide +kernel
theorem dX6_clock_18 : decode cX6_clock 18 = .ok (.bipush (-2), 2) := by decide +kernel
theorem dX6_clock_20 : decode cX6_clock 20 = .ok (.ireturn, 1) := by decide +kernel
theorem dX6_clock_21 : decode cX6_clock 21 = .ok (.aload_n 0, 1) := by decide +kernel
theorem dX6_clock_22 : decode cX6_clock 22 = .ok (.getfield 29, 3) := by decide +kernel
theorem dX6_clock_25 : decode cX6_clock 25 = .ok (.aload_n 0, 1) := by decide +kernel
theorem dX6_clock_26 : decode cX6_clock 26 = .ok (.getfield 10, 3) := by decide +kernel
theorem dX6_clock_29 : decode cX6_clock 29 = .ok (.invokevirtual 52, 3) := by decide +kernel
theorem dX6_clock_32 : decode cX6_clock 32 = .ok (.aload_n 0, 1) := by decide +kernel
theorem dX6_clock_33 : decode cX6_clock 33 = .ok (.getfield 10, 3) := by decide +kernel
theorem dX6_clock_36 : decode cX6_clock 36 = .ok (.iload_n 1, 1) := by decide +kernel
theorem dX6_clock_37 : decode cX6_clock 37 = .ok (.iload_n 2, 1) := by decide +kernel
theorem dX6_clock_38 : decode cX6_clock 38 = .ok (.invokevirtual 83, 3) := by decide +kernel
theorem dX6_clock_41 : decode cX6_clock 41 = .ok (.ireturn, 1) := by decide +kernel
theorem dX6_move_0 : decode cX6_move 0 = .ok (.iload_n 1, 1) := by decide +kernel
theorem dX6_move_1 : decode cX6_move 1 = .ok (.invokestatic 87, 3) := by decide +kernel
theorem dX6_move_4 : decode cX6_move 4 = .ok (.ifCond .ne 6, 3) := by decide +kernel
theorem dX6_move_7 : decode cX6_move 7 = .ok (.bipush (-2), 2) := by decide +kernel
theorem dX6_move_9 : decode cX6_move 9 = .ok (.ireturn, 1) := by decide +kernel
theorem dX6_move_10 : decode cX6_move 10 = .ok (.aload_n 0, 1) := by decide +kernel
theorem dX6_move_11 : decode cX6_move 11 = .ok (.getfield 29, 3) := by decide +kernel
theorem dX6_move_14 : decode cX6_move 14 = .ok (.aload_n 0, 1) := by decide +kernel
theorem dX6_move_15 : decode cX6_move 15 = .ok (.getfield 10, 3) := by decide +kernel
theorem dX6_move_18 : decode cX6_move 18 = .ok (.invokevirtual 52, 3) := by decide +kernel
theorem dX6_move_21 : decode cX6_move 21 = .ok (.aload_n 0, 1) := by decide +kernel
theorem dX6_move_22 : decode cX6_move 22 = .ok (.getfield 10, 3) := by decide +kernel
theorem dX6_move_25 : decode cX6_move 25 = .ok (.iload_n 1, 1) := by decide +kernel
theorem dX6_move_26 : decode cX6_move 26 = .ok (.invokestatic 92, 3) := by decide +kernel
theorem dX6_move_29 : decode cX6_move 29 = .ok (.ireturn, 1) := by decide +kernel
theorem dX6_identify_0 : decode cX6_identify 0 = .ok (.aload_n 0, 1) := by decide +kernel
theorem dX6_identify_1 : decode cX6_identify 1 = .ok (.getfield 29, 3) := by decide +kernel
theorem dX6_identify_4 : decode cX6_identify 4 = .ok (.aload_n 0, 1) := by decide +kernel
theorem dX6_identify_5 : decode cX6_identify 5 = .ok (.getfield 10, 3) := by decide +kernel
theorem dX6_identify_8 : decode cX6_identify 8 = .ok (.invokevirtual 52, 3) := by decide +kernel
theorem dX6_identify_11 : decode cX6_identify 11 = .ok (.aload_n 0, 1) := by decide +kernel
theorem dX6_identify_12 : decode cX6_identify 12 = .ok (.getfield 10, 3) := by decide +kernel
theorem dX6_identify_15 : decode cX6_identify 15 = .ok (.invokestatic 98, 3) := by decide +kernel
theorem dX6_identify_18 : decode cX6_identify 18 = .ok (.ireturn, 1) := by decide +kernel
theorem dX6_load_0 : decode cX6_load 0 = .ok (.aload_n 0, 1) := by decide +kernel
theorem dX6_load_1 : decode cX6_load 1 = .ok (.getfield 10, 3) := by decide +kernel
theorem dX6_load_4 : decode cX6_load 4 = .ok (.iload_n 1, 1) := by decide +kernel
theorem dX6_load_5 : decode cX6_load 5 = .ok (.invokevirtual 60, 3) := by decide +kernel
theorem dX6_load_8 : decode cX6_load 8 = .ok (.ifCond .ne 5, 3) := by decide +kernel
theorem dX6_load_11 : decode cX6_load 11 = .ok (.iconst (-1), 1) := by decide +kernel
theorem dX6_load_12 : decode cX6_load 12 = .ok (.ireturn, 1) := by decide +kernel
theorem dX6_load_13 : decode cX6_load 13 = .ok (.iload_n 2, 1) := by decide +kernel
theorem dX6_load_14 : decode cX6_load 14 = .ok (.iconst 0, 1) := by decide +kernel
theorem dX6_load_15 : decode cX6_load 15 = .ok (.bipush 63, 2) := by decide +kernel
theorem dX6_load_17 : decode cX6_load 17 = .ok (.invokestatic 40, 3) := by decide +kernel
theorem dX6_load_20 : decode cX6_load 20 = .ok (.ifCond .ne 6, 3) := by decide +kernel
theorem dX6_load_23 : decode cX6_load 23 = .ok (.bipush (-2), 2) := by decide +kernel
theorem dX6_load_25 : decode cX6_load 25 = .ok (.ireturn, 1) := by decide +kernel
theorem dX6_load_26 : decode cX6_load 26 = .ok (.aload_n 0, 1) := by decide +kernel
theorem dX6_load_27 : decode cX6_load 27 = .ok (.getfield 29, 3) := by decide +kernel
theorem dX6_load_30 : decode cX6_load 30 = .ok (.aload_n 0, 1) := by decide +kernel
theorem dX6_load_31 : decode cX6_load 31 = .ok (.getfield 10, 3) := by decide +kernel
theorem dX6_load_34 : decode cX6_load 34 = .ok (.invokevirtual 52, 3) := by decide +kernel
theorem dX6_load_37 : decode cX6_load 37 = .ok (.aload_n 0, 1) := by decide +kernel
theorem dX6_load_38 : decode cX6_load 38 = .ok (.getfield 10, 3) := by decide +kernel
theorem dX6_load_41 : decode cX6_load 41 = .ok (.iload_n 1, 1) := by decide +kernel
theorem dX6_load_42 : decode cX6_load 42 = .ok (.iload_n 2, 1) := by decide +kernel
theorem dX6_load_43 : decode cX6_load 43 = .ok (.invokestatic 102, 3) := by decide +kernel
theorem dX6_load_46 : decode cX6_load 46 = .ok (.aload_n 0, 1) := by decide +kernel
theorem dX6_load_47 : decode cX6_load 47 = .ok (.getfield 10, 3) := by decide +kernel
theorem dX6_load_50 : decode cX6_load 50 = .ok (.getfield 67, 3) := by decide +kernel
theorem dX6_load_53 : decode cX6_load 53 = .ok (.iload_n 1, 1) := by decide +kernel
theorem dX6_load_54 : decode cX6_load 54 = .ok (.aaload, 1) := by decide +kernel
theorem dX6_load_55 : decode cX6_load 55 = .ok (.invokevirtual 106, 3) := by decide +kernel
theorem dX6_load_58 : decode cX6_load 58 = .ok (.ireturn, 1) := by decide +kernel
theorem dX6_exchange_0 : decode cX6_exchange 0 = .ok (.aload_n 0, 1) := by decide +kernel
theorem dX6_exchange_1 : decode cX6_exchange 1 = .ok (.iload_n 1, 1) := by decide +kernel
theorem dX6_exchange_2 : decode cX6_exchange 2 = .ok (.iload_n 2, 1) := by decide +kernel
theorem dX6_exchange_3 : decode cX6_exchange 3 = .ok (.invokevirtual 109, 3) := by decide +kernel
theorem dX6_exchange_6 : decode cX6_exchange 6 = .ok (.istore_n 3, 1) := by decide +kernel
theorem dX6_exchange_7 : decode cX6_exchange 7 = .ok (.iload_n 3, 1) := by decide +kernel
theorem dX6_exchange_8 : decode cX6_exchange 8 = .ok (.ifCond .eq 5, 3) := by decide +kernel
theorem dX6_exchange_11 : decode cX6_exchange 11 = .ok (.iload_n 3, 1) := by decide +kernel
theorem dX6_exchange_12 : decode cX6_exchange 12 = .ok (.ireturn, 1) := by decide +kernel
theorem dX6_exchange_13 : decode cX6_exchange 13 = .ok (.aload_n 0, 1) := by decide +kernel
theorem dX6_exchange_14 : decode cX6_exchange 14 = .ok (.getfield 29, 3) := by decide +kernel
theorem dX6_exchange_17 : decode cX6_exchange 17 = .ok (.aload_n 0, 1) := by decide +kernel
theorem dX6_exchange_18 : decode cX6_exchange 18 = .ok (.getfield 10, 3) := by decide +kernel
theorem dX6_exchange_21 : decode cX6_exchange 21 = .ok (.invokevirtual 52, 3) := by decide +kernel
theorem dX6_exchange_24 : decode cX6_exchange 24 = .ok (.aload_n 0, 1) := by decide +kernel
theorem dX6_exchange_25 : decode cX6_exchange 25 = .ok (.getfield 10, 3) := by decide +kernel
theorem dX6_exchange_28 : decode cX6_exchange 28 = .ok (.iload_n 1, 1) := by decide +kernel
theorem dX6_exchange_29 : decode cX6_exchange 29 = .ok (.iload_n 2, 1) := by decide +kernel
theorem dX6_exchange_30 : decode cX6_exchange 30 = .ok (.invokestatic 112, 3) := by decide +kernel
theorem dX6_exchange_33 : decode cX6_exchange 33 = .ok (.ireturn, 1) := by decide +kernel
theorem dX6_append_0 : decode cX6_append 0 = .ok (.iload_n 1, 1) := by decide +kernel
theorem dX6_append_1 : decode cX6_append 1 = .ok (.bipush 32, 2) := by decide +kernel
theorem dX6_append_3 : decode cX6_append 3 = .ok (.bipush 126, 2) := by decide +kernel
theorem dX6_append_5 : decode cX6_append 5 = .ok (.invokestatic 40, 3) := by decide +kernel
theorem dX6_append_8 : decode cX6_append 8 = .ok (.ifCond .ne 6, 3) := by decide +kernel
theorem dX6_append_11 : decode cX6_append 11 = .ok (.bipush (-2), 2) := by decide +kernel
theorem dX6_append_13 : decode cX6_append 13 = .ok (.ireturn, 1) := by decide +kernel
theorem dX6_append_14 : decode cX6_append 14 = .ok (.aload_n 0, 1) := by decide +kernel
theorem dX6_append_15 : decode cX6_append 15 = .ok (.getfield 36, 3) := by decide +kernel
theorem dX6_append_18 : decode cX6_append 18 = .ok (.getfield 116, 3) := by decide +kernel
theorem dX6_append_21 : decode cX6_append 21 = .ok (.bipush 80, 2) := by decide +kernel
theorem dX6_append_23 : decode cX6_append 23 = .ok (.if_icmp .lt 6, 3) := by decide +kernel
theorem dX6_append_26 : decode cX6_append 26 = .ok (.bipush (-3), 2) := by decide +kernel
theorem dX6_append_28 : decode cX6_append 28 = .ok (.ireturn, 1) := by decide +kernel
theorem dX6_append_29 : decode cX6_append 29 = .ok (.aload_n 0, 1) := by decide +kernel
theorem dX6_append_30 : decode cX6_append 30 = .ok (.getfield 36, 3) := by decide +kernel
theorem dX6_append_33 : decode cX6_append 33 = .ok (.iload_n 1, 1) := by decide +kernel
theorem dX6_append_34 : decode cX6_append 34 = .ok (.invokevirtual 119, 3) := by decide +kernel
theorem dX6_append_37 : decode cX6_append 37 = .ok (.ireturn, 1) := by decide +kernel
theorem dX6_clearText_0 : decode cX6_clearText 0 = .ok (.aload_n 0, 1) := by decide +kernel
theorem dX6_clearText_1 : decode cX6_clearText 1 = .ok (.getfield 36, 3) := by decide +kernel
theorem dX6_clearText_4 : decode cX6_clearText 4 = .ok (.invokevirtual 122, 3) := by decide +kernel
theorem dX6_clearText_7 : decode cX6_clearText 7 = .ok (.ireturn, 1) := by decide +kernel
theorem dX6_fault_0 : decode cX6_fault 0 = .ok (.aload_n 0, 1) := by decide +kernel
theorem dX6_fault_1 : decode cX6_fault 1 = .ok (.getfield 36, 3) := by decide +kernel
theorem dX6_fault_4 : decode cX6_fault 4 = .ok (.invokevirtual 125, 3) := by decide +kernel
theorem dX6_fault_7 : decode cX6_fault 7 = .ok (.ireturn, 1) := by decide +kernel
theorem dX6_run_0 : decode cX6_run 0 = .ok (.aload_n 0, 1) := by decide +kernel
theorem dX6_run_1 : decode cX6_run 1 = .ok (.getfield 36, 3) := by decide +kernel
theorem dX6_run_4 : decode cX6_run 4 = .ok (.invokevirtual 125, 3) := by decide +kernel
theorem dX6_run_7 : decode cX6_run 7 = .ok (.istore_n 1, 1) := by decide +kernel
theorem dX6_run_8 : decode cX6_run 8 = .ok (.iload_n 1, 1) := by decide +kernel
theorem dX6_run_9 : decode cX6_run 9 = .ok (.bipush (-4), 2) := by decide +kernel
theorem dX6_run_11 : decode cX6_run 11 = .ok (.if_icmp .eq 8, 3) := by decide +kernel
theorem dX6_run_14 : decode cX6_run 14 = .ok (.bipush (-100), 2) := by decide +kernel
theorem dX6_run_16 : decode cX6_run 16 = .ok (.iload_n 1, 1) := by decide +kernel
theorem dX6_run_17 : decode cX6_run 17 = .ok (.isub, 1) := by decide +kernel
theorem dX6_run_18 : decode cX6_run 18 = .ok (.ireturn, 1) := by decide +kernel
theorem dX6_run_19 : decode cX6_run 19 = .ok (.aload_n 0, 1) := by decide +kernel
theorem dX6_run_20 : decode cX6_run 20 = .ok (.getfield 29, 3) := by decide +kernel
theorem dX6_run_23 : decode cX6_run 23 = .ok (.aload_n 0, 1) := by decide +kernel
theorem dX6_run_24 : decode cX6_run 24 = .ok (.getfield 10, 3) := by decide +kernel
theorem dX6_run_27 : decode cX6_run 27 = .ok (.invokevirtual 52, 3) := by decide +kernel
theorem dX6_run_30 : decode cX6_run 30 = .ok (.aload_n 0, 1) := by decide +kernel
theorem dX6_run_31 : decode cX6_run 31 = .ok (.getfield 10, 3) := by decide +kernel
theorem dX6_run_34 : decode cX6_run 34 = .ok (.aload_n 0, 1) := by decide +kernel
theorem dX6_run_35 : decode cX6_run 35 = .ok (.getfield 36, 3) := by decide +kernel
theorem dX6_run_38 : decode cX6_run 38 = .ok (.invokestatic 128, 3) := by decide +kernel
theorem dX6_run_41 : decode cX6_run 41 = .ok (.ireturn, 1) := by decide +kernel
theorem dX6_undo_0 : decode cX6_undo 0 = .ok (.aload_n 0, 1) := by decide +kernel
theorem dX6_undo_1 : decode cX6_undo 1 = .ok (.getfield 29, 3) := by decide +kernel
theorem dX6_undo_4 : decode cX6_undo 4 = .ok (.aload_n 0, 1) := by decide +kernel
theorem dX6_undo_5 : decode cX6_undo 5 = .ok (.getfield 10, 3) := by decide +kernel
theorem dX6_undo_8 : decode cX6_undo 8 = .ok (.invokevirtual 132, 3) := by decide +kernel
theorem dX6_undo_11 : decode cX6_undo 11 = .ok (.ireturn, 1) := by decide +kernel
theorem dX6_save_0 : decode cX6_save 0 = .ok (.aload_n 0, 1) := by decide +kernel
theorem dX6_save_1 : decode cX6_save 1 = .ok (.getfield 19, 3) := by decide +kernel
theorem dX6_save_4 : decode cX6_save 4 = .ok (.aload_n 0, 1) := by decide +kernel
theorem dX6_save_5 : decode cX6_save 5 = .ok (.getfield 10, 3) := by decide +kernel
theorem dX6_save_8 : decode cX6_save 8 = .ok (.invokevirtual 135, 3) := by decide +kernel
theorem dX6_save_11 : decode cX6_save 11 = .ok (.aload_n 0, 1) := by decide +kernel
theorem dX6_save_12 : decode cX6_save 12 = .ok (.iconst 1, 1) := by decide +kernel
theorem dX6_save_13 : decode cX6_save 13 = .ok (.putfield 22, 3) := by decide +kernel
theorem dX6_save_16 : decode cX6_save 16 = .ok (.aload_n 0, 1) := by decide +kernel
theorem dX6_save_17 : decode cX6_save 17 = .ok (.getfield 10, 3) := by decide +kernel
theorem dX6_save_20 : decode cX6_save 20 = .ok (.getfield 48, 3) := by decide +kernel
theorem dX6_save_23 : decode cX6_save 23 = .ok (.ireturn, 1) := by decide +kernel
theorem dX6_restore_0 : decode cX6_restore 0 = .ok (.aload_n 0, 1) := by decide +kernel
theorem dX6_restore_1 : decode cX6_restore 1 = .ok (.getfield 22, 3) := by decide +kernel
theorem dX6_restore_4 : decode cX6_restore 4 = .ok (.ifCond .ne 5, 3) := by decide +kernel
theorem dX6_restore_7 : decode cX6_restore 7 = .ok (.iconst (-1), 1) := by decide +kernel
theorem dX6_restore_8 : decode cX6_restore 8 = .ok (.ireturn, 1) := by decide +kernel
theorem dX6_restore_9 : decode cX6_restore 9 = .ok (.aload_n 0, 1) := by decide +kernel
theorem dX6_restore_10 : decode cX6_restore 10 = .ok (.getfield 29, 3) := by decide +kernel
theorem dX6_restore_13 : decode cX6_restore 13 = .ok (.aload_n 0, 1) := by decide +kernel
theorem dX6_restore_14 : decode cX6_restore 14 = .ok (.getfield 10, 3) := by decide +kernel
theorem dX6_restore_17 : decode cX6_restore 17 = .ok (.invokevirtual 52, 3) := by decide +kernel
theorem dX6_restore_20 : decode cX6_restore 20 = .ok (.aload_n 0, 1) := by decide +kernel
theorem dX6_restore_21 : decode cX6_restore 21 = .ok (.getfield 10, 3) := by decide +kernel
theorem dX6_restore_24 : decode cX6_restore 24 = .ok (.aload_n 0, 1) := by decide +kernel
theorem dX6_restore_25 : decode cX6_restore 25 = .ok (.getfield 19, 3) := by decide +kernel
theorem dX6_restore_28 : decode cX6_restore 28 = .ok (.invokevirtual 135, 3) := by decide +kernel
theorem dX6_restore_31 : decode cX6_restore 31 = .ok (.aload_n 0, 1) := by decide +kernel
theorem dX6_restore_32 : decode cX6_restore 32 = .ok (.getfield 10, 3) := by decide +kernel
theorem dX6_restore_35 : decode cX6_restore 35 = .ok (.getfield 48, 3) := by decide +kernel
theorem dX6_restore_38 : decode cX6_restore 38 = .ok (.ireturn, 1) := by decide +kernel
theorem dX6_chip_0 : decode cX6_chip 0 = .ok (.aload_n 0, 1) := by decide +kernel
theorem dX6_chip_1 : decode cX6_chip 1 = .ok (.getfield 10, 3) := by decide +kernel
theorem dX6_chip_4 : decode cX6_chip 4 = .ok (.iload_n 1, 1) := by decide +kernel
theorem dX6_chip_5 : decode cX6_chip 5 = .ok (.invokevirtual 60, 3) := by decide +kernel
theorem dX6_chip_8 : decode cX6_chip 8 = .ok (.ifCond .ne 5, 3) := by decide +kernel
theorem dX6_chip_11 : decode cX6_chip 11 = .ok (.iconst (-1), 1) := by decide +kernel
theorem dX6_chip_12 : decode cX6_chip 12 = .ok (.ireturn, 1) := by decide +kernel
theorem dX6_chip_13 : decode cX6_chip 13 = .ok (.aload_n 0, 1) := by decide +kernel
theorem dX6_chip_14 : decode cX6_chip 14 = .ok (.getfield 10, 3) := by decide +kernel
theorem dX6_chip_17 : decode cX6_chip 17 = .ok (.getfield 67, 3) := by decide +kernel
theorem dX6_chip_20 : decode cX6_chip 20 = .ok (.iload_n 1, 1) := by decide +kernel
theorem dX6_chip_21 : decode cX6_chip 21 = .ok (.aaload, 1) := by decide +kernel
theorem dX6_chip_22 : decode cX6_chip 22 = .ok (.iload_n 2, 1) := by decide +kernel
theorem dX6_chip_23 : decode cX6_chip 23 = .ok (.invokevirtual 138, 3) := by decide +kernel
theorem dX6_chip_26 : decode cX6_chip 26 = .ok (.ireturn, 1) := by decide +kernel
theorem dX6_count_0 : decode cX6_count 0 = .ok (.iload_n 1, 1) := by decide +kernel
theorem dX6_count_1 : decode cX6_count 1 = .ok (.tableswitch 123 0 8 #[51, 59, 67, 75, 83, 91, 99, 107, 115], 51) := by decide +kernel
theorem dX6_count_52 : decode cX6_count 52 = .ok (.aload_n 0, 1) := by decide +kernel
theorem dX6_count_53 : decode cX6_count 53 = .ok (.getfield 10, 3) := by decide +kernel
theorem dX6_count_56 : decode cX6_count 56 = .ok (.getfield 48, 3) := by decide +kernel
theorem dX6_count_59 : decode cX6_count 59 = .ok (.ireturn, 1) := by decide +kernel
theorem dX6_count_60 : decode cX6_count 60 = .ok (.aload_n 0, 1) := by decide +kernel
theorem dX6_count_61 : decode cX6_count 61 = .ok (.getfield 10, 3) := by decide +kernel
theorem dX6_count_64 : decode cX6_count 64 = .ok (.invokevirtual 79, 3) := by decide +kernel
theorem dX6_count_67 : decode cX6_count 67 = .ok (.ireturn, 1) := by decide +kernel
theorem dX6_count_68 : decode cX6_count 68 = .ok (.aload_n 0, 1) := by decide +kernel
theorem dX6_count_69 : decode cX6_count 69 = .ok (.getfield 10, 3) := by decide +kernel
theorem dX6_count_72 : decode cX6_count 72 = .ok (.getfield 141, 3) := by decide +kernel
theorem dX6_count_75 : decode cX6_count 75 = .ok (.ireturn, 1) := by decide +kernel
theorem dX6_count_76 : decode cX6_count 76 = .ok (.aload_n 0, 1) := by decide +kernel
theorem dX6_count_77 : decode cX6_count 77 = .ok (.getfield 10, 3) := by decide +kernel
theorem dX6_count_80 : decode cX6_count 80 = .ok (.getfield 144, 3) := by decide +kernel
theorem dX6_count_83 : decode cX6_count 83 = .ok (.ireturn, 1) := by decide +kernel
theorem dX6_count_84 : decode cX6_count 84 = .ok (.aload_n 0, 1) := by decide +kernel
theorem dX6_count_85 : decode cX6_count 85 = .ok (.getfield 10, 3) := by decide +kernel
theorem dX6_count_88 : decode cX6_count 88 = .ok (.invokevirtual 147, 3) := by decide +kernel
theorem dX6_count_91 : decode cX6_count 91 = .ok (.ireturn, 1) := by decide +kernel
theorem dX6_count_92 : decode cX6_count 92 = .ok (.aload_n 0, 1) := by decide +kernel
theorem dX6_count_93 : decode cX6_count 93 = .ok (.getfield 10, 3) := by decide +kernel
theorem dX6_count_96 : decode cX6_count 96 = .ok (.invokevirtual 150, 3) := by decide +kernel
theorem dX6_count_99 : decode cX6_count 99 = .ok (.ireturn, 1) := by decide +kernel
theorem dX6_count_100 : decode cX6_count 100 = .ok (.aload_n 0, 1) := by decide +kernel
theorem dX6_count_101 : decode cX6_count 101 = .ok (.getfield 10, 3) := by decide +kernel
theorem dX6_count_104 : decode cX6_count 104 = .ok (.getfield 153, 3) := by decide +kernel
theorem dX6_count_107 : decode cX6_count 107 = .ok (.ireturn, 1) := by decide +kernel
theorem dX6_count_108 : decode cX6_count 108 = .ok (.aload_n 0, 1) := by decide +kernel
theorem dX6_count_109 : decode cX6_count 109 = .ok (.getfield 29, 3) := by decide +kernel
theorem dX6_count_112 : decode cX6_count 112 = .ok (.getfield 156, 3) := by decide +kernel
theorem dX6_count_115 : decode cX6_count 115 = .ok (.ireturn, 1) := by decide +kernel
theorem dX6_count_116 : decode cX6_count 116 = .ok (.aload_n 0, 1) := by decide +kernel
theorem dX6_count_117 : decode cX6_count 117 = .ok (.getfield 36, 3) := by decide +kernel
theorem dX6_count_120 : decode cX6_count 120 = .ok (.getfield 116, 3) := by decide +kernel
theorem dX6_count_123 : decode cX6_count 123 = .ok (.ireturn, 1) := by decide +kernel
theorem dX6_count_124 : decode cX6_count 124 = .ok (.bipush (-2), 2) := by decide +kernel
theorem dX6_count_126 : decode cX6_count 126 = .ok (.ireturn, 1) := by decide +kernel
theorem dX6_found_0 : decode cX6_found 0 = .ok (.iload_n 1, 1) := by decide +kernel
theorem dX6_found_1 : decode cX6_found 1 = .ok (.ifCond .ge 6, 3) := by decide +kernel
theorem dX6_found_4 : decode cX6_found 4 = .ok (.bipush (-2), 2) := by decide +kernel
theorem dX6_found_6 : decode cX6_found 6 = .ok (.ireturn, 1) := by decide +kernel
theorem dX6_found_7 : decode cX6_found 7 = .ok (.iload_n 1, 1) := by decide +kernel
theorem dX6_found_8 : decode cX6_found 8 = .ok (.aload_n 0, 1) := by decide +kernel
theorem dX6_found_9 : decode cX6_found 9 = .ok (.getfield 10, 3) := by decide +kernel
theorem dX6_found_12 : decode cX6_found 12 = .ok (.getfield 153, 3) := by decide +kernel
theorem dX6_found_15 : decode cX6_found 15 = .ok (.if_icmp .lt 6, 3) := by decide +kernel
theorem dX6_found_18 : decode cX6_found 18 = .ok (.bipush (-4), 2) := by decide +kernel
theorem dX6_found_20 : decode cX6_found 20 = .ok (.ireturn, 1) := by decide +kernel
theorem dX6_found_21 : decode cX6_found 21 = .ok (.aload_n 0, 1) := by decide +kernel
theorem dX6_found_22 : decode cX6_found 22 = .ok (.getfield 10, 3) := by decide +kernel
theorem dX6_found_25 : decode cX6_found 25 = .ok (.getfield 157, 3) := by decide +kernel
theorem dX6_found_28 : decode cX6_found 28 = .ok (.iload_n 1, 1) := by decide +kernel
theorem dX6_found_29 : decode cX6_found 29 = .ok (.iaload, 1) := by decide +kernel
theorem dX6_found_30 : decode cX6_found 30 = .ok (.ireturn, 1) := by decide +kernel
theorem dX6_distance_0 : decode cX6_distance 0 = .ok (.iload_n 1, 1) := by decide +kernel
theorem dX6_distance_1 : decode cX6_distance 1 = .ok (.invokestatic 87, 3) := by decide +kernel
theorem dX6_distance_4 : decode cX6_distance 4 = .ok (.ifCond .eq 10, 3) := by decide +kernel
theorem dX6_distance_7 : decode cX6_distance 7 = .ok (.iload_n 2, 1) := by decide +kernel
theorem dX6_distance_8 : decode cX6_distance 8 = .ok (.invokestatic 87, 3) := by decide +kernel
theorem dX6_distance_11 : decode cX6_distance 11 = .ok (.ifCond .ne 6, 3) := by decide +kernel
theorem dX6_distance_14 : decode cX6_distance 14 = .ok (.bipush (-2), 2) := by decide +kernel
theorem dX6_distance_16 : decode cX6_distance 16 = .ok (.ireturn, 1) := by decide +kernel
theorem dX6_distance_17 : decode cX6_distance 17 = .ok (.iload_n 1, 1) := by decide +kernel
theorem dX6_distance_18 : decode cX6_distance 18 = .ok (.iload_n 2, 1) := by decide +kernel
theorem dX6_distance_19 : decode cX6_distance 19 = .ok (.invokestatic 161, 3) := by decide +kernel
theorem dX6_distance_22 : decode cX6_distance 22 = .ok (.ireturn, 1) := by decide +kernel
theorem dX6_peek_0 : decode cX6_peek 0 = .ok (.iload_n 1, 1) := by decide +kernel
theorem dX6_peek_1 : decode cX6_peek 1 = .ok (.iconst 0, 1) := by decide +kernel
theorem dX6_peek_2 : decode cX6_peek 2 = .ok (.iconst 1, 1) := by decide +kernel
theorem dX6_peek_3 : decode cX6_peek 3 = .ok (.invokestatic 40, 3) := by decide +kernel
theorem dX6_peek_6 : decode cX6_peek 6 = .ok (.ifCond .ne 6, 3) := by decide +kernel
theorem dX6_peek_9 : decode cX6_peek 9 = .ok (.bipush (-2), 2) := by decide +kernel
theorem dX6_peek_11 : decode cX6_peek 11 = .ok (.ireturn, 1) := by decide +kernel
theorem dX6_peek_12 : decode cX6_peek 12 = .ok (.aload_n 0, 1) := by decide +kernel
theorem dX6_peek_13 : decode cX6_peek 13 = .ok (.getfield 10, 3) := by decide +kernel
theorem dX6_peek_16 : decode cX6_peek 16 = .ok (.iload_n 1, 1) := by decide +kernel
theorem dX6_peek_17 : decode cX6_peek 17 = .ok (.invokevirtual 164, 3) := by decide +kernel
theorem dX6_peek_20 : decode cX6_peek 20 = .ok (.ireturn, 1) := by decide +kernel
theorem dX6_ifIdentified_0 : decode cX6_ifIdentified 0 = .ok (.aload_n 0, 1) := by decide +kernel
theorem dX6_ifIdentified_1 : decode cX6_ifIdentified 1 = .ok (.getfield 16, 3) := by decide +kernel
theorem dX6_ifIdentified_4 : decode cX6_ifIdentified 4 = .ok (.aload_n 0, 1) := by decide +kernel
theorem dX6_ifIdentified_5 : decode cX6_ifIdentified 5 = .ok (.getfield 10, 3) := by decide +kernel
theorem dX6_ifIdentified_8 : decode cX6_ifIdentified 8 = .ok (.invokevirtual 135, 3) := by decide +kernel
theorem dX6_ifIdentified_11 : decode cX6_ifIdentified 11 = .ok (.aload_n 0, 1) := by decide +kernel
theorem dX6_ifIdentified_12 : decode cX6_ifIdentified 12 = .ok (.getfield 16, 3) := by decide +kernel
theorem dX6_ifIdentified_15 : decode cX6_ifIdentified 15 = .ok (.invokestatic 98, 3) := by decide +kernel
theorem dX6_ifIdentified_18 : decode cX6_ifIdentified 18 = .ok (.ireturn, 1) := by decide +kernel
theorem dX6_ifExchanged_0 : decode cX6_ifExchanged 0 = .ok (.aload_n 0, 1) := by decide +kernel
theorem dX6_ifExchanged_1 : decode cX6_ifExchanged 1 = .ok (.iload_n 1, 1) := by decide +kernel
theorem dX6_ifExchanged_2 : decode cX6_ifExchanged 2 = .ok (.iload_n 2, 1) := by decide +kernel
theorem dX6_ifExchanged_3 : decode cX6_ifExchanged 3 = .ok (.invokevirtual 109, 3) := by decide +kernel
theorem dX6_ifExchanged_6 : decode cX6_ifExchanged 6 = .ok (.istore_n 3, 1) := by decide +kernel
theorem dX6_ifExchanged_7 : decode cX6_ifExchanged 7 = .ok (.iload_n 3, 1) := by decide +kernel
theorem dX6_ifExchanged_8 : decode cX6_ifExchanged 8 = .ok (.ifCond .eq 5, 3) := by decide +kernel
theorem dX6_ifExchanged_11 : decode cX6_ifExchanged 11 = .ok (.iload_n 3, 1) := by decide +kernel
theorem dX6_ifExchanged_12 : decode cX6_ifExchanged 12 = .ok (.ireturn, 1) := by decide +kernel
theorem dX6_ifExchanged_13 : decode cX6_ifExchanged 13 = .ok (.aload_n 0, 1) := by decide +kernel
theorem dX6_ifExchanged_14 : decode cX6_ifExchanged 14 = .ok (.getfield 16, 3) := by decide +kernel
theorem dX6_ifExchanged_17 : decode cX6_ifExchanged 17 = .ok (.aload_n 0, 1) := by decide +kernel
theorem dX6_ifExchanged_18 : decode cX6_ifExchanged 18 = .ok (.getfield 10, 3) := by decide +kernel
theorem dX6_ifExchanged_21 : decode cX6_ifExchanged 21 = .ok (.invokevirtual 135, 3) := by decide +kernel
theorem dX6_ifExchanged_24 : decode cX6_ifExchanged 24 = .ok (.aload_n 0, 1) := by decide +kernel
theorem dX6_ifExchanged_25 : decode cX6_ifExchanged 25 = .ok (.getfield 16, 3) := by decide +kernel
theorem dX6_ifExchanged_28 : decode cX6_ifExchanged 28 = .ok (.iload_n 1, 1) := by decide +kernel
theorem dX6_ifExchanged_29 : decode cX6_ifExchanged 29 = .ok (.iload_n 2, 1) := by decide +kernel
theorem dX6_ifExchanged_30 : decode cX6_ifExchanged 30 = .ok (.invokestatic 112, 3) := by decide +kernel
theorem dX6_ifExchanged_33 : decode cX6_ifExchanged 33 = .ok (.ireturn, 1) := by decide +kernel
theorem dX6_bypassed_0 : decode cX6_bypassed 0 = .ok (.aload_n 0, 1) := by decide +kernel
theorem dX6_bypassed_1 : decode cX6_bypassed 1 = .ok (.getfield 10, 3) := by decide +kernel
theorem dX6_bypassed_4 : decode cX6_bypassed 4 = .ok (.getfield 48, 3) := by decide +kernel
theorem dX6_bypassed_7 : decode cX6_bypassed 7 = .ok (.ifCond .gt 5, 3) := by decide +kernel
theorem dX6_bypassed_10 : decode cX6_bypassed 10 = .ok (.fconst 0, 1) := by decide +kernel
theorem dX6_bypassed_11 : decode cX6_bypassed 11 = .ok (.freturn, 1) := by decide +kernel
theorem dX6_bypassed_12 : decode cX6_bypassed 12 = .ok (.aload_n 0, 1) := by decide +kernel
theorem dX6_bypassed_13 : decode cX6_bypassed 13 = .ok (.getfield 10, 3) := by decide +kernel
theorem dX6_bypassed_16 : decode cX6_bypassed 16 = .ok (.invokevirtual 167, 3) := by decide +kernel
theorem dX6_bypassed_19 : decode cX6_bypassed 19 = .ok (.i2f, 1) := by decide +kernel
theorem dX6_bypassed_20 : decode cX6_bypassed 20 = .ok (.aload_n 0, 1) := by decide +kernel
theorem dX6_bypassed_21 : decode cX6_bypassed 21 = .ok (.getfield 10, 3) := by decide +kernel
theorem dX6_bypassed_24 : decode cX6_bypassed 24 = .ok (.getfield 48, 3) := by decide +kernel
theorem dX6_bypassed_27 : decode cX6_bypassed 27 = .ok (.i2f, 1) := by decide +kernel
theorem dX6_bypassed_28 : decode cX6_bypassed 28 = .ok (.fdiv, 1) := by decide +kernel
theorem dX6_bypassed_29 : decode cX6_bypassed 29 = .ok (.freturn, 1) := by decide +kernel
theorem dX6_isWithin_0 : decode cX6_isWithin 0 = .ok (.iload_n 0, 1) := by decide +kernel
theorem dX6_isWithin_1 : decode cX6_isWithin 1 = .ok (.iload_n 1, 1) := by decide +kernel
theorem dX6_isWithin_2 : decode cX6_isWithin 2 = .ok (.if_icmp .lt 12, 3) := by decide +kernel
theorem dX6_isWithin_5 : decode cX6_isWithin 5 = .ok (.iload_n 0, 1) := by decide +kernel
theorem dX6_isWithin_6 : decode cX6_isWithin 6 = .ok (.iload_n 2, 1) := by decide +kernel
theorem dX6_isWithin_7 : decode cX6_isWithin 7 = .ok (.if_icmp .gt 7, 3) := by decide +kernel
theorem dX6_isWithin_10 : decode cX6_isWithin 10 = .ok (.iconst 1, 1) := by decide +kernel
theorem dX6_isWithin_11 : decode cX6_isWithin 11 = .ok (.goto 4, 3) := by decide +kernel
theorem dX6_isWithin_14 : decode cX6_isWithin 14 = .ok (.iconst 0, 1) := by decide +kernel
theorem dX6_isWithin_15 : decode cX6_isWithin 15 = .ok (.ireturn, 1) := by decide +kernel
theorem dX6_isIdentity_0 : decode cX6_isIdentity 0 = .ok (.iload_n 0, 1) := by decide +kernel
theorem dX6_isIdentity_1 : decode cX6_isIdentity 1 = .ok (.ifCond .eq 21, 3) := by decide +kernel
theorem dX6_isIdentity_4 : decode cX6_isIdentity 4 = .ok (.iload_n 0, 1) := by decide +kernel
theorem dX6_isIdentity_5 : decode cX6_isIdentity 5 = .ok (.iconst 1, 1) := by decide +kernel
theorem dX6_isIdentity_6 : decode cX6_isIdentity 6 = .ok (.sipush 253, 3) := by decide +kernel
theorem dX6_isIdentity_9 : decode cX6_isIdentity 9 = .ok (.invokestatic 40, 3) := by decide +kernel
theorem dX6_isIdentity_12 : decode cX6_isIdentity 12 = .ok (.ifCond .eq 14, 3) := by decide +kernel
theorem dX6_isIdentity_15 : decode cX6_isIdentity 15 = .ok (.iload_n 0, 1) := by decide +kernel
theorem dX6_isIdentity_16 : decode cX6_isIdentity 16 = .ok (.iconst 2, 1) := by decide +kernel
theorem dX6_isIdentity_17 : decode cX6_isIdentity 17 = .ok (.irem, 1) := by decide +kernel
theorem dX6_isIdentity_18 : decode cX6_isIdentity 18 = .ok (.iconst 1, 1) := by decide +kernel
theorem dX6_isIdentity_19 : decode cX6_isIdentity 19 = .ok (.if_icmp .ne 7, 3) := by decide +kernel
theorem dX6_isIdentity_22 : decode cX6_isIdentity 22 = .ok (.iconst 1, 1) := by decide +kernel
theorem dX6_isIdentity_23 : decode cX6_isIdentity 23 = .ok (.goto 4, 3) := by decide +kernel
theorem dX6_isIdentity_26 : decode cX6_isIdentity 26 = .ok (.iconst 0, 1) := by decide +kernel
theorem dX6_isIdentity_27 : decode cX6_isIdentity 27 = .ok (.ireturn, 1) := by decide +kernel
theorem dX6_exchangeError_0 : decode cX6_exchangeError 0 = .ok (.aload_n 0, 1) := by decide +kernel
theorem dX6_exchangeError_1 : decode cX6_exchangeError 1 = .ok (.getfield 10, 3) := by decide +kernel
theorem dX6_exchangeError_4 : decode cX6_exchangeError 4 = .ok (.iload_n 1, 1) := by decide +kernel
theorem dX6_exchangeError_5 : decode cX6_exchangeError 5 = .ok (.invokevirtual 60, 3) := by decide +kernel
theorem dX6_exchangeError_8 : decode cX6_exchangeError 8 = .ok (.ifCond .ne 5, 3) := by decide +kernel
theorem dX6_exchangeError_11 : decode cX6_exchangeError 11 = .ok (.iconst (-1), 1) := by decide +kernel
theorem dX6_exchangeError_12 : decode cX6_exchangeError 12 = .ok (.ireturn, 1) := by decide +kernel
theorem dX6_exchangeError_13 : decode cX6_exchangeError 13 = .ok (.iload_n 2, 1) := by decide +kernel
theorem dX6_exchangeError_14 : decode cX6_exchangeError 14 = .ok (.iconst 0, 1) := by decide +kernel
theorem dX6_exchangeError_15 : decode cX6_exchangeError 15 = .ok (.sipush 255, 3) := by decide +kernel
theorem dX6_exchangeError_18 : decode cX6_exchangeError 18 = .ok (.invokestatic 40, 3) := by decide +kernel
theorem dX6_exchangeError_21 : decode cX6_exchangeError 21 = .ok (.ifCond .eq 7, 3) := by decide +kernel
theorem dX6_exchangeError_24 : decode cX6_exchangeError 24 = .ok (.iconst 0, 1) := by decide +kernel
theorem dX6_exchangeError_25 : decode cX6_exchangeError 25 = .ok (.goto 5, 3) := by decide +kernel
theorem dX6_exchangeError_28 : decode cX6_exchangeError 28 = .ok (.bipush (-2), 2) := by decide +kernel
theorem dX6_exchangeError_30 : decode cX6_exchangeError 30 = .ok (.ireturn, 1) := by decide +kernel
theorem dX6_allOnes_0 : decode cX6_allOnes 0 = .ok (.iconst 1, 1) := by decide +kernel
theorem dX6_allOnes_1 : decode cX6_allOnes 1 = .ok (.iload_n 0, 1) := by decide +kernel
theorem dX6_allOnes_2 : decode cX6_allOnes 2 = .ok (.ishl, 1) := by decide +kernel
theorem dX6_allOnes_3 : decode cX6_allOnes 3 = .ok (.iconst 1, 1) := by decide +kernel
theorem dX6_allOnes_4 : decode cX6_allOnes 4 = .ok (.isub, 1) := by decide +kernel
theorem dX6_allOnes_5 : decode cX6_allOnes 5 = .ok (.ireturn, 1) := by decide +kernel
end
section
theorem dX7_init_0 : decode cX7_init 0 = .ok (.aload_n 0, 1) := by decide +kernel
theorem dX7_init_1 : decode cX7_init 1 = .ok (.invokespecial 1, 3) := by decide +kernel
theorem dX7_init_4 : decode cX7_init 4 = .ok (.aload_n 0, 1) := by decide +kernel
theorem dX7_init_5 : decode cX7_init 5 = .ok (.bipush 66, 2) := by decide +kernel
theorem dX7_init_7 : decode cX7_init 7 = .ok (.newarray .int, 2) := by decide +kernel
theorem dX7_init_9 : decode cX7_init 9 = .ok (.putfield 7, 3) := by decide +kernel
theorem dX7_init_12 : decode cX7_init 12 = .ok (.aload_n 0, 1) := by decide +kernel
theorem dX7_init_13 : decode cX7_init 13 = .ok (.bipush 66, 2) := by decide +kernel
theorem dX7_init_15 : decode cX7_init 15 = .ok (.newarray .int, 2) := by decide +kernel
theorem dX7_init_17 : decode cX7_init 17 = .ok (.putfield 13, 3) := by decide +kernel
theorem dX7_init_20 : decode cX7_init 20 = .ok (.aload_n 0, 1) := by decide +kernel
theorem dX7_init_21 : decode cX7_init 21 = .ok (.sipush 264, 3) := by decide +kernel
theorem dX7_init_24 : decode cX7_init 24 = .ok (.newarray .int, 2) := by decide +kernel
theorem dX7_init_26 : decode cX7_init 26 = .ok (.putfield 16, 3) := by decide +kernel
theorem dX7_init_29 : decode cX7_init 29 = .ok (.aload_n 0, 1) := by decide +kernel
theorem dX7_init_30 : decode cX7_init 30 = .ok (.bipush 66, 2) := by decide +kernel
theorem dX7_init_32 : decode cX7_init 32 = .ok (.newarray .int, 2) := by decide +kernel
theorem dX7_init_34 : decode cX7_init 34 = .ok (.putfield 19, 3) := by decide +kernel
theorem dX7_init_37 : decode cX7_init 37 = .ok (.aload_n 0, 1) := by decide +kernel
theorem dX7_init_38 : decode cX7_init 38 = .ok (.bipush 80, 2) := by decide +kernel
theorem dX7_init_40 : decode cX7_init 40 = .ok (.newarray .int, 2) := by decide +kernel
theorem dX7_init_42 : decode cX7_init 42 = .ok (.putfield 22, 3) := by decide +kernel
theorem dX7_init_45 : decode cX7_init 45 = .ok (.aload_n 0, 1) := by decide +kernel
theorem dX7_init_46 : decode cX7_init 46 = .ok (.bipush 16, 2) := by decide +kernel
theorem dX7_init_48 : decode cX7_init 48 = .ok (.newarray .int, 2) := by decide +kernel
theorem dX7_init_50 : decode cX7_init 50 = .ok (.putfield 25, 3) := by decide +kernel
theorem dX7_init_53 : decode cX7_init 53 = .ok (.return_, 1) := by decide +kernel
theorem dX7_in_0 : decode cX7_in 0 = .ok (.iload_n 0, 1) := by decide +kernel
theorem dX7_in_1 : decode cX7_in 1 = .ok (.iload_n 1, 1) := by decide +kernel
theorem dX7_in_2 : decode cX7_in 2 = .ok (.if_icmp .lt 12, 3) := by decide +kernel
theorem dX7_in_5 : decode cX7_in 5 = .ok (.iload_n 0, 1) := by decide +kernel
theorem dX7_in_6 : decode cX7_in 6 = .ok (.iload_n 2, 1) := by decide +kernel
theorem dX7_in_7 : decode cX7_in 7 = .ok (.if_icmp .gt 7, 3) := by decide +kernel
theorem dX7_in_10 : decode cX7_in 10 = .ok (.iconst 1, 1) := by decide +kernel
theorem dX7_in_11 : decode cX7_in 11 = .ok (.goto 4, 3) := by decide +kernel
theorem dX7_in_14 : decode cX7_in 14 = .ok (.iconst 0, 1) := by decide +kernel
theorem dX7_in_15 : decode cX7_in 15 = .ok (.ireturn, 1) := by decide +kernel
theorem dX7_isChip_0 : decode cX7_isChip 0 = .ok (.iload_n 1, 1) := by decide +kernel
theorem dX7_isChip_1 : decode cX7_isChip 1 = .ok (.iconst 0, 1) := by decide +kernel
theorem dX7_isChip_2 : decode cX7_isChip 2 = .ok (.aload_n 0, 1) := by decide +kernel
theorem dX7_isChip_3 : decode cX7_isChip 3 = .ok (.getfield 7, 3) := by decide +kernel
theorem dX7_isChip_6 : decode cX7_isChip 6 = .ok (.iconst 0, 1) := by decide +kernel
theorem dX7_isChip_7 : decode cX7_isChip 7 = .ok (.iaload, 1) := by decide +kernel
theorem dX7_isChip_8 : decode cX7_isChip 8 = .ok (.iconst 1, 1) := by decide +kernel
theorem dX7_isChip_9 : decode cX7_isChip 9 = .ok (.isub, 1) := by decide +kernel
theorem dX7_isChip_10 : decode cX7_isChip 10 = .ok (.invokestatic 28, 3) := by decide +kernel
theorem dX7_isChip_13 : decode cX7_isChip 13 = .ok (.ireturn, 1) := by decide +kernel
theorem dX7_of_0 : decode cX7_of 0 = .ok (.aload_n 0, 1) := by decide +kernel
theorem dX7_of_1 : decode cX7_of 1 = .ok (.getfield 7, 3) := by decide +kernel
theorem dX7_of_4 : decode cX7_of 4 = .ok (.bipush 12, 2) := by decide +kernel
theorem dX7_of_6 : decode cX7_of 6 = .ok (.bipush 9, 2) := by decide +kernel
theorem dX7_of_8 : decode cX7_of 8 = .ok (.iload_n 1, 1) := by decide +kernel
theorem dX7_of_9 : decode cX7_of 9 = .ok (.imul, 1) := by decide +kernel
theorem dX7_of_10 : decode cX7_of 10 = .ok (.iadd, 1) := by decide +kernel
theorem dX7_of_11 : decode cX7_of 11 = .ok (.iload_n 2, 1) := by decide +kernel
theorem dX7_of_12 : decode cX7_of 12 = .ok (.iadd, 1) := by decide +kernel
theorem dX7_of_13 : decode cX7_of 13 = .ok (.iaload, 1) := by decide +kernel
theorem dX7_of_14 : decode cX7_of 14 = .ok (.ireturn, 1) := by decide +kernel
theorem dX7_lay_0 : decode cX7_lay 0 = .ok (.aload_n 0, 1) := by decide +kernel
theorem dX7_lay_1 : decode cX7_lay 1 = .ok (.getfield 7, 3) := by decide +kernel
theorem dX7_lay_4 : decode cX7_lay 4 = .ok (.bipush 12, 2) := by decide +kernel
theorem dX7_lay_6 : decode cX7_lay 6 = .ok (.bipush 9, 2) := by decide +kernel
theorem dX7_lay_8 : decode cX7_lay 8 = .ok (.iload_n 1, 1) := by decide +kernel
theorem dX7_lay_9 : decode cX7_lay 9 = .ok (.imul, 1) := by decide +kernel
theorem dX7_lay_10 : decode cX7_lay 10 = .ok (.iadd, 1) := by decide +kernel
theorem dX7_lay_11 : decode cX7_lay 11 = .ok (.iload_n 2, 1) := by decide +kernel
theorem dX7_lay_12 : decode cX7_lay 12 = .ok (.iadd, 1) := by decide +kernel
theorem dX7_lay_13 : decode cX7_lay 13 = .ok (.iload_n 3, 1) := by decide +kernel
theorem dX7_lay_14 : decode cX7_lay 14 = .ok (.iastore, 1) := by decide +kernel
theorem dX7_lay_15 : decode cX7_lay 15 = .ok (.return_, 1) := by decide +kernel
theorem dX7_ones_0 : decode cX7_ones 0 = .ok (.iconst 1, 1) := by decide +kernel
theorem dX7_ones_1 : decode cX7_ones 1 = .ok (.iload_n 0, 1) := by decide +kernel
theorem dX7_ones_2 : decode cX7_ones 2 = .ok (.ishl, 1) := by decide +kernel
theorem dX7_ones_3 : decode cX7_ones 3 = .ok (.iconst 1, 1) := by decide +kernel
theorem dX7_ones_4 : decode cX7_ones 4 = .ok (.isub, 1) := by decide +kernel
theorem dX7_ones_5 : decode cX7_ones 5 = .ok (.ireturn, 1) := by decide +kernel
theorem dX7_copyRow_0 : decode cX7_copyRow 0 = .ok (.iconst 0, 1) := by decide +kernel
theorem dX7_copyRow_1 : decode cX7_copyRow 1 = .ok (.istore 4, 2) := by decide +kernel
theorem dX7_copyRow_3 : decode cX7_copyRow 3 = .ok (.iload 4, 2) := by decide +kernel
theorem dX7_copyRow_5 : decode cX7_copyRow 5 = .ok (.bipush 66, 2) := by decide +kernel
theorem dX7_copyRow_7 : decode cX7_copyRow 7 = .ok (.if_icmp .ge 21, 3) := by decide +kernel
theorem dX7_copyRow_10 : decode cX7_copyRow 10 = .ok (.aload_n 2, 1) := by decide +kernel
theorem dX7_copyRow_11 : decode cX7_copyRow 11 = .ok (.iload_n 3, 1) := by decide +kernel
theorem dX7_copyRow_12 : decode cX7_copyRow 12 = .ok (.iload 4, 2) := by decide +kernel
theorem dX7_copyRow_14 : decode cX7_copyRow 14 = .ok (.iadd, 1) := by decide +kernel
theorem dX7_copyRow_15 : decode cX7_copyRow 15 = .ok (.aload_n 0, 1) := by decide +kernel
theorem dX7_copyRow_16 : decode cX7_copyRow 16 = .ok (.iload_n 1, 1) := by decide +kernel
theorem dX7_copyRow_17 : decode cX7_copyRow 17 = .ok (.iload 4, 2) := by decide +kernel
theorem dX7_copyRow_19 : decode cX7_copyRow 19 = .ok (.iadd, 1) := by decide +kernel
theorem dX7_copyRow_20 : decode cX7_copyRow 20 = .ok (.iaload, 1) := by decide +kernel
theorem dX7_copyRow_21 : decode cX7_copyRow 21 = .ok (.iastore, 1) := by decide +kernel
theorem dX7_copyRow_22 : decode cX7_copyRow 22 = .ok (.iinc 4 1, 3) := by decide +kernel
theorem dX7_copyRow_25 : decode cX7_copyRow 25 = .ok (.goto (-22), 3) := by decide +kernel
theorem dX7_copyRow_28 : decode cX7_copyRow 28 = .ok (.return_, 1) := by decide +kernel
theorem dX7_record_0 : decode cX7_record 0 = .ok (.aload_n 0, 1) := by decide +kernel
theorem dX7_record_1 : decode cX7_record 1 = .ok (.getfield 32, 3) := by decide +kernel
theorem dX7_record_4 : decode cX7_record 4 = .ok (.iconst 4, 1) := by decide +kernel
theorem dX7_record_5 : decode cX7_record 5 = .ok (.if_icmp .ne 43, 3) := by decide +kernel
theorem dX7_record_8 : decode cX7_record 8 = .ok (.iconst 0, 1) := by decide +kernel
theorem dX7_record_9 : decode cX7_record 9 = .ok (.istore_n 1, 1) := by decide +kernel
theorem dX7_record_10 : decode cX7_record 10 = .ok (.iload_n 1, 1) := by decide +kernel
theorem dX7_record_11 : decode cX7_record 11 = .ok (.sipush 198, 3) := by decide +kernel
theorem dX7_record_14 : decode cX7_record 14 = .ok (.if_icmp .ge 24, 3) := by decide +kernel
theorem dX7_record_17 : decode cX7_record 17 = .ok (.aload_n 0, 1) := by decide +kernel
theorem dX7_record_18 : decode cX7_record 18 = .ok (.getfield 16, 3) := by decide +kernel
theorem dX7_record_21 : decode cX7_record 21 = .ok (.iload_n 1, 1) := by decide +kernel
theorem dX7_record_22 : decode cX7_record 22 = .ok (.aload_n 0, 1) := by decide +kernel
theorem dX7_record_23 : decode cX7_record 23 = .ok (.getfield 16, 3) := by decide +kernel
theorem dX7_record_26 : decode cX7_record 26 = .ok (.iload_n 1, 1) := by decide +kernel
theorem dX7_record_27 : decode cX7_record 27 = .ok (.bipush 66, 2) := by decide +kernel
theorem dX7_record_29 : decode cX7_record 29 = .ok (.iadd, 1) := by decide +kernel
theorem dX7_record_30 : decode cX7_record 30 = .ok (.iaload, 1) := by decide +kernel
theorem dX7_record_31 : decode cX7_record 31 = .ok (.iastore, 1) := by decide +kernel
theorem dX7_record_32 : decode cX7_record 32 = .ok (.iinc 1 1, 3) := by decide +kernel
theorem dX7_record_35 : decode cX7_record 35 = .ok (.goto (-25), 3) := by decide +kernel
theorem dX7_record_38 : decode cX7_record 38 = .ok (.aload_n 0, 1) := by decide +kernel
theorem dX7_record_39 : decode cX7_record 39 = .ok (.dup, 1) := by decide +kernel
theorem dX7_record_40 : decode cX7_record 40 = .ok (.getfield 32, 3) := by decide +kernel
theorem dX7_record_43 : decode cX7_record 43 = .ok (.iconst 1, 1) := by decide +kernel
theorem dX7_record_44 : decode cX7_record 44 = .ok (.isub, 1) := by decide +kernel
theorem dX7_record_45 : decode cX7_record 45 = .ok (.putfield 32, 3) := by decide +kernel
theorem dX7_record_48 : decode cX7_record 48 = .ok (.aload_n 0, 1) := by decide +kernel
theorem dX7_record_49 : decode cX7_record 49 = .ok (.getfield 7, 3) := by decide +kernel
theorem dX7_record_52 : decode cX7_record 52 = .ok (.iconst 0, 1) := by decide +kernel
theorem dX7_record_53 : decode cX7_record 53 = .ok (.aload_n 0, 1) := by decide +kernel
theorem dX7_record_54 : decode cX7_record 54 = .ok (.getfield 16, 3) := by decide +kernel
theorem dX7_record_57 : decode cX7_record 57 = .ok (.bipush 66, 2) := by decide +kernel
theorem dX7_record_59 : decode cX7_record 59 = .ok (.aload_n 0, 1) := by decide +kernel
theorem dX7_record_60 : decode cX7_record 60 = .ok (.getfield 32, 3) := by decide +kernel
theorem dX7_record_63 : decode cX7_record 63 = .ok (.imul, 1) := by decide +kernel
theorem dX7_record_64 : decode cX7_record 64 = .ok (.invokestatic 36, 3) := by decide +kernel
theorem dX7_record_67 : decode cX7_record 67 = .ok (.aload_n 0, 1) := by decide +kernel
theorem dX7_record_68 : decode cX7_record 68 = .ok (.dup, 1) := by decide +kernel
theorem dX7_record_69 : decode cX7_record 69 = .ok (.getfield 32, 3) := by decide +kernel
theorem dX7_record_72 : decode cX7_record 72 = .ok (.iconst 1, 1) := by decide +kernel
theorem dX7_record_73 : decode cX7_record 73 = .ok (.iadd, 1) := by decide +kernel
theorem dX7_record_74 : decode cX7_record 74 = .ok (.putfield 32, 3) := by decide +kernel
theorem dX7_record_77 : decode cX7_record 77 = .ok (.return_, 1) := by decide +kernel
theorem dX7_undo_0 : decode cX7_undo 0 = .ok (.aload_n 0, 1) := by decide +kernel
theorem dX7_undo_1 : decode cX7_undo 1 = .ok (.getfield 32, 3) := by decide +kernel
theorem dX7_undo_4 : decode cX7_undo 4 = .ok (.ifCond .ne 6, 3) := by decide +kernel
theorem dX7_undo_7 : decode cX7_undo 7 = .ok (.bipush (-4), 2) := by decide +kernel
theorem dX7_undo_9 : decode cX7_undo 9 = .ok (.ireturn, 1) := by decide +kernel
theorem dX7_undo_10 : decode cX7_undo 10 = .ok (.aload_n 0, 1) := by decide +kernel
theorem dX7_undo_11 : decode cX7_undo 11 = .ok (.dup, 1) := by decide +kernel
theorem dX7_undo_12 : decode cX7_undo 12 = .ok (.getfield 32, 3) := by decide +kernel
theorem dX7_undo_15 : decode cX7_undo 15 = .ok (.iconst 1, 1) := by decide +kernel
theorem dX7_undo_16 : decode cX7_undo 16 = .ok (.isub, 1) := by decide +kernel
theorem dX7_undo_17 : decode cX7_undo 17 = .ok (.putfield 32, 3) := by decide +kernel
theorem dX7_undo_20 : decode cX7_undo 20 = .ok (.aload_n 0, 1) := by decide +kernel
theorem dX7_undo_21 : decode cX7_undo 21 = .ok (.getfield 16, 3) := by decide +kernel
theorem dX7_undo_24 : decode cX7_undo 24 = .ok (.bipush 66, 2) := by decide +kernel
theorem dX7_undo_26 : decode cX7_undo 26 = .ok (.aload_n 0, 1) := by decide +kernel
theorem dX7_undo_27 : decode cX7_undo 27 = .ok (.getfield 32, 3) := by decide +kernel
theorem dX7_undo_30 : decode cX7_undo 30 = .ok (.imul, 1) := by decide +kernel
theorem dX7_undo_31 : decode cX7_undo 31 = .ok (.aload_n 0, 1) := by decide +kernel
theorem dX7_undo_32 : decode cX7_undo 32 = .ok (.getfield 7, 3) := by decide +kernel
theorem dX7_undo_35 : decode cX7_undo 35 = .ok (.iconst 0, 1) := by decide +kernel
theorem dX7_undo_36 : decode cX7_undo 36 = .ok (.invokestatic 36, 3) := by decide +kernel
theorem dX7_undo_39 : decode cX7_undo 39 = .ok (.aload_n 0, 1) := by decide +kernel
theorem dX7_undo_40 : decode cX7_undo 40 = .ok (.getfield 32, 3) := by decide +kernel
theorem dX7_undo_43 : decode cX7_undo 43 = .ok (.ireturn, 1) := by decide +kernel
theorem dX7_save_0 : decode cX7_save 0 = .ok (.aload_n 0, 1) := by decide +kernel
theorem dX7_save_1 : decode cX7_save 1 = .ok (.getfield 7, 3) := by decide +kernel
theorem dX7_save_4 : decode cX7_save 4 = .ok (.iconst 0, 1) := by decide +kernel
theorem dX7_save_5 : decode cX7_save 5 = .ok (.aload_n 0, 1) := by decide +kernel
theorem dX7_save_6 : decode cX7_save 6 = .ok (.getfield 19, 3) := by decide +kernel
theorem dX7_save_9 : decode cX7_save 9 = .ok (.iconst 0, 1) := by decide +kernel
theorem dX7_save_10 : decode cX7_save 10 = .ok (.invokestatic 36, 3) := by decide +kernel
theorem dX7_save_13 : decode cX7_save 13 = .ok (.aload_n 0, 1) := by decide +kernel
theorem dX7_save_14 : decode cX7_save 14 = .ok (.iconst 1, 1) := by decide +kernel
theorem dX7_save_15 : decode cX7_save 15 = .ok (.putfield 40, 3) := by decide +kernel
theorem dX7_save_18 : decode cX7_save 18 = .ok (.aload_n 0, 1) := by decide +kernel
theorem dX7_save_19 : decode cX7_save 19 = .ok (.getfield 7, 3) := by decide +kernel
theorem dX7_save_22 : decode cX7_save 22 = .ok (.iconst 0, 1) := by decide +kernel
theorem dX7_save_23 : decode cX7_save 23 = .ok (.iaload, 1) := by decide +kernel
theorem dX7_save_24 : decode cX7_save 24 = .ok (.ireturn, 1) := by decide +kernel
theorem dX7_restore_0 : decode cX7_restore 0 = .ok (.aload_n 0, 1) := by decide +kernel
theorem dX7_restore_1 : decode cX7_restore 1 = .ok (.getfield 40, 3) := by decide +kernel
theorem dX7_restore_4 : decode cX7_restore 4 = .ok (.ifCond .ne 5, 3) := by decide +kernel
theorem dX7_restore_7 : decode cX7_restore 7 = .ok (.iconst (-1), 1) := by decide +kernel
theorem dX7_restore_8 : decode cX7_restore 8 = .ok (.ireturn, 1) := by decide +kernel
theorem dX7_restore_9 : decode cX7_restore 9 = .ok (.aload_n 0, 1) := by decide +kernel
theorem dX7_restore_10 : decode cX7_restore 10 = .ok (.invokevirtual 44, 3) := by decide +kernel
theorem dX7_restore_13 : decode cX7_restore 13 = .ok (.aload_n 0, 1) := by decide +kernel
theorem dX7_restore_14 : decode cX7_restore 14 = .ok (.getfield 19, 3) := by decide +kernel
theorem dX7_restore_17 : decode cX7_restore 17 = .ok (.iconst 0, 1) := by decide +kernel
theorem dX7_restore_18 : decode cX7_restore 18 = .ok (.aload_n 0, 1) := by decide +kernel
theorem dX7_restore_19 : decode cX7_restore 19 = .ok (.getfield 7, 3) := by decide +kernel
theorem dX7_restore_22 : decode cX7_restore 22 = .ok (.iconst 0, 1) := by decide +kernel
theorem dX7_restore_23 : decode cX7_restore 23 = .ok (.invokestatic 36, 3) := by decide +kernel
theorem dX7_restore_26 : decode cX7_restore 26 = .ok (.aload_n 0, 1) := by decide +kernel
theorem dX7_restore_27 : decode cX7_restore 27 = .ok (.getfield 7, 3) := by decide +kernel
theorem dX7_restore_30 : decode cX7_restore 30 = .ok (.iconst 0, 1) := by decide +kernel
theorem dX7_restore_31 : decode cX7_restore 31 = .ok (.iaload, 1) := by decide +kernel
theorem dX7_restore_32 : decode cX7_restore 32 = .ok (.ireturn, 1) := by decide +kernel
theorem dX7_selectsCells_0 : decode cX7_selectsCells 0 = .ok (.aload_n 0, 1) := by decide +kernel
theorem dX7_selectsCells_1 : decode cX7_selectsCells 1 = .ok (.iload_n 1, 1) := by decide +kernel
theorem dX7_selectsCells_2 : decode cX7_selectsCells 2 = .ok (.bipush 6, 2) := by decide +kernel
theorem dX7_selectsCells_4 : decode cX7_selectsCells 4 = .ok (.invokevirtual 47, 3) := by decide +kernel
theorem dX7_selectsCells_7 : decode cX7_selectsCells 7 = .ok (.ifCond .eq 14, 3) := by decide +kernel
theorem dX7_selectsCells_10 : decode cX7_selectsCells 10 = .ok (.aload_n 0, 1) := by decide +kernel
theorem dX7_selectsCells_11 : decode cX7_selectsCells 11 = .ok (.iload_n 1, 1) := by decide +kernel
theorem dX7_selectsCells_12 : decode cX7_selectsCells 12 = .ok (.bipush 6, 2) := by decide +kernel
theorem dX7_selectsCells_14 : decode cX7_selectsCells 14 = .ok (.invokevirtual 47, 3) := by decide +kernel
theorem dX7_selectsCells_17 : decode cX7_selectsCells 17 = .ok (.iconst 2, 1) := by decide +kernel
theorem dX7_selectsCells_18 : decode cX7_selectsCells 18 = .ok (.if_icmp .ne 7, 3) := by decide +kernel
theorem dX7_selectsCells_21 : decode cX7_selectsCells 21 = .ok (.iconst 1, 1) := by decide +kernel
theorem dX7_selectsCells_22 : decode cX7_selectsCells 22 = .ok (.goto 4, 3) := by decide +kernel
theorem dX7_selectsCells_25 : decode cX7_selectsCells 25 = .ok (.iconst 0, 1) := by decide +kernel
theorem dX7_selectsCells_26 : decode cX7_selectsCells 26 = .ok (.ireturn, 1) := by decide +kernel
theorem dX7_selectsIdentity_0 : decode cX7_selectsIdentity 0 = .ok (.aload_n 0, 1) := by decide +kernel
theorem dX7_selectsIdentity_1 : decode cX7_selectsIdentity 1 = .ok (.iload_n 1, 1) := by decide +kernel
theorem dX7_selectsIdentity_2 : decode cX7_selectsIdentity 2 = .ok (.bipush 6, 2) := by decide +kernel
theorem dX7_selectsIdentity_4 : decode cX7_selectsIdentity 4 = .ok (.invokevirtual 47, 3) := by decide +kernel
theorem dX7_selectsIdentity_7 : decode cX7_selectsIdentity 7 = .ok (.iconst 1, 1) := by decide +kernel
theorem dX7_selectsIdentity_8 : decode cX7_selectsIdentity 8 = .ok (.if_icmp .ne 16, 3) := by decide +kernel
theorem dX7_selectsIdentity_11 : decode cX7_selectsIdentity 11 = .ok (.aload_n 0, 1) := by decide +kernel
theorem dX7_selectsIdentity_12 : decode cX7_selectsIdentity 12 = .ok (.iload_n 1, 1) := by decide +kernel
theorem dX7_selectsIdentity_13 : decode cX7_selectsIdentity 13 = .ok (.iconst 1, 1) := by decide +kernel
theorem dX7_selectsIdentity_14 : decode cX7_selectsIdentity 14 = .ok (.invokevirtual 47, 3) := by decide +kernel
theorem dX7_selectsIdentity_17 : decode cX7_selectsIdentity 17 = .ok (.ifCond .le 7, 3) := by decide +kernel
theorem dX7_selectsIdentity_20 : decode cX7_selectsIdentity 20 = .ok (.iconst 1, 1) := by decide +kernel
theorem dX7_selectsIdentity_21 : decode cX7_selectsIdentity 21 = .ok (.goto 4, 3) := by decide +kernel
theorem dX7_selectsIdentity_24 : decode cX7_selectsIdentity 24 = .ok (.iconst 0, 1) := by decide +kernel
theorem dX7_selectsIdentity_25 : decode cX7_selectsIdentity 25 = .ok (.ireturn, 1) := by decide +kernel
theorem dX7_bits_0 : decode cX7_bits 0 = .ok (.aload_n 0, 1) := by decide +kernel
theorem dX7_bits_1 : decode cX7_bits 1 = .ok (.iload_n 1, 1) := by decide +kernel
theorem dX7_bits_2 : decode cX7_bits 2 = .ok (.invokevirtual 51, 3) := by decide +kernel
theorem dX7_bits_5 : decode cX7_bits 5 = .ok (.ifCond .eq 12, 3) := by decide +kernel
theorem dX7_bits_8 : decode cX7_bits 8 = .ok (.aload_n 0, 1) := by decide +kernel
theorem dX7_bits_9 : decode cX7_bits 9 = .ok (.iload_n 1, 1) := by decide +kernel
theorem dX7_bits_10 : decode cX7_bits 10 = .ok (.iconst 2, 1) := by decide +kernel
theorem dX7_bits_11 : decode cX7_bits 11 = .ok (.invokevirtual 47, 3) := by decide +kernel
theorem dX7_bits_14 : decode cX7_bits 14 = .ok (.goto 17, 3) := by decide +kernel
theorem dX7_bits_17 : decode cX7_bits 17 = .ok (.aload_n 0, 1) := by decide +kernel
theorem dX7_bits_18 : decode cX7_bits 18 = .ok (.iload_n 1, 1) := by decide +kernel
theorem dX7_bits_19 : decode cX7_bits 19 = .ok (.invokevirtual 55, 3) := by decide +kernel
theorem dX7_bits_22 : decode cX7_bits 22 = .ok (.ifCond .eq 8, 3) := by decide +kernel
theorem dX7_bits_25 : decode cX7_bits 25 = .ok (.bipush 8, 2) := by decide +kernel
theorem dX7_bits_27 : decode cX7_bits 27 = .ok (.goto 4, 3) := by decide +kernel
theorem dX7_bits_30 : decode cX7_bits 30 = .ok (.iconst 1, 1) := by decide +kernel
theorem dX7_bits_31 : decode cX7_bits 31 = .ok (.ireturn, 1) := by decide +kernel
theorem dX7_give_0 : decode cX7_give 0 = .ok (.aload_n 0, 1) := by decide +kernel
theorem dX7_give_1 : decode cX7_give 1 = .ok (.iload_n 1, 1) := by decide +kernel
theorem dX7_give_2 : decode cX7_give 2 = .ok (.bipush 6, 2) := by decide +kernel
theorem dX7_give_4 : decode cX7_give 4 = .ok (.iload_n 2, 1) := by decide +kernel
theorem dX7_give_5 : decode cX7_give 5 = .ok (.invokevirtual 58, 3) := by decide +kernel
theorem dX7_give_8 : decode cX7_give 8 = .ok (.aload_n 0, 1) := by decide +kernel
theorem dX7_give_9 : decode cX7_give 9 = .ok (.iload_n 1, 1) := by decide +kernel
theorem dX7_give_10 : decode cX7_give 10 = .ok (.bipush 8, 2) := by decide +kernel
theorem dX7_give_12 : decode cX7_give 12 = .ok (.iconst 0, 1) := by decide +kernel
theorem dX7_give_13 : decode cX7_give 13 = .ok (.invokevirtual 58, 3) := by decide +kernel
theorem dX7_give_16 : decode cX7_give 16 = .ok (.return_, 1) := by decide +kernel
theorem dX7_giveFirst_0 : decode cX7_giveFirst 0 = .ok (.aload_n 0, 1) := by decide +kernel
theorem dX7_giveFirst_1 : decode cX7_giveFirst 1 = .ok (.iload_n 1, 1) := by decide +kernel
theorem dX7_giveFirst_2 : decode cX7_giveFirst 2 = .ok (.aload_n 0, 1) := by decide +kernel
theorem dX7_giveFirst_3 : decode cX7_giveFirst 3 = .ok (.iload_n 1, 1) := by decide +kernel
theorem dX7_giveFirst_4 : decode cX7_giveFirst 4 = .ok (.iconst 1, 1) := by decide +kernel
theorem dX7_giveFirst_5 : decode cX7_giveFirst 5 = .ok (.invokevirtual 47, 3) := by decide +kernel
theorem dX7_giveFirst_8 : decode cX7_giveFirst 8 = .ok (.ifCond .le 7, 3) := by decide +kernel
theorem dX7_giveFirst_11 : decode cX7_giveFirst 11 = .ok (.iconst 1, 1) := by decide +kernel
theorem dX7_giveFirst_12 : decode cX7_giveFirst 12 = .ok (.goto 12, 3) := by decide +kernel
theorem dX7_giveFirst_15 : decode cX7_giveFirst 15 = .ok (.aload_n 0, 1) := by decide +kernel
theorem dX7_giveFirst_16 : decode cX7_giveFirst 16 = .ok (.iload_n 1, 1) := by decide +kernel
theorem dX7_giveFirst_17 : decode cX7_giveFirst 17 = .ok (.iconst 0, 1) := by decide +kernel
theorem dX7_giveFirst_18 : decode cX7_giveFirst 18 = .ok (.invokevirtual 47, 3) := by decide +kernel
theorem dX7_giveFirst_21 : decode cX7_giveFirst 21 = .ok (.invokestatic 62, 3) := by decide +kernel
theorem dX7_giveFirst_24 : decode cX7_giveFirst 24 = .ok (.invokevirtual 66, 3) := by decide +kernel
theorem dX7_giveFirst_27 : decode cX7_giveFirst 27 = .ok (.return_, 1) := by decide +kernel
theorem dX7_add_0 : decode cX7_add 0 = .ok (.iload_n 2, 1) := by decide +kernel
theorem dX7_add_1 : decode cX7_add 1 = .ok (.ifCond .eq 21, 3) := by decide +kernel
theorem dX7_add_4 : decode cX7_add 4 = .ok (.iload_n 2, 1) := by decide +kernel
theorem dX7_add_5 : decode cX7_add 5 = .ok (.iconst 1, 1) := by decide +kernel
theorem dX7_add_6 : decode cX7_add 6 = .ok (.sipush 253, 3) := by decide +kernel
theorem dX7_add_9 : decode cX7_add 9 = .ok (.invokestatic 28, 3) := by decide +kernel
theorem dX7_add_12 : decode cX7_add 12 = .ok (.ifCond .eq 14, 3) := by decide +kernel
theorem dX7_add_15 : decode cX7_add 15 = .ok (.iload_n 2, 1) := by decide +kernel
theorem dX7_add_16 : decode cX7_add 16 = .ok (.iconst 2, 1) := by decide +kernel
theorem dX7_add_17 : decode cX7_add 17 = .ok (.irem, 1) := by decide +kernel
theorem dX7_add_18 : decode cX7_add 18 = .ok (.iconst 1, 1) := by decide +kernel
theorem dX7_add_19 : decode cX7_add 19 = .ok (.if_icmp .ne 7, 3) := by decide +kernel
theorem dX7_add_22 : decode cX7_add 22 = .ok (.iconst 1, 1) := by decide +kernel
theorem dX7_add_23 : decode cX7_add 23 = .ok (.goto 4, 3) := by decide +kernel
theorem dX7_add_26 : decode cX7_add 26 = .ok (.iconst 0, 1) := by decide +kernel
theorem dX7_add_27 : decode cX7_add 27 = .ok (.istore 4, 2) := by decide +kernel
theorem dX7_add_29 : decode cX7_add 29 = .ok (.iload_n 1, 1) := by decide +kernel
theorem dX7_add_30 : decode cX7_add 30 = .ok (.iconst 2, 1) := by decide +kernel
theorem dX7_add_31 : decode cX7_add 31 = .ok (.bipush 6, 2) := by decide +kernel
theorem dX7_add_33 : decode cX7_add 33 = .ok (.invokestatic 28, 3) := by decide +kernel
theorem dX7_add_36 : decode cX7_add 36 = .ok (.ifCond .eq 18, 3) := by decide +kernel
theorem dX7_add_39 : decode cX7_add 39 = .ok (.iload 4, 2) := by decide +kernel
theorem dX7_add_41 : decode cX7_add 41 = .ok (.ifCond .eq 13, 3) := by decide +kernel
theorem dX7_add_44 : decode cX7_add 44 = .ok (.iload_n 3, 1) := by decide +kernel
theorem dX7_add_45 : decode cX7_add 45 = .ok (.iconst 1, 1) := by decide +kernel
theorem dX7_add_46 : decode cX7_add 46 = .ok (.bipush 8, 2) := by decide +kernel
theorem dX7_add_48 : decode cX7_add 48 = .ok (.invokestatic 28, 3) := by decide +kernel
theorem dX7_add_51 : decode cX7_add 51 = .ok (.ifCond .ne 6, 3) := by decide +kernel
theorem dX7_add_54 : decode cX7_add 54 = .ok (.bipush (-2), 2) := by decide +kernel
theorem dX7_add_56 : decode cX7_add 56 = .ok (.ireturn, 1) := by decide +kernel
theorem dX7_add_57 : decode cX7_add 57 = .ok (.aload_n 0, 1) := by decide +kernel
theorem dX7_add_58 : decode cX7_add 58 = .ok (.getfield 7, 3) := by decide +kernel
theorem dX7_add_61 : decode cX7_add 61 = .ok (.iconst 0, 1) := by decide +kernel
theorem dX7_add_62 : decode cX7_add 62 = .ok (.iaload, 1) := by decide +kernel
theorem dX7_add_63 : decode cX7_add 63 = .ok (.bipush 6, 2) := by decide +kernel
theorem dX7_add_65 : decode cX7_add 65 = .ok (.if_icmp .ne 6, 3) := by decide +kernel
theorem dX7_add_68 : decode cX7_add 68 = .ok (.bipush (-3), 2) := by decide +kernel
theorem dX7_add_70 : decode cX7_add 70 = .ok (.ireturn, 1) := by decide +kernel
theorem dX7_add_71 : decode cX7_add 71 = .ok (.aload_n 0, 1) := by decide +kernel
theorem dX7_add_72 : decode cX7_add 72 = .ok (.invokevirtual 44, 3) := by decide +kernel
theorem dX7_add_75 : decode cX7_add 75 = .ok (.aload_n 0, 1) := by decide +kernel
theorem dX7_add_76 : decode cX7_add 76 = .ok (.getfield 7, 3) := by decide +kernel
theorem dX7_add_79 : decode cX7_add 79 = .ok (.iconst 0, 1) := by decide +kernel
theorem dX7_add_80 : decode cX7_add 80 = .ok (.iaload, 1) := by decide +kernel
theorem dX7_add_81 : decode cX7_add 81 = .ok (.istore 5, 2) := by decide +kernel
theorem dX7_add_83 : decode cX7_add 83 = .ok (.iconst 0, 1) := by decide +kernel
theorem dX7_add_84 : decode cX7_add 84 = .ok (.istore 6, 2) := by decide +kernel
theorem dX7_add_86 : decode cX7_add 86 = .ok (.iload 6, 2) := by decide +kernel
theorem dX7_add_88 : decode cX7_add 88 = .ok (.bipush 9, 2) := by decide +kernel
theorem dX7_add_90 : decode cX7_add 90 = .ok (.if_icmp .ge 18, 3) := by decide +kernel
theorem dX7_add_93 : decode cX7_add 93 = .ok (.aload_n 0, 1) := by decide +kernel
theorem dX7_add_94 : decode cX7_add 94 = .ok (.iload 5, 2) := by decide +kernel
theorem dX7_add_96 : decode cX7_add 96 = .ok (.iload 6, 2) := by decide +kernel
theorem dX7_add_98 : decode cX7_add 98 = .ok (.iconst 0, 1) := by decide +kernel
theorem dX7_add_99 : decode cX7_add 99 = .ok (.invokevirtual 58, 3) := by decide +kernel
theorem dX7_add_102 : decode cX7_add 102 = .ok (.iinc 6 1, 3) := by decide +kernel
theorem dX7_add_105 : decode cX7_add 105 = .ok (.goto (-19), 3) := by decide +kernel
theorem dX7_add_108 : decode cX7_add 108 = .ok (.aload_n 0, 1) := by decide +kernel
theorem dX7_add_109 : decode cX7_add 109 = .ok (.iload 5, 2) := by decide +kernel
theorem dX7_add_111 : decode cX7_add 111 = .ok (.iconst 0, 1) := by decide +kernel
theorem dX7_add_112 : decode cX7_add 112 = .ok (.iload_n 1, 1) := by decide +kernel
theorem dX7_add_113 : decode cX7_add 113 = .ok (.invokevirtual 58, 3) := by decide +kernel
theorem dX7_add_116 : decode cX7_add 116 = .ok (.aload_n 0, 1) := by decide +kernel
theorem dX7_add_117 : decode cX7_add 117 = .ok (.iload 5, 2) := by decide +kernel
theorem dX7_add_119 : decode cX7_add 119 = .ok (.iconst 1, 1) := by decide +kernel
theorem dX7_add_120 : decode cX7_add 120 = .ok (.iload_n 2, 1) := by decide +kernel
theorem dX7_add_121 : decode cX7_add 121 = .ok (.invokevirtual 58, 3) := by decide +kernel
theorem dX7_add_124 : decode cX7_add 124 = .ok (.aload_n 0, 1) := by decide +kernel
theorem dX7_add_125 : decode cX7_add 125 = .ok (.iload 5, 2) := by decide +kernel
theorem dX7_add_127 : decode cX7_add 127 = .ok (.iconst 2, 1) := by decide +kernel
theorem dX7_add_128 : decode cX7_add 128 = .ok (.iload_n 3, 1) := by decide +kernel
theorem dX7_add_129 : decode cX7_add 129 = .ok (.invokevirtual 58, 3) := by decide +kernel
theorem dX7_add_132 : decode cX7_add 132 = .ok (.aload_n 0, 1) := by decide +kernel
theorem dX7_add_133 : decode cX7_add 133 = .ok (.iload 5, 2) := by decide +kernel
theorem dX7_add_135 : decode cX7_add 135 = .ok (.invokevirtual 70, 3) := by decide +kernel
theorem dX7_add_138 : decode cX7_add 138 = .ok (.aload_n 0, 1) := by decide +kernel
theorem dX7_add_139 : decode cX7_add 139 = .ok (.getfield 7, 3) := by decide +kernel
theorem dX7_add_142 : decode cX7_add 142 = .ok (.iconst 0, 1) := by decide +kernel
theorem dX7_add_143 : decode cX7_add 143 = .ok (.dup2, 1) := by decide +kernel
theorem dX7_add_144 : decode cX7_add 144 = .ok (.iaload, 1) := by decide +kernel
theorem dX7_add_145 : decode cX7_add 145 = .ok (.iconst 1, 1) := by decide +kernel
theorem dX7_add_146 : decode cX7_add 146 = .ok (.iadd, 1) := by decide +kernel
theorem dX7_add_147 : decode cX7_add 147 = .ok (.iastore, 1) := by decide +kernel
theorem dX7_add_148 : decode cX7_add 148 = .ok (.iload 5, 2) := by decide +kernel
theorem dX7_add_150 : decode cX7_add 150 = .ok (.ireturn, 1) := by decide +kernel
theorem dX7_take_0 : decode cX7_take 0 = .ok (.aload_n 0, 1) := by decide +kernel
theorem dX7_take_1 : decode cX7_take 1 = .ok (.iload_n 1, 1) := by decide +kernel
theorem dX7_take_2 : decode cX7_take 2 = .ok (.invokevirtual 74, 3) := by decide +kernel
theorem dX7_take_5 : decode cX7_take 5 = .ok (.ifCond .ne 5, 3) := by decide +kernel
theorem dX7_take_8 : decode cX7_take 8 = .ok (.iconst (-1), 1) := by decide +kernel
theorem dX7_take_9 : decode cX7_take 9 = .ok (.ireturn, 1) := by decide +kernel
theorem dX7_take_10 : decode cX7_take 10 = .ok (.aload_n 0, 1) := by decide +kernel
theorem dX7_take_11 : decode cX7_take 11 = .ok (.invokevirtual 44, 3) := by decide +kernel
theorem dX7_take_14 : decode cX7_take 14 = .ok (.aload_n 0, 1) := by decide +kernel
theorem dX7_take_15 : decode cX7_take 15 = .ok (.iload_n 1, 1) := by decide +kernel
theorem dX7_take_16 : decode cX7_take 16 = .ok (.iconst 1, 1) := by decide +kernel
theorem dX7_take_17 : decode cX7_take 17 = .ok (.invokevirtual 47, 3) := by decide +kernel
theorem dX7_take_20 : decode cX7_take 20 = .ok (.istore_n 2, 1) := by decide +kernel
theorem dX7_take_21 : decode cX7_take 21 = .ok (.aload_n 0, 1) := by decide +kernel
theorem dX7_take_22 : decode cX7_take 22 = .ok (.getfield 7, 3) := by decide +kernel
theorem dX7_take_25 : decode cX7_take 25 = .ok (.iconst 0, 1) := by decide +kernel
theorem dX7_take_26 : decode cX7_take 26 = .ok (.dup2, 1) := by decide +kernel
theorem dX7_take_27 : decode cX7_take 27 = .ok (.iaload, 1) := by decide +kernel
theorem dX7_take_28 : decode cX7_take 28 = .ok (.iconst 1, 1) := by decide +kernel
theorem dX7_take_29 : decode cX7_take 29 = .ok (.isub, 1) := by decide +kernel
theorem dX7_take_30 : decode cX7_take 30 = .ok (.iastore, 1) := by decide +kernel
theorem dX7_take_31 : decode cX7_take 31 = .ok (.bipush 12, 2) := by decide +kernel
theorem dX7_take_33 : decode cX7_take 33 = .ok (.bipush 9, 2) := by decide +kernel
theorem dX7_take_35 : decode cX7_take 35 = .ok (.iload_n 1, 1) := by decide +kernel
theorem dX7_take_36 : decode cX7_take 36 = .ok (.imul, 1) := by decide +kernel
theorem dX7_take_37 : decode cX7_take 37 = .ok (.iadd, 1) := by decide +kernel
theorem dX7_take_38 : decode cX7_take 38 = .ok (.istore_n 3, 1) := by decide +kernel
theorem dX7_take_39 : decode cX7_take 39 = .ok (.iload_n 3, 1) := by decide +kernel
theorem dX7_take_40 : decode cX7_take 40 = .ok (.bipush 12, 2) := by decide +kernel
theorem dX7_take_42 : decode cX7_take 42 = .ok (.bipush 9, 2) := by decide +kernel
theorem dX7_take_44 : decode cX7_take 44 = .ok (.aload_n 0, 1) := by decide +kernel
theorem dX7_take_45 : decode cX7_take 45 = .ok (.getfield 7, 3) := by decide +kernel
theorem dX7_take_48 : decode cX7_take 48 = .ok (.iconst 0, 1) := by decide +kernel
theorem dX7_take_49 : decode cX7_take 49 = .ok (.iaload, 1) := by decide +kernel
theorem dX7_take_50 : decode cX7_take 50 = .ok (.imul, 1) := by decide +kernel
theorem dX7_take_51 : decode cX7_take 51 = .ok (.iadd, 1) := by decide +kernel
theorem dX7_take_52 : decode cX7_take 52 = .ok (.if_icmp .ge 24, 3) := by decide +kernel
theorem dX7_take_55 : decode cX7_take 55 = .ok (.aload_n 0, 1) := by decide +kernel
theorem dX7_take_56 : decode cX7_take 56 = .ok (.getfield 7, 3) := by decide +kernel
theorem dX7_take_59 : decode cX7_take 59 = .ok (.iload_n 3, 1) := by decide +kernel
theorem dX7_take_60 : decode cX7_take 60 = .ok (.aload_n 0, 1) := by decide +kernel
theorem dX7_take_61 : decode cX7_take 61 = .ok (.getfield 7, 3) := by decide +kernel
theorem dX7_take_64 : decode cX7_take 64 = .ok (.iload_n 3, 1) := by decide +kernel
theorem dX7_take_65 : decode cX7_take 65 = .ok (.bipush 9, 2) := by decide +kernel
theorem dX7_take_67 : decode cX7_take 67 = .ok (.iadd, 1) := by decide +kernel
theorem dX7_take_68 : decode cX7_take 68 = .ok (.iaload, 1) := by decide +kernel
theorem dX7_take_69 : decode cX7_take 69 = .ok (.iastore, 1) := by decide +kernel
theorem dX7_take_70 : decode cX7_take 70 = .ok (.iinc 3 1, 3) := by decide +kernel
theorem dX7_take_73 : decode cX7_take 73 = .ok (.goto (-34), 3) := by decide +kernel
theorem dX7_take_76 : decode cX7_take 76 = .ok (.iload_n 2, 1) := by decide +kernel
theorem dX7_take_77 : decode cX7_take 77 = .ok (.ireturn, 1) := by decide +kernel
theorem dX7_setPins_0 : decode cX7_setPins 0 = .ok (.aload_n 0, 1) := by decide +kernel
theorem dX7_setPins_1 : decode cX7_setPins 1 = .ok (.iload_n 1, 1) := by decide +kernel
theorem dX7_setPins_2 : decode cX7_setPins 2 = .ok (.invokevirtual 74, 3) := by decide +kernel
theorem dX7_setPins_5 : decode cX7_setPins 5 = .ok (.ifCond .ne 5, 3) := by decide +kernel
theorem dX7_setPins_8 : decode cX7_setPins 8 = .ok (.iconst (-1), 1) := by decide +kernel
theorem dX7_setPins_9 : decode cX7_setPins 9 = .ok (.ireturn, 1) := by decide +kernel
theorem dX7_setPins_10 : decode cX7_setPins 10 = .ok (.iload_n 2, 1) := by decide +kernel
theorem dX7_setPins_11 : decode cX7_setPins 11 = .ok (.iconst 0, 1) := by decide +kernel
theorem dX7_setPins_12 : decode cX7_setPins 12 = .ok (.sipush 255, 3) := by decide +kernel
theorem dX7_setPins_15 : decode cX7_setPins 15 = .ok (.invokestatic 28, 3) := by decide +kernel
theorem dX7_setPins_18 : decode cX7_setPins 18 = .ok (.ifCond .ne 6, 3) := by decide +kernel
theorem dX7_setPins_21 : decode cX7_setPins 21 = .ok (.bipush (-2), 2) := by decide +kernel
theorem dX7_setPins_23 : decode cX7_setPins 23 = .ok (.ireturn, 1) := by decide +kernel
theorem dX7_setPins_24 : decode cX7_setPins 24 = .ok (.aload_n 0, 1) := by decide +kernel
theorem dX7_setPins_25 : decode cX7_setPins 25 = .ok (.invokevirtual 44, 3) := by decide +kernel
theorem dX7_setPins_28 : decode cX7_setPins 28 = .ok (.aload_n 0, 1) := by decide +kernel
theorem dX7_setPins_29 : decode cX7_setPins 29 = .ok (.iload_n 1, 1) := by decide +kernel
theorem dX7_setPins_30 : decode cX7_setPins 30 = .ok (.iconst 3, 1) := by decide +kernel
theorem dX7_setPins_31 : decode cX7_setPins 31 = .ok (.invokevirtual 47, 3) := by decide +kernel
theorem dX7_setPins_34 : decode cX7_setPins 34 = .ok (.istore_n 3, 1) := by decide +kernel
theorem dX7_setPins_35 : decode cX7_setPins 35 = .ok (.aload_n 0, 1) := by decide +kernel
theorem dX7_setPins_36 : decode cX7_setPins 36 = .ok (.iload_n 1, 1) := by decide +kernel
theorem dX7_setPins_37 : decode cX7_setPins 37 = .ok (.iconst 3, 1) := by decide +kernel
theorem dX7_setPins_38 : decode cX7_setPins 38 = .ok (.iload_n 2, 1) := by decide +kernel
theorem dX7_setPins_39 : decode cX7_setPins 39 = .ok (.aload_n 0, 1) := by decide +kernel
theorem dX7_setPins_40 : decode cX7_setPins 40 = .ok (.iload_n 1, 1) := by decide +kernel
theorem dX7_setPins_41 : decode cX7_setPins 41 = .ok (.iconst 2, 1) := by decide +kernel
theorem dX7_setPins_42 : decode cX7_setPins 42 = .ok (.invokevirtual 47, 3) := by decide +kernel
theorem dX7_setPins_45 : decode cX7_setPins 45 = .ok (.invokestatic 62, 3) := by decide +kernel
theorem dX7_setPins_48 : decode cX7_setPins 48 = .ok (.iand, 1) := by decide +kernel
theorem dX7_setPins_49 : decode cX7_setPins 49 = .ok (.invokevirtual 58, 3) := by decide +kernel
theorem dX7_setPins_52 : decode cX7_setPins 52 = .ok (.iload_n 3, 1) := by decide +kernel
theorem dX7_setPins_53 : decode cX7_setPins 53 = .ok (.ireturn, 1) := by decide +kernel
theorem dX7_sum_0 : decode cX7_sum 0 = .ok (.iconst 0, 1) := by decide +kernel
theorem dX7_sum_1 : decode cX7_sum 1 = .ok (.istore_n 2, 1) := by decide +kernel
theorem dX7_sum_2 : decode cX7_sum 2 = .ok (.iconst 0, 1) := by decide +kernel
theorem dX7_sum_3 : decode cX7_sum 3 = .ok (.istore_n 3, 1) := by decide +kernel
theorem dX7_sum_4 : decode cX7_sum 4 = .ok (.iload_n 3, 1) := by decide +kernel
theorem dX7_sum_5 : decode cX7_sum 5 = .ok (.aload_n 0, 1) := by decide +kernel
theorem dX7_sum_6 : decode cX7_sum 6 = .ok (.getfield 7, 3) := by decide +kernel
theorem dX7_sum_9 : decode cX7_sum 9 = .ok (.iconst 0, 1) := by decide +kernel
theorem dX7_sum_10 : decode cX7_sum 10 = .ok (.iaload, 1) := by decide +kernel
theorem dX7_sum_11 : decode cX7_sum 11 = .ok (.if_icmp .ge 18, 3) := by decide +kernel
theorem dX7_sum_14 : decode cX7_sum 14 = .ok (.iload_n 2, 1) := by decide +kernel
theorem dX7_sum_15 : decode cX7_sum 15 = .ok (.aload_n 0, 1) := by decide +kernel
theorem dX7_sum_16 : decode cX7_sum 16 = .ok (.iload_n 3, 1) := by decide +kernel
theorem dX7_sum_17 : decode cX7_sum 17 = .ok (.iload_n 1, 1) := by decide +kernel
theorem dX7_sum_18 : decode cX7_sum 18 = .ok (.invokevirtual 47, 3) := by decide +kernel
theorem dX7_sum_21 : decode cX7_sum 21 = .ok (.iadd, 1) := by decide +kernel
theorem dX7_sum_22 : decode cX7_sum 22 = .ok (.istore_n 2, 1) := by decide +kernel
theorem dX7_sum_23 : decode cX7_sum 23 = .ok (.iinc 3 1, 3) := by decide +kernel
theorem dX7_sum_26 : decode cX7_sum 26 = .ok (.goto (-22), 3) := by decide +kernel
theorem dX7_sum_29 : decode cX7_sum 29 = .ok (.iload_n 2, 1) := by decide +kernel
theorem dX7_sum_30 : decode cX7_sum 30 = .ok (.ireturn, 1) := by decide +kernel
theorem dX7_breakChip_0 : decode cX7_breakChip 0 = .ok (.aload_n 0, 1) := by decide +kernel
theorem dX7_breakChip_1 : decode cX7_breakChip 1 = .ok (.iload_n 1, 1) := by decide +kernel
theorem dX7_breakChip_2 : decode cX7_breakChip 2 = .ok (.invokevirtual 74, 3) := by decide +kernel
theorem dX7_breakChip_5 : decode cX7_breakChip 5 = .ok (.ifCond .ne 5, 3) := by decide +kernel
theorem dX7_breakChip_8 : decode cX7_breakChip 8 = .ok (.iconst (-1), 1) := by decide +kernel
theorem dX7_breakChip_9 : decode cX7_breakChip 9 = .ok (.ireturn, 1) := by decide +kernel
theorem dX7_breakChip_10 : decode cX7_breakChip 10 = .ok (.aload_n 0, 1) := by decide +kernel
theorem dX7_breakChip_11 : decode cX7_breakChip 11 = .ok (.invokevirtual 44, 3) := by decide +kernel
theorem dX7_breakChip_14 : decode cX7_breakChip 14 = .ok (.aload_n 0, 1) := by decide +kernel
theorem dX7_breakChip_15 : decode cX7_breakChip 15 = .ok (.iload_n 1, 1) := by decide +kernel
theorem dX7_breakChip_16 : decode cX7_breakChip 16 = .ok (.iconst 5, 1) := by decide +kernel
theorem dX7_breakChip_17 : decode cX7_breakChip 17 = .ok (.iload_n 2, 1) := by decide +kernel
theorem dX7_breakChip_18 : decode cX7_breakChip 18 = .ok (.ifCond .eq 7, 3) := by decide +kernel
theorem dX7_breakChip_21 : decode cX7_breakChip 21 = .ok (.iconst 1, 1) := by decide +kernel
theorem dX7_breakChip_22 : decode cX7_breakChip 22 = .ok (.goto 4, 3) := by decide +kernel
theorem dX7_breakChip_25 : decode cX7_breakChip 25 = .ok (.iconst 0, 1) := by decide +kernel
theorem dX7_breakChip_26 : decode cX7_breakChip 26 = .ok (.invokevirtual 58, 3) := by decide +kernel
theorem dX7_breakChip_29 : decode cX7_breakChip 29 = .ok (.aload_n 0, 1) := by decide +kernel
theorem dX7_breakChip_30 : decode cX7_breakChip 30 = .ok (.iconst 5, 1) := by decide +kernel
theorem dX7_breakChip_31 : decode cX7_breakChip 31 = .ok (.invokevirtual 77, 3) := by decide +kernel
theorem dX7_breakChip_34 : decode cX7_breakChip 34 = .ok (.ireturn, 1) := by decide +kernel
theorem dX7_next_0 : decode cX7_next 0 = .ok (.iload_n 0, 1) := by decide +kernel
theorem dX7_next_1 : decode cX7_next 1 = .ok (.tableswitch 202 0 15 #[79, 89, 99, 121, 121, 131, 143, 155, 89, 110, 166, 166, 178, 190, 202, 89], 79) := by decide +kernel
theorem dX7_next_80 : decode cX7_next 80 = .ok (.iload_n 1, 1) := by decide +kernel
theorem dX7_next_81 : decode cX7_next 81 = .ok (.ifCond .ne 7, 3) := by decide +kernel
theorem dX7_next_84 : decode cX7_next 84 = .ok (.iconst 1, 1) := by decide +kernel
theorem dX7_next_85 : decode cX7_next 85 = .ok (.goto 4, 3) := by decide +kernel
theorem dX7_next_88 : decode cX7_next 88 = .ok (.iconst 0, 1) := by decide +kernel
theorem dX7_next_89 : decode cX7_next 89 = .ok (.ireturn, 1) := by decide +kernel
theorem dX7_next_90 : decode cX7_next 90 = .ok (.iload_n 1, 1) := by decide +kernel
theorem dX7_next_91 : decode cX7_next 91 = .ok (.ifCond .ne 7, 3) := by decide +kernel
theorem dX7_next_94 : decode cX7_next 94 = .ok (.iconst 1, 1) := by decide +kernel
theorem dX7_next_95 : decode cX7_next 95 = .ok (.goto 4, 3) := by decide +kernel
theorem dX7_next_98 : decode cX7_next 98 = .ok (.iconst 2, 1) := by decide +kernel
theorem dX7_next_99 : decode cX7_next 99 = .ok (.ireturn, 1) := by decide +kernel
theorem dX7_next_100 : decode cX7_next 100 = .ok (.iload_n 1, 1) := by decide +kernel
theorem dX7_next_101 : decode cX7_next 101 = .ok (.ifCond .ne 7, 3) := by decide +kernel
theorem dX7_next_104 : decode cX7_next 104 = .ok (.iconst 3, 1) := by decide +kernel
theorem dX7_next_105 : decode cX7_next 105 = .ok (.goto 5, 3) := by decide +kernel
theorem dX7_next_108 : decode cX7_next 108 = .ok (.bipush 9, 2) := by decide +kernel
theorem dX7_next_110 : decode cX7_next 110 = .ok (.ireturn, 1) := by decide +kernel
theorem dX7_next_111 : decode cX7_next 111 = .ok (.iload_n 1, 1) := by decide +kernel
theorem dX7_next_112 : decode cX7_next 112 = .ok (.ifCond .ne 8, 3) := by decide +kernel
theorem dX7_next_115 : decode cX7_next 115 = .ok (.bipush 10, 2) := by decide +kernel
theorem dX7_next_117 : decode cX7_next 117 = .ok (.goto 4, 3) := by decide +kernel
theorem dX7_next_120 : decode cX7_next 120 = .ok (.iconst 0, 1) := by decide +kernel
theorem dX7_next_121 : decode cX7_next 121 = .ok (.ireturn, 1) := by decide +kernel
theorem dX7_next_122 : decode cX7_next 122 = .ok (.iload_n 1, 1) := by decide +kernel
theorem dX7_next_123 : decode cX7_next 123 = .ok (.ifCond .ne 7, 3) := by decide +kernel
theorem dX7_next_126 : decode cX7_next 126 = .ok (.iconst 4, 1) := by decide +kernel
theorem dX7_next_127 : decode cX7_next 127 = .ok (.goto 4, 3) := by decide +kernel
theorem dX7_next_130 : decode cX7_next 130 = .ok (.iconst 5, 1) := by decide +kernel
theorem dX7_next_131 : decode cX7_next 131 = .ok (.ireturn, 1) := by decide +kernel
theorem dX7_next_132 : decode cX7_next 132 = .ok (.iload_n 1, 1) := by decide +kernel
theorem dX7_next_133 : decode cX7_next 133 = .ok (.ifCond .ne 8, 3) := by decide +kernel
theorem dX7_next_136 : decode cX7_next 136 = .ok (.bipush 6, 2) := by decide +kernel
theorem dX7_next_138 : decode cX7_next 138 = .ok (.goto 5, 3) := by decide +kernel
theorem dX7_next_141 : decode cX7_next 141 = .ok (.bipush 8, 2) := by decide +kernel
theorem dX7_next_143 : decode cX7_next 143 = .ok (.ireturn, 1) := by decide +kernel
theorem dX7_next_144 : decode cX7_next 144 = .ok (.iload_n 1, 1) := by decide +kernel
theorem dX7_next_145 : decode cX7_next 145 = .ok (.ifCond .ne 8, 3) := by decide +kernel
theorem dX7_next_148 : decode cX7_next 148 = .ok (.bipush 6, 2) := by decide +kernel
theorem dX7_next_150 : decode cX7_next 150 = .ok (.goto 5, 3) := by decide +kernel
theorem dX7_next_153 : decode cX7_next 153 = .ok (.bipush 7, 2) := by decide +kernel
theorem dX7_next_155 : decode cX7_next 155 = .ok (.ireturn, 1) := by decide +kernel
theorem dX7_next_156 : decode cX7_next 156 = .ok (.iload_n 1, 1) := by decide +kernel
theorem dX7_next_157 : decode cX7_next 157 = .ok (.ifCond .ne 7, 3) := by decide +kernel
theorem dX7_next_160 : decode cX7_next 160 = .ok (.iconst 4, 1) := by decide +kernel
theorem dX7_next_161 : decode cX7_next 161 = .ok (.goto 5, 3) := by decide +kernel
theorem dX7_next_164 : decode cX7_next 164 = .ok (.bipush 8, 2) := by decide +kernel
theorem dX7_next_166 : decode cX7_next 166 = .ok (.ireturn, 1) := by decide +kernel
theorem dX7_next_167 : decode cX7_next 167 = .ok (.iload_n 1, 1) := by decide +kernel
theorem dX7_next_168 : decode cX7_next 168 = .ok (.ifCond .ne 8, 3) := by decide +kernel
theorem dX7_next_171 : decode cX7_next 171 = .ok (.bipush 11, 2) := by decide +kernel
theorem dX7_next_173 : decode cX7_next 173 = .ok (.goto 5, 3) := by decide +kernel
theorem dX7_next_176 : decode cX7_next 176 = .ok (.bipush 12, 2) := by decide +kernel
theorem dX7_next_178 : decode cX7_next 178 = .ok (.ireturn, 1) := by decide +kernel
theorem dX7_next_179 : decode cX7_next 179 = .ok (.iload_n 1, 1) := by decide +kernel
theorem dX7_next_180 : decode cX7_next 180 = .ok (.ifCond .ne 8, 3) := by decide +kernel
theorem dX7_next_183 : decode cX7_next 183 = .ok (.bipush 13, 2) := by decide +kernel
theorem dX7_next_185 : decode cX7_next 185 = .ok (.goto 5, 3) := by decide +kernel
theorem dX7_next_188 : decode cX7_next 188 = .ok (.bipush 15, 2) := by decide +kernel
theorem dX7_next_190 : decode cX7_next 190 = .ok (.ireturn, 1) := by decide +kernel
theorem dX7_next_191 : decode cX7_next 191 = .ok (.iload_n 1, 1) := by decide +kernel
theorem dX7_next_192 : decode cX7_next 192 = .ok (.ifCond .ne 8, 3) := by decide +kernel
theorem dX7_next_195 : decode cX7_next 195 = .ok (.bipush 13, 2) := by decide +kernel
theorem dX7_next_197 : decode cX7_next 197 = .ok (.goto 5, 3) := by decide +kernel
theorem dX7_next_200 : decode cX7_next 200 = .ok (.bipush 14, 2) := by decide +kernel
theorem dX7_next_202 : decode cX7_next 202 = .ok (.ireturn, 1) := by decide +kernel
theorem dX7_next_203 : decode cX7_next 203 = .ok (.iload_n 1, 1) := by decide +kernel
theorem dX7_next_204 : decode cX7_next 204 = .ok (.ifCond .ne 8, 3) := by decide +kernel
theorem dX7_next_207 : decode cX7_next 207 = .ok (.bipush 11, 2) := by decide +kernel
theorem dX7_next_209 : decode cX7_next 209 = .ok (.goto 5, 3) := by decide +kernel
theorem dX7_next_212 : decode cX7_next 212 = .ok (.bipush 15, 2) := by decide +kernel
theorem dX7_next_214 : decode cX7_next 214 = .ok (.ireturn, 1) := by decide +kernel
theorem dX7_isShifting_0 : decode cX7_isShifting 0 = .ok (.aload_n 0, 1) := by decide +kernel
theorem dX7_isShifting_1 : decode cX7_isShifting 1 = .ok (.getfield 7, 3) := by decide +kernel
theorem dX7_isShifting_4 : decode cX7_isShifting 4 = .ok (.iconst 1, 1) := by decide +kernel
theorem dX7_isShifting_5 : decode cX7_isShifting 5 = .ok (.iaload, 1) := by decide +kernel
theorem dX7_isShifting_6 : decode cX7_isShifting 6 = .ok (.iconst 4, 1) := by decide +kernel
theorem dX7_isShifting_7 : decode cX7_isShifting 7 = .ok (.if_icmp .eq 14, 3) := by decide +kernel
theorem dX7_isShifting_10 : decode cX7_isShifting 10 = .ok (.aload_n 0, 1) := by decide +kernel
theorem dX7_isShifting_11 : decode cX7_isShifting 11 = .ok (.getfield 7, 3) := by decide +kernel
theorem dX7_isShifting_14 : decode cX7_isShifting 14 = .ok (.iconst 1, 1) := by decide +kernel
theorem dX7_isShifting_15 : decode cX7_isShifting 15 = .ok (.iaload, 1) := by decide +kernel
theorem dX7_isShifting_16 : decode cX7_isShifting 16 = .ok (.bipush 11, 2) := by decide +kernel
theorem dX7_isShifting_18 : decode cX7_isShifting 18 = .ok (.if_icmp .ne 7, 3) := by decide +kernel
theorem dX7_isShifting_21 : decode cX7_isShifting 21 = .ok (.iconst 1, 1) := by decide +kernel
theorem dX7_isShifting_22 : decode cX7_isShifting 22 = .ok (.goto 4, 3) := by decide +kernel
theorem dX7_isShifting_25 : decode cX7_isShifting 25 = .ok (.iconst 0, 1) := by decide +kernel
theorem dX7_isShifting_26 : decode cX7_isShifting 26 = .ok (.ireturn, 1) := by decide +kernel
theorem dX7_shifted_0 : decode cX7_shifted 0 = .ok (.aload_n 0, 1) := by decide +kernel
theorem dX7_shifted_1 : decode cX7_shifted 1 = .ok (.getfield 7, 3) := by decide +kernel
theorem dX7_shifted_4 : decode cX7_shifted 4 = .ok (.iconst 1, 1) := by decide +kernel
theorem dX7_shifted_5 : decode cX7_shifted 5 = .ok (.iaload, 1) := by decide +kernel
theorem dX7_shifted_6 : decode cX7_shifted 6 = .ok (.iconst 4, 1) := by decide +kernel
theorem dX7_shifted_7 : decode cX7_shifted 7 = .ok (.if_icmp .ne 8, 3) := by decide +kernel
theorem dX7_shifted_10 : decode cX7_shifted 10 = .ok (.bipush 8, 2) := by decide +kernel
theorem dX7_shifted_12 : decode cX7_shifted 12 = .ok (.goto 5, 3) := by decide +kernel
theorem dX7_shifted_15 : decode cX7_shifted 15 = .ok (.bipush 7, 2) := by decide +kernel
theorem dX7_shifted_17 : decode cX7_shifted 17 = .ok (.ireturn, 1) := by decide +kernel
theorem dX7_outputOf_0 : decode cX7_outputOf 0 = .ok (.aload_n 0, 1) := by decide +kernel
theorem dX7_outputOf_1 : decode cX7_outputOf 1 = .ok (.iload_n 1, 1) := by decide +kernel
theorem dX7_outputOf_2 : decode cX7_outputOf 2 = .ok (.iconst 5, 1) := by decide +kernel
theorem dX7_outputOf_3 : decode cX7_outputOf 3 = .ok (.invokevirtual 47, 3) := by decide +kernel
theorem dX7_outputOf_6 : decode cX7_outputOf 6 = .ok (.iconst 1, 1) := by decide +kernel
theorem dX7_outputOf_7 : decode cX7_outputOf 7 = .ok (.if_icmp .ne 7, 3) := by decide +kernel
theorem dX7_outputOf_10 : decode cX7_outputOf 10 = .ok (.iconst 1, 1) := by decide +kernel
theorem dX7_outputOf_11 : decode cX7_outputOf 11 = .ok (.goto 14, 3) := by decide +kernel
theorem dX7_outputOf_14 : decode cX7_outputOf 14 = .ok (.aload_n 0, 1) := by decide +kernel
theorem dX7_outputOf_15 : decode cX7_outputOf 15 = .ok (.iload_n 1, 1) := by decide +kernel
theorem dX7_outputOf_16 : decode cX7_outputOf 16 = .ok (.aload_n 0, 1) := by decide +kernel
theorem dX7_outputOf_17 : decode cX7_outputOf 17 = .ok (.invokevirtual 80, 3) := by decide +kernel
theorem dX7_outputOf_20 : decode cX7_outputOf 20 = .ok (.invokevirtual 47, 3) := by decide +kernel
theorem dX7_outputOf_23 : decode cX7_outputOf 23 = .ok (.iconst 1, 1) := by decide +kernel
theorem dX7_outputOf_24 : decode cX7_outputOf 24 = .ok (.iand, 1) := by decide +kernel
theorem dX7_outputOf_25 : decode cX7_outputOf 25 = .ok (.ireturn, 1) := by decide +kernel
theorem dX7_output_0 : decode cX7_output 0 = .ok (.aload_n 0, 1) := by decide +kernel
theorem dX7_output_1 : decode cX7_output 1 = .ok (.invokevirtual 84, 3) := by decide +kernel
theorem dX7_output_4 : decode cX7_output 4 = .ok (.ifCond .ne 7, 3) := by decide +kernel
theorem dX7_output_7 : decode cX7_output 7 = .ok (.iconst 1, 1) := by decide +kernel
theorem dX7_output_8 : decode cX7_output 8 = .ok (.goto 28, 3) := by decide +kernel
theorem dX7_output_11 : decode cX7_output 11 = .ok (.aload_n 0, 1) := by decide +kernel
theorem dX7_output_12 : decode cX7_output 12 = .ok (.getfield 7, 3) := by decide +kernel
theorem dX7_output_15 : decode cX7_output 15 = .ok (.iconst 0, 1) := by decide +kernel
theorem dX7_output_16 : decode cX7_output 16 = .ok (.iaload, 1) := by decide +kernel
theorem dX7_output_17 : decode cX7_output 17 = .ok (.ifCond .ne 7, 3) := by decide +kernel
theorem dX7_output_20 : decode cX7_output 20 = .ok (.iload_n 1, 1) := by decide +kernel
theorem dX7_output_21 : decode cX7_output 21 = .ok (.goto 15, 3) := by decide +kernel
theorem dX7_output_24 : decode cX7_output 24 = .ok (.aload_n 0, 1) := by decide +kernel
theorem dX7_output_25 : decode cX7_output 25 = .ok (.aload_n 0, 1) := by decide +kernel
theorem dX7_output_26 : decode cX7_output 26 = .ok (.getfield 7, 3) := by decide +kernel
theorem dX7_output_29 : decode cX7_output 29 = .ok (.iconst 0, 1) := by decide +kernel
theorem dX7_output_30 : decode cX7_output 30 = .ok (.iaload, 1) := by decide +kernel
theorem dX7_output_31 : decode cX7_output 31 = .ok (.iconst 1, 1) := by decide +kernel
theorem dX7_output_32 : decode cX7_output 32 = .ok (.isub, 1) := by decide +kernel
theorem dX7_output_33 : decode cX7_output 33 = .ok (.invokevirtual 88, 3) := by decide +kernel
theorem dX7_output_36 : decode cX7_output 36 = .ok (.ireturn, 1) := by decide +kernel
theorem dX7_shift_0 : decode cX7_shift 0 = .ok (.aload_n 0, 1) := by decide +kernel
theorem dX7_shift_1 : decode cX7_shift 1 = .ok (.invokevirtual 80, 3) := by decide +kernel
theorem dX7_shift_4 : decode cX7_shift 4 = .ok (.istore_n 2, 1) := by decide +kernel
theorem dX7_shift_5 : decode cX7_shift 5 = .ok (.aload_n 0, 1) := by decide +kernel
theorem dX7_shift_6 : decode cX7_shift 6 = .ok (.getfield 7, 3) := by decide +kernel
theorem dX7_shift_9 : decode cX7_shift 9 = .ok (.iconst 0, 1) := by decide +kernel
theorem dX7_shift_10 : decode cX7_shift 10 = .ok (.iaload, 1) := by decide +kernel
theorem dX7_shift_11 : decode cX7_shift 11 = .ok (.iconst 1, 1) := by decide +kernel
theorem dX7_shift_12 : decode cX7_shift 12 = .ok (.isub, 1) := by decide +kernel
theorem dX7_shift_13 : decode cX7_shift 13 = .ok (.istore_n 3, 1) := by decide +kernel
theorem dX7_shift_14 : decode cX7_shift 14 = .ok (.iload_n 3, 1) := by decide +kernel
theorem dX7_shift_15 : decode cX7_shift 15 = .ok (.ifCond .lt 70, 3) := by decide +kernel
theorem dX7_shift_18 : decode cX7_shift 18 = .ok (.iload_n 3, 1) := by decide +kernel
theorem dX7_shift_19 : decode cX7_shift 19 = .ok (.ifCond .ne 7, 3) := by decide +kernel
theorem dX7_shift_22 : decode cX7_shift 22 = .ok (.iload_n 1, 1) := by decide +kernel
theorem dX7_shift_23 : decode cX7_shift 23 = .ok (.goto 10, 3) := by decide +kernel
theorem dX7_shift_26 : decode cX7_shift 26 = .ok (.aload_n 0, 1) := by decide +kernel
theorem dX7_shift_27 : decode cX7_shift 27 = .ok (.iload_n 3, 1) := by decide +kernel
theorem dX7_shift_28 : decode cX7_shift 28 = .ok (.iconst 1, 1) := by decide +kernel
theorem dX7_shift_29 : decode cX7_shift 29 = .ok (.isub, 1) := by decide +kernel
theorem dX7_shift_30 : decode cX7_shift 30 = .ok (.invokevirtual 88, 3) := by decide +kernel
theorem dX7_shift_33 : decode cX7_shift 33 = .ok (.istore 4, 2) := by decide +kernel
theorem dX7_shift_35 : decode cX7_shift 35 = .ok (.iload_n 2, 1) := by decide +kernel
theorem dX7_shift_36 : decode cX7_shift 36 = .ok (.bipush 8, 2) := by decide +kernel
theorem dX7_shift_38 : decode cX7_shift 38 = .ok (.if_icmp .ne 11, 3) := by decide +kernel
theorem dX7_shift_41 : decode cX7_shift 41 = .ok (.aload_n 0, 1) := by decide +kernel
theorem dX7_shift_42 : decode cX7_shift 42 = .ok (.iload_n 3, 1) := by decide +kernel
theorem dX7_shift_43 : decode cX7_shift 43 = .ok (.invokevirtual 91, 3) := by decide +kernel
theorem dX7_shift_46 : decode cX7_shift 46 = .ok (.goto 9, 3) := by decide +kernel
theorem dX7_shift_49 : decode cX7_shift 49 = .ok (.aload_n 0, 1) := by decide +kernel
theorem dX7_shift_50 : decode cX7_shift 50 = .ok (.iload_n 3, 1) := by decide +kernel
theorem dX7_shift_51 : decode cX7_shift 51 = .ok (.iconst 0, 1) := by decide +kernel
theorem dX7_shift_52 : decode cX7_shift 52 = .ok (.invokevirtual 47, 3) := by decide +kernel
theorem dX7_shift_55 : decode cX7_shift 55 = .ok (.istore 5, 2) := by decide +kernel
theorem dX7_shift_57 : decode cX7_shift 57 = .ok (.aload_n 0, 1) := by decide +kernel
theorem dX7_shift_58 : decode cX7_shift 58 = .ok (.iload_n 3, 1) := by decide +kernel
theorem dX7_shift_59 : decode cX7_shift 59 = .ok (.iload_n 2, 1) := by decide +kernel
theorem dX7_shift_60 : decode cX7_shift 60 = .ok (.aload_n 0, 1) := by decide +kernel
theorem dX7_shift_61 : decode cX7_shift 61 = .ok (.iload_n 3, 1) := by decide +kernel
theorem dX7_shift_62 : decode cX7_shift 62 = .ok (.iload_n 2, 1) := by decide +kernel
theorem dX7_shift_63 : decode cX7_shift 63 = .ok (.invokevirtual 47, 3) := by decide +kernel
theorem dX7_shift_66 : decode cX7_shift 66 = .ok (.iconst 1, 1) := by decide +kernel
theorem dX7_shift_67 : decode cX7_shift 67 = .ok (.ishr, 1) := by decide +kernel
theorem dX7_shift_68 : decode cX7_shift 68 = .ok (.iload 4, 2) := by decide +kernel
theorem dX7_shift_70 : decode cX7_shift 70 = .ok (.iload 5, 2) := by decide +kernel
theorem dX7_shift_72 : decode cX7_shift 72 = .ok (.iconst 1, 1) := by decide +kernel
theorem dX7_shift_73 : decode cX7_shift 73 = .ok (.isub, 1) := by decide +kernel
theorem dX7_shift_74 : decode cX7_shift 74 = .ok (.ishl, 1) := by decide +kernel
theorem dX7_shift_75 : decode cX7_shift 75 = .ok (.ior, 1) := by decide +kernel
theorem dX7_shift_76 : decode cX7_shift 76 = .ok (.invokevirtual 58, 3) := by decide +kernel
theorem dX7_shift_79 : decode cX7_shift 79 = .ok (.iinc 3 (-1), 3) := by decide +kernel
theorem dX7_shift_82 : decode cX7_shift 82 = .ok (.goto (-68), 3) := by decide +kernel
theorem dX7_shift_85 : decode cX7_shift 85 = .ok (.return_, 1) := by decide +kernel
theorem dX7_work_0 : decode cX7_work 0 = .ok (.aload_n 0, 1) := by decide +kernel
theorem dX7_work_1 : decode cX7_work 1 = .ok (.getfield 7, 3) := by decide +kernel
theorem dX7_work_4 : decode cX7_work 4 = .ok (.iconst 1, 1) := by decide +kernel
theorem dX7_work_5 : decode cX7_work 5 = .ok (.iaload, 1) := by decide +kernel
theorem dX7_work_6 : decode cX7_work 6 = .ok (.lookupswitch 164 #[(0, 50), (3, 58), (8, 114), (10, 103), (15, 149)], 50) := by decide +kernel
theorem dX7_work_56 : decode cX7_work 56 = .ok (.aload_n 0, 1) := by decide +kernel
theorem dX7_work_57 : decode cX7_work 57 = .ok (.iload_n 1, 1) := by decide +kernel
theorem dX7_work_58 : decode cX7_work 58 = .ok (.invokevirtual 70, 3) := by decide +kernel
theorem dX7_work_61 : decode cX7_work 61 = .ok (.goto 109, 3) := by decide +kernel
theorem dX7_work_64 : decode cX7_work 64 = .ok (.aload_n 0, 1) := by decide +kernel
theorem dX7_work_65 : decode cX7_work 65 = .ok (.iload_n 1, 1) := by decide +kernel
theorem dX7_work_66 : decode cX7_work 66 = .ok (.bipush 8, 2) := by decide +kernel
theorem dX7_work_68 : decode cX7_work 68 = .ok (.aload_n 0, 1) := by decide +kernel
theorem dX7_work_69 : decode cX7_work 69 = .ok (.iload_n 1, 1) := by decide +kernel
theorem dX7_work_70 : decode cX7_work 70 = .ok (.invokevirtual 51, 3) := by decide +kernel
theorem dX7_work_73 : decode cX7_work 73 = .ok (.ifCond .eq 12, 3) := by decide +kernel
theorem dX7_work_76 : decode cX7_work 76 = .ok (.aload_n 0, 1) := by decide +kernel
theorem dX7_work_77 : decode cX7_work 77 = .ok (.iload_n 1, 1) := by decide +kernel
theorem dX7_work_78 : decode cX7_work 78 = .ok (.iconst 3, 1) := by decide +kernel
theorem dX7_work_79 : decode cX7_work 79 = .ok (.invokevirtual 47, 3) := by decide +kernel
theorem dX7_work_82 : decode cX7_work 82 = .ok (.goto 21, 3) := by decide +kernel
theorem dX7_work_85 : decode cX7_work 85 = .ok (.aload_n 0, 1) := by decide +kernel
theorem dX7_work_86 : decode cX7_work 86 = .ok (.iload_n 1, 1) := by decide +kernel
theorem dX7_work_87 : decode cX7_work 87 = .ok (.invokevirtual 55, 3) := by decide +kernel
theorem dX7_work_90 : decode cX7_work 90 = .ok (.ifCond .eq 12, 3) := by decide +kernel
theorem dX7_work_93 : decode cX7_work 93 = .ok (.aload_n 0, 1) := by decide +kernel
theorem dX7_work_94 : decode cX7_work 94 = .ok (.iload_n 1, 1) := by decide +kernel
theorem dX7_work_95 : decode cX7_work 95 = .ok (.iconst 1, 1) := by decide +kernel
theorem dX7_work_96 : decode cX7_work 96 = .ok (.invokevirtual 47, 3) := by decide +kernel
theorem dX7_work_99 : decode cX7_work 99 = .ok (.goto 4, 3) := by decide +kernel
theorem dX7_work_102 : decode cX7_work 102 = .ok (.iconst 0, 1) := by decide +kernel
theorem dX7_work_103 : decode cX7_work 103 = .ok (.invokevirtual 58, 3) := by decide +kernel
theorem dX7_work_106 : decode cX7_work 106 = .ok (.goto 64, 3) := by decide +kernel
theorem dX7_work_109 : decode cX7_work 109 = .ok (.aload_n 0, 1) := by decide +kernel
theorem dX7_work_110 : decode cX7_work 110 = .ok (.iload_n 1, 1) := by decide +kernel
theorem dX7_work_111 : decode cX7_work 111 = .ok (.bipush 7, 2) := by decide +kernel
theorem dX7_work_113 : decode cX7_work 113 = .ok (.iconst 1, 1) := by decide +kernel
theorem dX7_work_114 : decode cX7_work 114 = .ok (.invokevirtual 58, 3) := by decide +kernel
theorem dX7_work_117 : decode cX7_work 117 = .ok (.goto 53, 3) := by decide +kernel
theorem dX7_work_120 : decode cX7_work 120 = .ok (.aload_n 0, 1) := by decide +kernel
theorem dX7_work_121 : decode cX7_work 121 = .ok (.iload_n 1, 1) := by decide +kernel
theorem dX7_work_122 : decode cX7_work 122 = .ok (.iconst 4, 1) := by decide +kernel
theorem dX7_work_123 : decode cX7_work 123 = .ok (.aload_n 0, 1) := by decide +kernel
theorem dX7_work_124 : decode cX7_work 124 = .ok (.iload_n 1, 1) := by decide +kernel
theorem dX7_work_125 : decode cX7_work 125 = .ok (.bipush 6, 2) := by decide +kernel
theorem dX7_work_127 : decode cX7_work 127 = .ok (.invokevirtual 47, 3) := by decide +kernel
theorem dX7_work_130 : decode cX7_work 130 = .ok (.ifCond .ne 13, 3) := by decide +kernel
theorem dX7_work_133 : decode cX7_work 133 = .ok (.aload_n 0, 1) := by decide +kernel
theorem dX7_work_134 : decode cX7_work 134 = .ok (.iload_n 1, 1) := by decide +kernel
theorem dX7_work_135 : decode cX7_work 135 = .ok (.bipush 8, 2) := by decide +kernel
theorem dX7_work_137 : decode cX7_work 137 = .ok (.invokevirtual 47, 3) := by decide +kernel
theorem dX7_work_140 : decode cX7_work 140 = .ok (.goto 9, 3) := by decide +kernel
theorem dX7_work_143 : decode cX7_work 143 = .ok (.aload_n 0, 1) := by decide +kernel
theorem dX7_work_144 : decode cX7_work 144 = .ok (.iload_n 1, 1) := by decide +kernel
theorem dX7_work_145 : decode cX7_work 145 = .ok (.iconst 4, 1) := by decide +kernel
theorem dX7_work_146 : decode cX7_work 146 = .ok (.invokevirtual 47, 3) := by decide +kernel
theorem dX7_work_149 : decode cX7_work 149 = .ok (.invokevirtual 58, 3) := by decide +kernel
theorem dX7_work_152 : decode cX7_work 152 = .ok (.goto 18, 3) := by decide +kernel
theorem dX7_work_155 : decode cX7_work 155 = .ok (.aload_n 0, 1) := by decide +kernel
theorem dX7_work_156 : decode cX7_work 156 = .ok (.iload_n 1, 1) := by decide +kernel
theorem dX7_work_157 : decode cX7_work 157 = .ok (.aload_n 0, 1) := by decide +kernel
theorem dX7_work_158 : decode cX7_work 158 = .ok (.iload_n 1, 1) := by decide +kernel
theorem dX7_work_159 : decode cX7_work 159 = .ok (.bipush 7, 2) := by decide +kernel
theorem dX7_work_161 : decode cX7_work 161 = .ok (.invokevirtual 47, 3) := by decide +kernel
theorem dX7_work_164 : decode cX7_work 164 = .ok (.invokevirtual 66, 3) := by decide +kernel
theorem dX7_work_167 : decode cX7_work 167 = .ok (.goto 3, 3) := by decide +kernel
theorem dX7_work_170 : decode cX7_work 170 = .ok (.return_, 1) := by decide +kernel
theorem dX7_clockNow_0 : decode cX7_clockNow 0 = .ok (.aload_n 0, 1) := by decide +kernel
theorem dX7_clockNow_1 : decode cX7_clockNow 1 = .ok (.iload_n 2, 1) := by decide +kernel
theorem dX7_clockNow_2 : decode cX7_clockNow 2 = .ok (.invokevirtual 94, 3) := by decide +kernel
theorem dX7_clockNow_5 : decode cX7_clockNow 5 = .ok (.istore_n 3, 1) := by decide +kernel
theorem dX7_clockNow_6 : decode cX7_clockNow 6 = .ok (.aload_n 0, 1) := by decide +kernel
theorem dX7_clockNow_7 : decode cX7_clockNow 7 = .ok (.invokevirtual 84, 3) := by decide +kernel
theorem dX7_clockNow_10 : decode cX7_clockNow 10 = .ok (.ifCond .eq 8, 3) := by decide +kernel
theorem dX7_clockNow_13 : decode cX7_clockNow 13 = .ok (.aload_n 0, 1) := by decide +kernel
theorem dX7_clockNow_14 : decode cX7_clockNow 14 = .ok (.iload_n 2, 1) := by decide +kernel
theorem dX7_clockNow_15 : decode cX7_clockNow 15 = .ok (.invokevirtual 97, 3) := by decide +kernel
theorem dX7_clockNow_18 : decode cX7_clockNow 18 = .ok (.iconst 0, 1) := by decide +kernel
theorem dX7_clockNow_19 : decode cX7_clockNow 19 = .ok (.istore 4, 2) := by decide +kernel
theorem dX7_clockNow_21 : decode cX7_clockNow 21 = .ok (.iload 4, 2) := by decide +kernel
theorem dX7_clockNow_23 : decode cX7_clockNow 23 = .ok (.aload_n 0, 1) := by decide +kernel
theorem dX7_clockNow_24 : decode cX7_clockNow 24 = .ok (.getfield 7, 3) := by decide +kernel
theorem dX7_clockNow_27 : decode cX7_clockNow 27 = .ok (.iconst 0, 1) := by decide +kernel
theorem dX7_clockNow_28 : decode cX7_clockNow 28 = .ok (.iaload, 1) := by decide +kernel
theorem dX7_clockNow_29 : decode cX7_clockNow 29 = .ok (.if_icmp .ge 15, 3) := by decide +kernel
theorem dX7_clockNow_32 : decode cX7_clockNow 32 = .ok (.aload_n 0, 1) := by decide +kernel
theorem dX7_clockNow_33 : decode cX7_clockNow 33 = .ok (.iload 4, 2) := by decide +kernel
theorem dX7_clockNow_35 : decode cX7_clockNow 35 = .ok (.invokevirtual 100, 3) := by decide +kernel
theorem dX7_clockNow_38 : decode cX7_clockNow 38 = .ok (.iinc 4 1, 3) := by decide +kernel
theorem dX7_clockNow_41 : decode cX7_clockNow 41 = .ok (.goto (-20), 3) := by decide +kernel
theorem dX7_clockNow_44 : decode cX7_clockNow 44 = .ok (.aload_n 0, 1) := by decide +kernel
theorem dX7_clockNow_45 : decode cX7_clockNow 45 = .ok (.getfield 7, 3) := by decide +kernel
theorem dX7_clockNow_48 : decode cX7_clockNow 48 = .ok (.iconst 1, 1) := by decide +kernel
theorem dX7_clockNow_49 : decode cX7_clockNow 49 = .ok (.aload_n 0, 1) := by decide +kernel
theorem dX7_clockNow_50 : decode cX7_clockNow 50 = .ok (.getfield 7, 3) := by decide +kernel
theorem dX7_clockNow_53 : decode cX7_clockNow 53 = .ok (.iconst 1, 1) := by decide +kernel
theorem dX7_clockNow_54 : decode cX7_clockNow 54 = .ok (.iaload, 1) := by decide +kernel
theorem dX7_clockNow_55 : decode cX7_clockNow 55 = .ok (.iload_n 1, 1) := by decide +kernel
theorem dX7_clockNow_56 : decode cX7_clockNow 56 = .ok (.invokestatic 103, 3) := by decide +kernel
theorem dX7_clockNow_59 : decode cX7_clockNow 59 = .ok (.iastore, 1) := by decide +kernel
theorem dX7_clockNow_60 : decode cX7_clockNow 60 = .ok (.aload_n 0, 1) := by decide +kernel
theorem dX7_clockNow_61 : decode cX7_clockNow 61 = .ok (.getfield 7, 3) := by decide +kernel
theorem dX7_clockNow_64 : decode cX7_clockNow 64 = .ok (.iconst 2, 1) := by decide +kernel
theorem dX7_clockNow_65 : decode cX7_clockNow 65 = .ok (.dup2, 1) := by decide +kernel
theorem dX7_clockNow_66 : decode cX7_clockNow 66 = .ok (.iaload, 1) := by decide +kernel
theorem dX7_clockNow_67 : decode cX7_clockNow 67 = .ok (.iconst 1, 1) := by decide +kernel
theorem dX7_clockNow_68 : decode cX7_clockNow 68 = .ok (.iadd, 1) := by decide +kernel
theorem dX7_clockNow_69 : decode cX7_clockNow 69 = .ok (.iastore, 1) := by decide +kernel
theorem dX7_clockNow_70 : decode cX7_clockNow 70 = .ok (.iload_n 3, 1) := by decide +kernel
theorem dX7_clockNow_71 : decode cX7_clockNow 71 = .ok (.ireturn, 1) := by decide +kernel
theorem dX7_clock_0 : decode cX7_clock 0 = .ok (.iload_n 1, 1) := by decide +kernel
theorem dX7_clock_1 : decode cX7_clock 1 = .ok (.iconst 0, 1) := by decide +kernel
theorem dX7_clock_2 : decode cX7_clock 2 = .ok (.iconst 1, 1) := by decide +kernel
theorem dX7_clock_3 : decode cX7_clock 3 = .ok (.invokestatic 28, 3) := by decide +kernel
theorem dX7_clock_6 : decode cX7_clock 6 = .ok (.ifCond .eq 12, 3) := by decide +kernel
theorem dX7_clock_9 : decode cX7_clock 9 = .ok (.iload_n 2, 1) := by decide +kernel
theorem dX7_clock_10 : decode cX7_clock 10 = .ok (.iconst 0, 1) := by decide +kernel
theorem dX7_clock_11 : decode cX7_clock 11 = .ok (.iconst 1, 1) := by decide +kernel
theorem dX7_clock_12 : decode cX7_clock 12 = .ok (.invokestatic 28, 3) := by decide +kernel
theorem dX7_clock_15 : decode cX7_clock 15 = .ok (.ifCond .ne 6, 3) := by decide +kernel
theorem dX7_clock_18 : decode cX7_clock 18 = .ok (.bipush (-2), 2) := by decide +kernel
theorem dX7_clock_20 : decode cX7_clock 20 = .ok (.ireturn, 1) := by decide +kernel
theorem dX7_clock_21 : decode cX7_clock 21 = .ok (.aload_n 0, 1) := by decide +kernel
theorem dX7_clock_22 : decode cX7_clock 22 = .ok (.invokevirtual 44, 3) := by decide +kernel
theorem dX7_clock_25 : decode cX7_clock 25 = .ok (.aload_n 0, 1) := by decide +kernel
theorem dX7_clock_26 : decode cX7_clock 26 = .ok (.iload_n 1, 1) := by decide +kernel
theorem dX7_clock_27 : decode cX7_clock 27 = .ok (.iload_n 2, 1) := by decide +kernel
theorem dX7_clock_28 : decode cX7_clock 28 = .ok (.invokevirtual 106, 3) := by decide +kernel
theorem dX7_clock_31 : decode cX7_clock 31 = .ok (.ireturn, 1) := by decide +kernel
theorem dX7_measure_0 : decode cX7_measure 0 = .ok (.iconst 0, 1) := by decide +kernel
theorem dX7_measure_1 : decode cX7_measure 1 = .ok (.istore_n 2, 1) := by decide +kernel
theorem dX7_measure_2 : decode cX7_measure 2 = .ok (.iload_n 2, 1) := by decide +kernel
theorem dX7_measure_3 : decode cX7_measure 3 = .ok (.bipush 16, 2) := by decide +kernel
theorem dX7_measure_5 : decode cX7_measure 5 = .ok (.if_icmp .ge 26, 3) := by decide +kernel
theorem dX7_measure_8 : decode cX7_measure 8 = .ok (.aload_n 0, 1) := by decide +kernel
theorem dX7_measure_9 : decode cX7_measure 9 = .ok (.getfield 25, 3) := by decide +kernel
theorem dX7_measure_12 : decode cX7_measure 12 = .ok (.iload_n 2, 1) := by decide +kernel
theorem dX7_measure_13 : decode cX7_measure 13 = .ok (.iload_n 2, 1) := by decide +kernel
theorem dX7_measure_14 : decode cX7_measure 14 = .ok (.iload_n 1, 1) := by decide +kernel
theorem dX7_measure_15 : decode cX7_measure 15 = .ok (.if_icmp .ne 7, 3) := by decide +kernel
theorem dX7_measure_18 : decode cX7_measure 18 = .ok (.iconst 0, 1) := by decide +kernel
theorem dX7_measure_19 : decode cX7_measure 19 = .ok (.goto 5, 3) := by decide +kernel
theorem dX7_measure_22 : decode cX7_measure 22 = .ok (.bipush 16, 2) := by decide +kernel
theorem dX7_measure_24 : decode cX7_measure 24 = .ok (.iastore, 1) := by decide +kernel
theorem dX7_measure_25 : decode cX7_measure 25 = .ok (.iinc 2 1, 3) := by decide +kernel
theorem dX7_measure_28 : decode cX7_measure 28 = .ok (.goto (-26), 3) := by decide +kernel
theorem dX7_measure_31 : decode cX7_measure 31 = .ok (.iconst 0, 1) := by decide +kernel
theorem dX7_measure_32 : decode cX7_measure 32 = .ok (.istore_n 2, 1) := by decide +kernel
theorem dX7_measure_33 : decode cX7_measure 33 = .ok (.iload_n 2, 1) := by decide +kernel
theorem dX7_measure_34 : decode cX7_measure 34 = .ok (.bipush 16, 2) := by decide +kernel
theorem dX7_measure_36 : decode cX7_measure 36 = .ok (.if_icmp .ge 81, 3) := by decide +kernel
theorem dX7_measure_39 : decode cX7_measure 39 = .ok (.iconst 0, 1) := by decide +kernel
theorem dX7_measure_40 : decode cX7_measure 40 = .ok (.istore_n 3, 1) := by decide +kernel
theorem dX7_measure_41 : decode cX7_measure 41 = .ok (.iload_n 3, 1) := by decide +kernel
theorem dX7_measure_42 : decode cX7_measure 42 = .ok (.bipush 16, 2) := by decide +kernel
theorem dX7_measure_44 : decode cX7_measure 44 = .ok (.if_icmp .ge 67, 3) := by decide +kernel
theorem dX7_measure_47 : decode cX7_measure 47 = .ok (.iconst 0, 1) := by decide +kernel
theorem dX7_measure_48 : decode cX7_measure 48 = .ok (.istore 4, 2) := by decide +kernel
theorem dX7_measure_50 : decode cX7_measure 50 = .ok (.iload 4, 2) := by decide +kernel
theorem dX7_measure_52 : decode cX7_measure 52 = .ok (.iconst 2, 1) := by decide +kernel
theorem dX7_measure_53 : decode cX7_measure 53 = .ok (.if_icmp .ge 52, 3) := by decide +kernel
theorem dX7_measure_56 : decode cX7_measure 56 = .ok (.aload_n 0, 1) := by decide +kernel
theorem dX7_measure_57 : decode cX7_measure 57 = .ok (.getfield 25, 3) := by decide +kernel
theorem dX7_measure_60 : decode cX7_measure 60 = .ok (.iload_n 3, 1) := by decide +kernel
theorem dX7_measure_61 : decode cX7_measure 61 = .ok (.iload 4, 2) := by decide +kernel
theorem dX7_measure_63 : decode cX7_measure 63 = .ok (.invokestatic 103, 3) := by decide +kernel
theorem dX7_measure_66 : decode cX7_measure 66 = .ok (.iaload, 1) := by decide +kernel
theorem dX7_measure_67 : decode cX7_measure 67 = .ok (.iconst 1, 1) := by decide +kernel
theorem dX7_measure_68 : decode cX7_measure 68 = .ok (.iadd, 1) := by decide +kernel
theorem dX7_measure_69 : decode cX7_measure 69 = .ok (.istore 5, 2) := by decide +kernel
theorem dX7_measure_71 : decode cX7_measure 71 = .ok (.aload_n 0, 1) := by decide +kernel
theorem dX7_measure_72 : decode cX7_measure 72 = .ok (.getfield 25, 3) := by decide +kernel
theorem dX7_measure_75 : decode cX7_measure 75 = .ok (.iload_n 3, 1) := by decide +kernel
theorem dX7_measure_76 : decode cX7_measure 76 = .ok (.iload 5, 2) := by decide +kernel
theorem dX7_measure_78 : decode cX7_measure 78 = .ok (.aload_n 0, 1) := by decide +kernel
theorem dX7_measure_79 : decode cX7_measure 79 = .ok (.getfield 25, 3) := by decide +kernel
theorem dX7_measure_82 : decode cX7_measure 82 = .ok (.iload_n 3, 1) := by decide +kernel
theorem dX7_measure_83 : decode cX7_measure 83 = .ok (.iaload, 1) := by decide +kernel
theorem dX7_measure_84 : decode cX7_measure 84 = .ok (.if_icmp .ge 8, 3) := by decide +kernel
theorem dX7_measure_87 : decode cX7_measure 87 = .ok (.iload 5, 2) := by decide +kernel
theorem dX7_measure_89 : decode cX7_measure 89 = .ok (.goto 9, 3) := by decide +kernel
theorem dX7_measure_92 : decode cX7_measure 92 = .ok (.aload_n 0, 1) := by decide +kernel
theorem dX7_measure_93 : decode cX7_measure 93 = .ok (.getfield 25, 3) := by decide +kernel
theorem dX7_measure_96 : decode cX7_measure 96 = .ok (.iload_n 3, 1) := by decide +kernel
theorem dX7_measure_97 : decode cX7_measure 97 = .ok (.iaload, 1) := by decide +kernel
theorem dX7_measure_98 : decode cX7_measure 98 = .ok (.iastore, 1) := by decide +kernel
theorem dX7_measure_99 : decode cX7_measure 99 = .ok (.iinc 4 1, 3) := by decide +kernel
theorem dX7_measure_102 : decode cX7_measure 102 = .ok (.goto (-52), 3) := by decide +kernel
theorem dX7_measure_105 : decode cX7_measure 105 = .ok (.iinc 3 1, 3) := by decide +kernel
theorem dX7_measure_108 : decode cX7_measure 108 = .ok (.goto (-67), 3) := by decide +kernel
theorem dX7_measure_111 : decode cX7_measure 111 = .ok (.iinc 2 1, 3) := by decide +kernel
theorem dX7_measure_114 : decode cX7_measure 114 = .ok (.goto (-81), 3) := by decide +kernel
theorem dX7_measure_117 : decode cX7_measure 117 = .ok (.return_, 1) := by decide +kernel
theorem dX7_moveNow_0 : decode cX7_moveNow 0 = .ok (.aload_n 0, 1) := by decide +kernel
theorem dX7_moveNow_1 : decode cX7_moveNow 1 = .ok (.iload_n 1, 1) := by decide +kernel
theorem dX7_moveNow_2 : decode cX7_moveNow 2 = .ok (.invokevirtual 109, 3) := by decide +kernel
theorem dX7_moveNow_5 : decode cX7_moveNow 5 = .ok (.iconst 0, 1) := by decide +kernel
theorem dX7_moveNow_6 : decode cX7_moveNow 6 = .ok (.istore_n 2, 1) := by decide +kernel
theorem dX7_moveNow_7 : decode cX7_moveNow 7 = .ok (.aload_n 0, 1) := by decide +kernel
theorem dX7_moveNow_8 : decode cX7_moveNow 8 = .ok (.getfield 7, 3) := by decide +kernel
theorem dX7_moveNow_11 : decode cX7_moveNow 11 = .ok (.iconst 1, 1) := by decide +kernel
theorem dX7_moveNow_12 : decode cX7_moveNow 12 = .ok (.iaload, 1) := by decide +kernel
theorem dX7_moveNow_13 : decode cX7_moveNow 13 = .ok (.iload_n 1, 1) := by decide +kernel
theorem dX7_moveNow_14 : decode cX7_moveNow 14 = .ok (.if_icmp .eq 51, 3) := by decide +kernel
theorem dX7_moveNow_17 : decode cX7_moveNow 17 = .ok (.aload_n 0, 1) := by decide +kernel
theorem dX7_moveNow_18 : decode cX7_moveNow 18 = .ok (.getfield 25, 3) := by decide +kernel
theorem dX7_moveNow_21 : decode cX7_moveNow 21 = .ok (.aload_n 0, 1) := by decide +kernel
theorem dX7_moveNow_22 : decode cX7_moveNow 22 = .ok (.getfield 7, 3) := by decide +kernel
theorem dX7_moveNow_25 : decode cX7_moveNow 25 = .ok (.iconst 1, 1) := by decide +kernel
theorem dX7_moveNow_26 : decode cX7_moveNow 26 = .ok (.iaload, 1) := by decide +kernel
theorem dX7_moveNow_27 : decode cX7_moveNow 27 = .ok (.iconst 0, 1) := by decide +kernel
theorem dX7_moveNow_28 : decode cX7_moveNow 28 = .ok (.invokestatic 103, 3) := by decide +kernel
theorem dX7_moveNow_31 : decode cX7_moveNow 31 = .ok (.iaload, 1) := by decide +kernel
theorem dX7_moveNow_32 : decode cX7_moveNow 32 = .ok (.aload_n 0, 1) := by decide +kernel
theorem dX7_moveNow_33 : decode cX7_moveNow 33 = .ok (.getfield 25, 3) := by decide +kernel
theorem dX7_moveNow_36 : decode cX7_moveNow 36 = .ok (.aload_n 0, 1) := by decide +kernel
theorem dX7_moveNow_37 : decode cX7_moveNow 37 = .ok (.getfield 7, 3) := by decide +kernel
theorem dX7_moveNow_40 : decode cX7_moveNow 40 = .ok (.iconst 1, 1) := by decide +kernel
theorem dX7_moveNow_41 : decode cX7_moveNow 41 = .ok (.iaload, 1) := by decide +kernel
theorem dX7_moveNow_42 : decode cX7_moveNow 42 = .ok (.iaload, 1) := by decide +kernel
theorem dX7_moveNow_43 : decode cX7_moveNow 43 = .ok (.if_icmp .ge 7, 3) := by decide +kernel
theorem dX7_moveNow_46 : decode cX7_moveNow 46 = .ok (.iconst 0, 1) := by decide +kernel
theorem dX7_moveNow_47 : decode cX7_moveNow 47 = .ok (.goto 4, 3) := by decide +kernel
theorem dX7_moveNow_50 : decode cX7_moveNow 50 = .ok (.iconst 1, 1) := by decide +kernel
theorem dX7_moveNow_51 : decode cX7_moveNow 51 = .ok (.istore_n 3, 1) := by decide +kernel
theorem dX7_moveNow_52 : decode cX7_moveNow 52 = .ok (.aload_n 0, 1) := by decide +kernel
theorem dX7_moveNow_53 : decode cX7_moveNow 53 = .ok (.iload_n 3, 1) := by decide +kernel
theorem dX7_moveNow_54 : decode cX7_moveNow 54 = .ok (.iconst 1, 1) := by decide +kernel
theorem dX7_moveNow_55 : decode cX7_moveNow 55 = .ok (.invokevirtual 106, 3) := by decide +kernel
theorem dX7_moveNow_58 : decode cX7_moveNow 58 = .ok (.pop, 1) := by decide +kernel
theorem dX7_moveNow_59 : decode cX7_moveNow 59 = .ok (.iinc 2 1, 3) := by decide +kernel
theorem dX7_moveNow_62 : decode cX7_moveNow 62 = .ok (.goto (-55), 3) := by decide +kernel
theorem dX7_moveNow_65 : decode cX7_moveNow 65 = .ok (.iload_n 2, 1) := by decide +kernel
theorem dX7_moveNow_66 : decode cX7_moveNow 66 = .ok (.ireturn, 1) := by decide +kernel
theorem dX7_move_0 : decode cX7_move 0 = .ok (.iload_n 1, 1) := by decide +kernel
theorem dX7_move_1 : decode cX7_move 1 = .ok (.iconst 0, 1) := by decide +kernel
theorem dX7_move_2 : decode cX7_move 2 = .ok (.bipush 15, 2) := by decide +kernel
theorem dX7_move_4 : decode cX7_move 4 = .ok (.invokestatic 28, 3) := by decide +kernel
theorem dX7_move_7 : decode cX7_move 7 = .ok (.ifCond .ne 6, 3) := by decide +kernel
theorem dX7_move_10 : decode cX7_move 10 = .ok (.bipush (-2), 2) := by decide +kernel
theorem dX7_move_12 : decode cX7_move 12 = .ok (.ireturn, 1) := by decide +kernel
theorem dX7_move_13 : decode cX7_move 13 = .ok (.aload_n 0, 1) := by decide +kernel
theorem dX7_move_14 : decode cX7_move 14 = .ok (.invokevirtual 44, 3) := by decide +kernel
theorem dX7_move_17 : decode cX7_move 17 = .ok (.aload_n 0, 1) := by decide +kernel
theorem dX7_move_18 : decode cX7_move 18 = .ok (.iload_n 1, 1) := by decide +kernel
theorem dX7_move_19 : decode cX7_move 19 = .ok (.invokevirtual 112, 3) := by decide +kernel
theorem dX7_move_22 : decode cX7_move 22 = .ok (.ireturn, 1) := by decide +kernel
theorem dX7_readOne_0 : decode cX7_readOne 0 = .ok (.aload_n 0, 1) := by decide +kernel
theorem dX7_readOne_1 : decode cX7_readOne 1 = .ok (.iconst 0, 1) := by decide +kernel
theorem dX7_readOne_2 : decode cX7_readOne 2 = .ok (.iconst 1, 1) := by decide +kernel
theorem dX7_readOne_3 : decode cX7_readOne 3 = .ok (.invokevirtual 106, 3) := by decide +kernel
theorem dX7_readOne_6 : decode cX7_readOne 6 = .ok (.ifCond .ne 5, 3) := by decide +kernel
theorem dX7_readOne_9 : decode cX7_readOne 9 = .ok (.iconst 0, 1) := by decide +kernel
theorem dX7_readOne_10 : decode cX7_readOne 10 = .ok (.ireturn, 1) := by decide +kernel
theorem dX7_readOne_11 : decode cX7_readOne 11 = .ok (.iconst 1, 1) := by decide +kernel
theorem dX7_readOne_12 : decode cX7_readOne 12 = .ok (.istore_n 1, 1) := by decide +kernel
theorem dX7_readOne_13 : decode cX7_readOne 13 = .ok (.iconst 1, 1) := by decide +kernel
theorem dX7_readOne_14 : decode cX7_readOne 14 = .ok (.istore_n 2, 1) := by decide +kernel
theorem dX7_readOne_15 : decode cX7_readOne 15 = .ok (.iload_n 2, 1) := by decide +kernel
theorem dX7_readOne_16 : decode cX7_readOne 16 = .ok (.bipush 8, 2) := by decide +kernel
theorem dX7_readOne_18 : decode cX7_readOne 18 = .ok (.if_icmp .ge 20, 3) := by decide +kernel
theorem dX7_readOne_21 : decode cX7_readOne 21 = .ok (.iload_n 1, 1) := by decide +kernel
theorem dX7_readOne_22 : decode cX7_readOne 22 = .ok (.aload_n 0, 1) := by decide +kernel
theorem dX7_readOne_23 : decode cX7_readOne 23 = .ok (.iconst 0, 1) := by decide +kernel
theorem dX7_readOne_24 : decode cX7_readOne 24 = .ok (.iconst 1, 1) := by decide +kernel
theorem dX7_readOne_25 : decode cX7_readOne 25 = .ok (.invokevirtual 106, 3) := by decide +kernel
theorem dX7_readOne_28 : decode cX7_readOne 28 = .ok (.iload_n 2, 1) := by decide +kernel
theorem dX7_readOne_29 : decode cX7_readOne 29 = .ok (.ishl, 1) := by decide +kernel
theorem dX7_readOne_30 : decode cX7_readOne 30 = .ok (.ior, 1) := by decide +kernel
theorem dX7_readOne_31 : decode cX7_readOne 31 = .ok (.istore_n 1, 1) := by decide +kernel
theorem dX7_readOne_32 : decode cX7_readOne 32 = .ok (.iinc 2 1, 3) := by decide +kernel
theorem dX7_readOne_35 : decode cX7_readOne 35 = .ok (.goto (-20), 3) := by decide +kernel
theorem dX7_readOne_38 : decode cX7_readOne 38 = .ok (.iload_n 1, 1) := by decide +kernel
theorem dX7_readOne_39 : decode cX7_readOne 39 = .ok (.ireturn, 1) := by decide +kernel
theorem dX7_identifyNow_0 : decode cX7_identifyNow 0 = .ok (.iconst 0, 1) := by decide +kernel
theorem dX7_identifyNow_1 : decode cX7_identifyNow 1 = .ok (.istore_n 1, 1) := by decide +kernel
theorem dX7_identifyNow_2 : decode cX7_identifyNow 2 = .ok (.iload_n 1, 1) := by decide +kernel
theorem dX7_identifyNow_3 : decode cX7_identifyNow 3 = .ok (.iconst 5, 1) := by decide +kernel
theorem dX7_identifyNow_4 : decode cX7_identifyNow 4 = .ok (.if_icmp .ge 16, 3) := by decide +kernel
theorem dX7_identifyNow_7 : decode cX7_identifyNow 7 = .ok (.aload_n 0, 1) := by decide +kernel
theorem dX7_identifyNow_8 : decode cX7_identifyNow 8 = .ok (.iconst 1, 1) := by decide +kernel
theorem dX7_identifyNow_9 : decode cX7_identifyNow 9 = .ok (.iconst 1, 1) := by decide +kernel
theorem dX7_identifyNow_10 : decode cX7_identifyNow 10 = .ok (.invokevirtual 106, 3) := by decide +kernel
theorem dX7_identifyNow_13 : decode cX7_identifyNow 13 = .ok (.pop, 1) := by decide +kernel
theorem dX7_identifyNow_14 : decode cX7_identifyNow 14 = .ok (.iinc 1 1, 3) := by decide +kernel
theorem dX7_identifyNow_17 : decode cX7_identifyNow 17 = .ok (.goto (-15), 3) := by decide +kernel
theorem dX7_identifyNow_20 : decode cX7_identifyNow 20 = .ok (.aload_n 0, 1) := by decide +kernel
theorem dX7_identifyNow_21 : decode cX7_identifyNow 21 = .ok (.iconst 4, 1) := by decide +kernel
theorem dX7_identifyNow_22 : decode cX7_identifyNow 22 = .ok (.invokevirtual 112, 3) := by decide +kernel
theorem dX7_identifyNow_25 : decode cX7_identifyNow 25 = .ok (.pop, 1) := by decide +kernel
theorem dX7_identifyNow_26 : decode cX7_identifyNow 26 = .ok (.aload_n 0, 1) := by decide +kernel
theorem dX7_identifyNow_27 : decode cX7_identifyNow 27 = .ok (.getfield 7, 3) := by decide +kernel
theorem dX7_identifyNow_30 : decode cX7_identifyNow 30 = .ok (.iconst 3, 1) := by decide +kernel
theorem dX7_identifyNow_31 : decode cX7_identifyNow 31 = .ok (.iconst 0, 1) := by decide +kernel
theorem dX7_identifyNow_32 : decode cX7_identifyNow 32 = .ok (.iastore, 1) := by decide +kernel
theorem dX7_identifyNow_33 : decode cX7_identifyNow 33 = .ok (.iconst 0, 1) := by decide +kernel
theorem dX7_identifyNow_34 : decode cX7_identifyNow 34 = .ok (.istore_n 1, 1) := by decide +kernel
theorem dX7_identifyNow_35 : decode cX7_identifyNow 35 = .ok (.iload_n 1, 1) := by decide +kernel
theorem dX7_identifyNow_36 : decode cX7_identifyNow 36 = .ok (.bipush 8, 2) := by decide +kernel
theorem dX7_identifyNow_38 : decode cX7_identifyNow 38 = .ok (.if_icmp .ge 18, 3) := by decide +kernel
theorem dX7_identifyNow_41 : decode cX7_identifyNow 41 = .ok (.aload_n 0, 1) := by decide +kernel
theorem dX7_identifyNow_42 : decode cX7_identifyNow 42 = .ok (.getfield 7, 3) := by decide +kernel
theorem dX7_identifyNow_45 : decode cX7_identifyNow 45 = .ok (.iconst 4, 1) := by decide +kernel
theorem dX7_identifyNow_46 : decode cX7_identifyNow 46 = .ok (.iload_n 1, 1) := by decide +kernel
theorem dX7_identifyNow_47 : decode cX7_identifyNow 47 = .ok (.iadd, 1) := by decide +kernel
theorem dX7_identifyNow_48 : decode cX7_identifyNow 48 = .ok (.iconst 0, 1) := by decide +kernel
theorem dX7_identifyNow_49 : decode cX7_identifyNow 49 = .ok (.iastore, 1) := by decide +kernel
theorem dX7_identifyNow_50 : decode cX7_identifyNow 50 = .ok (.iinc 1 1, 3) := by decide +kernel
theorem dX7_identifyNow_53 : decode cX7_identifyNow 53 = .ok (.goto (-18), 3) := by decide +kernel
theorem dX7_identifyNow_56 : decode cX7_identifyNow 56 = .ok (.iconst 1, 1) := by decide +kernel
theorem dX7_identifyNow_57 : decode cX7_identifyNow 57 = .ok (.istore_n 1, 1) := by decide +kernel
theorem dX7_identifyNow_58 : decode cX7_identifyNow 58 = .ok (.iload_n 1, 1) := by decide +kernel
theorem dX7_identifyNow_59 : decode cX7_identifyNow 59 = .ok (.ifCond .eq 69, 3) := by decide +kernel
theorem dX7_identifyNow_62 : decode cX7_identifyNow 62 = .ok (.aload_n 0, 1) := by decide +kernel
theorem dX7_identifyNow_63 : decode cX7_identifyNow 63 = .ok (.invokevirtual 115, 3) := by decide +kernel
theorem dX7_identifyNow_66 : decode cX7_identifyNow 66 = .ok (.istore_n 2, 1) := by decide +kernel
theorem dX7_identifyNow_67 : decode cX7_identifyNow 67 = .ok (.iload_n 2, 1) := by decide +kernel
theorem dX7_identifyNow_68 : decode cX7_identifyNow 68 = .ok (.sipush 255, 3) := by decide +kernel
theorem dX7_identifyNow_71 : decode cX7_identifyNow 71 = .ok (.if_icmp .eq 7, 3) := by decide +kernel
theorem dX7_identifyNow_74 : decode cX7_identifyNow 74 = .ok (.iconst 1, 1) := by decide +kernel
theorem dX7_identifyNow_75 : decode cX7_identifyNow 75 = .ok (.goto 4, 3) := by decide +kernel
theorem dX7_identifyNow_78 : decode cX7_identifyNow 78 = .ok (.iconst 0, 1) := by decide +kernel
theorem dX7_identifyNow_79 : decode cX7_identifyNow 79 = .ok (.istore_n 1, 1) := by decide +kernel
theorem dX7_identifyNow_80 : decode cX7_identifyNow 80 = .ok (.iload_n 1, 1) := by decide +kernel
theorem dX7_identifyNow_81 : decode cX7_identifyNow 81 = .ok (.ifCond .eq 44, 3) := by decide +kernel
theorem dX7_identifyNow_84 : decode cX7_identifyNow 84 = .ok (.aload_n 0, 1) := by decide +kernel
theorem dX7_identifyNow_85 : decode cX7_identifyNow 85 = .ok (.getfield 7, 3) := by decide +kernel
theorem dX7_identifyNow_88 : decode cX7_identifyNow 88 = .ok (.iconst 4, 1) := by decide +kernel
theorem dX7_identifyNow_89 : decode cX7_identifyNow 89 = .ok (.aload_n 0, 1) := by decide +kernel
theorem dX7_identifyNow_90 : decode cX7_identifyNow 90 = .ok (.getfield 7, 3) := by decide +kernel
theorem dX7_identifyNow_93 : decode cX7_identifyNow 93 = .ok (.iconst 3, 1) := by decide +kernel
theorem dX7_identifyNow_94 : decode cX7_identifyNow 94 = .ok (.iaload, 1) := by decide +kernel
theorem dX7_identifyNow_95 : decode cX7_identifyNow 95 = .ok (.iadd, 1) := by decide +kernel
theorem dX7_identifyNow_96 : decode cX7_identifyNow 96 = .ok (.iload_n 2, 1) := by decide +kernel
theorem dX7_identifyNow_97 : decode cX7_identifyNow 97 = .ok (.iastore, 1) := by decide +kernel
theorem dX7_identifyNow_98 : decode cX7_identifyNow 98 = .ok (.aload_n 0, 1) := by decide +kernel
theorem dX7_identifyNow_99 : decode cX7_identifyNow 99 = .ok (.getfield 7, 3) := by decide +kernel
theorem dX7_identifyNow_102 : decode cX7_identifyNow 102 = .ok (.iconst 3, 1) := by decide +kernel
theorem dX7_identifyNow_103 : decode cX7_identifyNow 103 = .ok (.dup2, 1) := by decide +kernel
theorem dX7_identifyNow_104 : decode cX7_identifyNow 104 = .ok (.iaload, 1) := by decide +kernel
theorem dX7_identifyNow_105 : decode cX7_identifyNow 105 = .ok (.iconst 1, 1) := by decide +kernel
theorem dX7_identifyNow_106 : decode cX7_identifyNow 106 = .ok (.iadd, 1) := by decide +kernel
theorem dX7_identifyNow_107 : decode cX7_identifyNow 107 = .ok (.iastore, 1) := by decide +kernel
theorem dX7_identifyNow_108 : decode cX7_identifyNow 108 = .ok (.aload_n 0, 1) := by decide +kernel
theorem dX7_identifyNow_109 : decode cX7_identifyNow 109 = .ok (.getfield 7, 3) := by decide +kernel
theorem dX7_identifyNow_112 : decode cX7_identifyNow 112 = .ok (.iconst 3, 1) := by decide +kernel
theorem dX7_identifyNow_113 : decode cX7_identifyNow 113 = .ok (.iaload, 1) := by decide +kernel
theorem dX7_identifyNow_114 : decode cX7_identifyNow 114 = .ok (.bipush 8, 2) := by decide +kernel
theorem dX7_identifyNow_116 : decode cX7_identifyNow 116 = .ok (.if_icmp .ge 7, 3) := by decide +kernel
theorem dX7_identifyNow_119 : decode cX7_identifyNow 119 = .ok (.iconst 1, 1) := by decide +kernel
theorem dX7_identifyNow_120 : decode cX7_identifyNow 120 = .ok (.goto 4, 3) := by decide +kernel
theorem dX7_identifyNow_123 : decode cX7_identifyNow 123 = .ok (.iconst 0, 1) := by decide +kernel
theorem dX7_identifyNow_124 : decode cX7_identifyNow 124 = .ok (.istore_n 1, 1) := by decide +kernel
theorem dX7_identifyNow_125 : decode cX7_identifyNow 125 = .ok (.goto (-67), 3) := by decide +kernel
theorem dX7_identifyNow_128 : decode cX7_identifyNow 128 = .ok (.aload_n 0, 1) := by decide +kernel
theorem dX7_identifyNow_129 : decode cX7_identifyNow 129 = .ok (.iconst 1, 1) := by decide +kernel
theorem dX7_identifyNow_130 : decode cX7_identifyNow 130 = .ok (.invokevirtual 112, 3) := by decide +kernel
theorem dX7_identifyNow_133 : decode cX7_identifyNow 133 = .ok (.pop, 1) := by decide +kernel
theorem dX7_identifyNow_134 : decode cX7_identifyNow 134 = .ok (.return_, 1) := by decide +kernel
theorem dX7_identify_0 : decode cX7_identify 0 = .ok (.aload_n 0, 1) := by decide +kernel
theorem dX7_identify_1 : decode cX7_identify 1 = .ok (.invokevirtual 44, 3) := by decide +kernel
theorem dX7_identify_4 : decode cX7_identify 4 = .ok (.aload_n 0, 1) := by decide +kernel
theorem dX7_identify_5 : decode cX7_identify 5 = .ok (.invokevirtual 118, 3) := by decide +kernel
theorem dX7_identify_8 : decode cX7_identify 8 = .ok (.aload_n 0, 1) := by decide +kernel
theorem dX7_identify_9 : decode cX7_identify 9 = .ok (.getfield 7, 3) := by decide +kernel
theorem dX7_identify_12 : decode cX7_identify 12 = .ok (.iconst 3, 1) := by decide +kernel
theorem dX7_identify_13 : decode cX7_identify 13 = .ok (.iaload, 1) := by decide +kernel
theorem dX7_identify_14 : decode cX7_identify 14 = .ok (.ireturn, 1) := by decide +kernel
theorem dX7_clockBits_0 : decode cX7_clockBits 0 = .ok (.iconst 0, 1) := by decide +kernel
theorem dX7_clockBits_1 : decode cX7_clockBits 1 = .ok (.istore 4, 2) := by decide +kernel
theorem dX7_clockBits_3 : decode cX7_clockBits 3 = .ok (.iconst 0, 1) := by decide +kernel
theorem dX7_clockBits_4 : decode cX7_clockBits 4 = .ok (.istore 5, 2) := by decide +kernel
theorem dX7_clockBits_6 : decode cX7_clockBits 6 = .ok (.iload 5, 2) := by decide +kernel
theorem dX7_clockBits_8 : decode cX7_clockBits 8 = .ok (.iload_n 2, 1) := by decide +kernel
theorem dX7_clockBits_9 : decode cX7_clockBits 9 = .ok (.if_icmp .ge 44, 3) := by decide +kernel
theorem dX7_clockBits_12 : decode cX7_clockBits 12 = .ok (.iload 5, 2) := by decide +kernel
theorem dX7_clockBits_14 : decode cX7_clockBits 14 = .ok (.iload_n 2, 1) := by decide +kernel
theorem dX7_clockBits_15 : decode cX7_clockBits 15 = .ok (.iconst 1, 1) := by decide +kernel
theorem dX7_clockBits_16 : decode cX7_clockBits 16 = .ok (.isub, 1) := by decide +kernel
theorem dX7_clockBits_17 : decode cX7_clockBits 17 = .ok (.if_icmp .ne 7, 3) := by decide +kernel
theorem dX7_clockBits_20 : decode cX7_clockBits 20 = .ok (.iload_n 3, 1) := by decide +kernel
theorem dX7_clockBits_21 : decode cX7_clockBits 21 = .ok (.goto 4, 3) := by decide +kernel
theorem dX7_clockBits_24 : decode cX7_clockBits 24 = .ok (.iconst 0, 1) := by decide +kernel
theorem dX7_clockBits_25 : decode cX7_clockBits 25 = .ok (.istore 6, 2) := by decide +kernel
theorem dX7_clockBits_27 : decode cX7_clockBits 27 = .ok (.iload 4, 2) := by decide +kernel
theorem dX7_clockBits_29 : decode cX7_clockBits 29 = .ok (.aload_n 0, 1) := by decide +kernel
theorem dX7_clockBits_30 : decode cX7_clockBits 30 = .ok (.iload 6, 2) := by decide +kernel
theorem dX7_clockBits_32 : decode cX7_clockBits 32 = .ok (.iload_n 1, 1) := by decide +kernel
theorem dX7_clockBits_33 : decode cX7_clockBits 33 = .ok (.iload 5, 2) := by decide +kernel
theorem dX7_clockBits_35 : decode cX7_clockBits 35 = .ok (.ishr, 1) := by decide +kernel
theorem dX7_clockBits_36 : decode cX7_clockBits 36 = .ok (.iconst 1, 1) := by decide +kernel
theorem dX7_clockBits_37 : decode cX7_clockBits 37 = .ok (.iand, 1) := by decide +kernel
theorem dX7_clockBits_38 : decode cX7_clockBits 38 = .ok (.invokevirtual 106, 3) := by decide +kernel
theorem dX7_clockBits_41 : decode cX7_clockBits 41 = .ok (.iload 5, 2) := by decide +kernel
theorem dX7_clockBits_43 : decode cX7_clockBits 43 = .ok (.ishl, 1) := by decide +kernel
theorem dX7_clockBits_44 : decode cX7_clockBits 44 = .ok (.ior, 1) := by decide +kernel
theorem dX7_clockBits_45 : decode cX7_clockBits 45 = .ok (.istore 4, 2) := by decide +kernel
theorem dX7_clockBits_47 : decode cX7_clockBits 47 = .ok (.iinc 5 1, 3) := by decide +kernel
theorem dX7_clockBits_50 : decode cX7_clockBits 50 = .ok (.goto (-44), 3) := by decide +kernel
theorem dX7_clockBits_53 : decode cX7_clockBits 53 = .ok (.iload 4, 2) := by decide +kernel
theorem dX7_clockBits_55 : decode cX7_clockBits 55 = .ok (.ireturn, 1) := by decide +kernel
theorem dX7_load_0 : decode cX7_load 0 = .ok (.aload_n 0, 1) := by decide +kernel
theorem dX7_load_1 : decode cX7_load 1 = .ok (.iload_n 1, 1) := by decide +kernel
theorem dX7_load_2 : decode cX7_load 2 = .ok (.invokevirtual 74, 3) := by decide +kernel
theorem dX7_load_5 : decode cX7_load 5 = .ok (.ifCond .ne 5, 3) := by decide +kernel
theorem dX7_load_8 : decode cX7_load 8 = .ok (.iconst (-1), 1) := by decide +kernel
theorem dX7_load_9 : decode cX7_load 9 = .ok (.ireturn, 1) := by decide +kernel
theorem dX7_load_10 : decode cX7_load 10 = .ok (.iload_n 2, 1) := by decide +kernel
theorem dX7_load_11 : decode cX7_load 11 = .ok (.iconst 0, 1) := by decide +kernel
theorem dX7_load_12 : decode cX7_load 12 = .ok (.bipush 63, 2) := by decide +kernel
theorem dX7_load_14 : decode cX7_load 14 = .ok (.invokestatic 28, 3) := by decide +kernel
theorem dX7_load_17 : decode cX7_load 17 = .ok (.ifCond .ne 6, 3) := by decide +kernel
theorem dX7_load_20 : decode cX7_load 20 = .ok (.bipush (-2), 2) := by decide +kernel
theorem dX7_load_22 : decode cX7_load 22 = .ok (.ireturn, 1) := by decide +kernel
theorem dX7_load_23 : decode cX7_load 23 = .ok (.aload_n 0, 1) := by decide +kernel
theorem dX7_load_24 : decode cX7_load 24 = .ok (.invokevirtual 44, 3) := by decide +kernel
theorem dX7_load_27 : decode cX7_load 27 = .ok (.aload_n 0, 1) := by decide +kernel
theorem dX7_load_28 : decode cX7_load 28 = .ok (.bipush 11, 2) := by decide +kernel
theorem dX7_load_30 : decode cX7_load 30 = .ok (.invokevirtual 112, 3) := by decide +kernel
theorem dX7_load_33 : decode cX7_load 33 = .ok (.pop, 1) := by decide +kernel
theorem dX7_load_34 : decode cX7_load 34 = .ok (.aload_n 0, 1) := by decide +kernel
theorem dX7_load_35 : decode cX7_load 35 = .ok (.getfield 7, 3) := by decide +kernel
theorem dX7_load_38 : decode cX7_load 38 = .ok (.iconst 0, 1) := by decide +kernel
theorem dX7_load_39 : decode cX7_load 39 = .ok (.iaload, 1) := by decide +kernel
theorem dX7_load_40 : decode cX7_load 40 = .ok (.iconst 1, 1) := by decide +kernel
theorem dX7_load_41 : decode cX7_load 41 = .ok (.isub, 1) := by decide +kernel
theorem dX7_load_42 : decode cX7_load 42 = .ok (.istore_n 3, 1) := by decide +kernel
theorem dX7_load_43 : decode cX7_load 43 = .ok (.iload_n 3, 1) := by decide +kernel
theorem dX7_load_44 : decode cX7_load 44 = .ok (.ifCond .lt 54, 3) := by decide +kernel
theorem dX7_load_47 : decode cX7_load 47 = .ok (.iload_n 3, 1) := by decide +kernel
theorem dX7_load_48 : decode cX7_load 48 = .ok (.iload_n 1, 1) := by decide +kernel
theorem dX7_load_49 : decode cX7_load 49 = .ok (.if_icmp .ne 7, 3) := by decide +kernel
theorem dX7_load_52 : decode cX7_load 52 = .ok (.iload_n 2, 1) := by decide +kernel
theorem dX7_load_53 : decode cX7_load 53 = .ok (.goto 5, 3) := by decide +kernel
theorem dX7_load_56 : decode cX7_load 56 = .ok (.bipush 63, 2) := by decide +kernel
theorem dX7_load_58 : decode cX7_load 58 = .ok (.istore 4, 2) := by decide +kernel
theorem dX7_load_60 : decode cX7_load 60 = .ok (.aload_n 0, 1) := by decide +kernel
theorem dX7_load_61 : decode cX7_load 61 = .ok (.iload 4, 2) := by decide +kernel
theorem dX7_load_63 : decode cX7_load 63 = .ok (.aload_n 0, 1) := by decide +kernel
theorem dX7_load_64 : decode cX7_load 64 = .ok (.iload_n 3, 1) := by decide +kernel
theorem dX7_load_65 : decode cX7_load 65 = .ok (.iconst 0, 1) := by decide +kernel
theorem dX7_load_66 : decode cX7_load 66 = .ok (.invokevirtual 47, 3) := by decide +kernel
theorem dX7_load_69 : decode cX7_load 69 = .ok (.invokestatic 62, 3) := by decide +kernel
theorem dX7_load_72 : decode cX7_load 72 = .ok (.iand, 1) := by decide +kernel
theorem dX7_load_73 : decode cX7_load 73 = .ok (.aload_n 0, 1) := by decide +kernel
theorem dX7_load_74 : decode cX7_load 74 = .ok (.iload_n 3, 1) := by decide +kernel
theorem dX7_load_75 : decode cX7_load 75 = .ok (.iconst 0, 1) := by decide +kernel
theorem dX7_load_76 : decode cX7_load 76 = .ok (.invokevirtual 47, 3) := by decide +kernel
theorem dX7_load_79 : decode cX7_load 79 = .ok (.iload_n 3, 1) := by decide +kernel
theorem dX7_load_80 : decode cX7_load 80 = .ok (.ifCond .ne 7, 3) := by decide +kernel
theorem dX7_load_83 : decode cX7_load 83 = .ok (.iconst 1, 1) := by decide +kernel
theorem dX7_load_84 : decode cX7_load 84 = .ok (.goto 4, 3) := by decide +kernel
theorem dX7_load_87 : decode cX7_load 87 = .ok (.iconst 0, 1) := by decide +kernel
theorem dX7_load_88 : decode cX7_load 88 = .ok (.invokevirtual 121, 3) := by decide +kernel
theorem dX7_load_91 : decode cX7_load 91 = .ok (.pop, 1) := by decide +kernel
theorem dX7_load_92 : decode cX7_load 92 = .ok (.iinc 3 (-1), 3) := by decide +kernel
theorem dX7_load_95 : decode cX7_load 95 = .ok (.goto (-52), 3) := by decide +kernel
theorem dX7_load_98 : decode cX7_load 98 = .ok (.aload_n 0, 1) := by decide +kernel
theorem dX7_load_99 : decode cX7_load 99 = .ok (.iconst 1, 1) := by decide +kernel
theorem dX7_load_100 : decode cX7_load 100 = .ok (.invokevirtual 112, 3) := by decide +kernel
theorem dX7_load_103 : decode cX7_load 103 = .ok (.pop, 1) := by decide +kernel
theorem dX7_load_104 : decode cX7_load 104 = .ok (.aload_n 0, 1) := by decide +kernel
theorem dX7_load_105 : decode cX7_load 105 = .ok (.iload_n 1, 1) := by decide +kernel
theorem dX7_load_106 : decode cX7_load 106 = .ok (.invokevirtual 91, 3) := by decide +kernel
theorem dX7_load_109 : decode cX7_load 109 = .ok (.ireturn, 1) := by decide +kernel
theorem dX7_exchangeNow_0 : decode cX7_exchangeNow 0 = .ok (.aload_n 0, 1) := by decide +kernel
theorem dX7_exchangeNow_1 : decode cX7_exchangeNow 1 = .ok (.iconst 4, 1) := by decide +kernel
theorem dX7_exchangeNow_2 : decode cX7_exchangeNow 2 = .ok (.invokevirtual 112, 3) := by decide +kernel
theorem dX7_exchangeNow_5 : decode cX7_exchangeNow 5 = .ok (.pop, 1) := by decide +kernel
theorem dX7_exchangeNow_6 : decode cX7_exchangeNow 6 = .ok (.iconst 0, 1) := by decide +kernel
theorem dX7_exchangeNow_7 : decode cX7_exchangeNow 7 = .ok (.istore_n 3, 1) := by decide +kernel
theorem dX7_exchangeNow_8 : decode cX7_exchangeNow 8 = .ok (.aload_n 0, 1) := by decide +kernel
theorem dX7_exchangeNow_9 : decode cX7_exchangeNow 9 = .ok (.getfield 7, 3) := by decide +kernel
theorem dX7_exchangeNow_12 : decode cX7_exchangeNow 12 = .ok (.iconst 0, 1) := by decide +kernel
theorem dX7_exchangeNow_13 : decode cX7_exchangeNow 13 = .ok (.iaload, 1) := by decide +kernel
theorem dX7_exchangeNow_14 : decode cX7_exchangeNow 14 = .ok (.iconst 1, 1) := by decide +kernel
theorem dX7_exchangeNow_15 : decode cX7_exchangeNow 15 = .ok (.isub, 1) := by decide +kernel
theorem dX7_exchangeNow_16 : decode cX7_exchangeNow 16 = .ok (.istore 4, 2) := by decide +kernel
theorem dX7_exchangeNow_18 : decode cX7_exchangeNow 18 = .ok (.iload 4, 2) := by decide +kernel
theorem dX7_exchangeNow_20 : decode cX7_exchangeNow 20 = .ok (.ifCond .lt 55, 3) := by decide +kernel
theorem dX7_exchangeNow_23 : decode cX7_exchangeNow 23 = .ok (.aload_n 0, 1) := by decide +kernel
theorem dX7_exchangeNow_24 : decode cX7_exchangeNow 24 = .ok (.iload 4, 2) := by decide +kernel
theorem dX7_exchangeNow_26 : decode cX7_exchangeNow 26 = .ok (.iload_n 1, 1) := by decide +kernel
theorem dX7_exchangeNow_27 : decode cX7_exchangeNow 27 = .ok (.if_icmp .ne 7, 3) := by decide +kernel
theorem dX7_exchangeNow_30 : decode cX7_exchangeNow 30 = .ok (.iload_n 2, 1) := by decide +kernel
theorem dX7_exchangeNow_31 : decode cX7_exchangeNow 31 = .ok (.goto 4, 3) := by decide +kernel
theorem dX7_exchangeNow_34 : decode cX7_exchangeNow 34 = .ok (.iconst 0, 1) := by decide +kernel
theorem dX7_exchangeNow_35 : decode cX7_exchangeNow 35 = .ok (.aload_n 0, 1) := by decide +kernel
theorem dX7_exchangeNow_36 : decode cX7_exchangeNow 36 = .ok (.iload 4, 2) := by decide +kernel
theorem dX7_exchangeNow_38 : decode cX7_exchangeNow 38 = .ok (.invokevirtual 91, 3) := by decide +kernel
theorem dX7_exchangeNow_41 : decode cX7_exchangeNow 41 = .ok (.iload 4, 2) := by decide +kernel
theorem dX7_exchangeNow_43 : decode cX7_exchangeNow 43 = .ok (.ifCond .ne 7, 3) := by decide +kernel
theorem dX7_exchangeNow_46 : decode cX7_exchangeNow 46 = .ok (.iconst 1, 1) := by decide +kernel
theorem dX7_exchangeNow_47 : decode cX7_exchangeNow 47 = .ok (.goto 4, 3) := by decide +kernel
theorem dX7_exchangeNow_50 : decode cX7_exchangeNow 50 = .ok (.iconst 0, 1) := by decide +kernel
theorem dX7_exchangeNow_51 : decode cX7_exchangeNow 51 = .ok (.invokevirtual 121, 3) := by decide +kernel
theorem dX7_exchangeNow_54 : decode cX7_exchangeNow 54 = .ok (.istore 5, 2) := by decide +kernel
theorem dX7_exchangeNow_56 : decode cX7_exchangeNow 56 = .ok (.iload 4, 2) := by decide +kernel
theorem dX7_exchangeNow_58 : decode cX7_exchangeNow 58 = .ok (.iload_n 1, 1) := by decide +kernel
theorem dX7_exchangeNow_59 : decode cX7_exchangeNow 59 = .ok (.if_icmp .ne 8, 3) := by decide +kernel
theorem dX7_exchangeNow_62 : decode cX7_exchangeNow 62 = .ok (.iload 5, 2) := by decide +kernel
theorem dX7_exchangeNow_64 : decode cX7_exchangeNow 64 = .ok (.goto 4, 3) := by decide +kernel
theorem dX7_exchangeNow_67 : decode cX7_exchangeNow 67 = .ok (.iload_n 3, 1) := by decide +kernel
theorem dX7_exchangeNow_68 : decode cX7_exchangeNow 68 = .ok (.istore_n 3, 1) := by decide +kernel
theorem dX7_exchangeNow_69 : decode cX7_exchangeNow 69 = .ok (.iinc 4 (-1), 3) := by decide +kernel
theorem dX7_exchangeNow_72 : decode cX7_exchangeNow 72 = .ok (.goto (-54), 3) := by decide +kernel
theorem dX7_exchangeNow_75 : decode cX7_exchangeNow 75 = .ok (.aload_n 0, 1) := by decide +kernel
theorem dX7_exchangeNow_76 : decode cX7_exchangeNow 76 = .ok (.iconst 1, 1) := by decide +kernel
theorem dX7_exchangeNow_77 : decode cX7_exchangeNow 77 = .ok (.invokevirtual 112, 3) := by decide +kernel
theorem dX7_exchangeNow_80 : decode cX7_exchangeNow 80 = .ok (.pop, 1) := by decide +kernel
theorem dX7_exchangeNow_81 : decode cX7_exchangeNow 81 = .ok (.iload_n 3, 1) := by decide +kernel
theorem dX7_exchangeNow_82 : decode cX7_exchangeNow 82 = .ok (.ireturn, 1) := by decide +kernel
theorem dX7_whyNotExchange_0 : decode cX7_whyNotExchange 0 = .ok (.aload_n 0, 1) := by decide +kernel
theorem dX7_whyNotExchange_1 : decode cX7_whyNotExchange 1 = .ok (.iload_n 1, 1) := by decide +kernel
theorem dX7_whyNotExchange_2 : decode cX7_whyNotExchange 2 = .ok (.invokevirtual 74, 3) := by decide +kernel
theorem dX7_whyNotExchange_5 : decode cX7_whyNotExchange 5 = .ok (.ifCond .ne 7, 3) := by decide +kernel
theorem dX7_whyNotExchange_8 : decode cX7_whyNotExchange 8 = .ok (.iconst (-1), 1) := by decide +kernel
theorem dX7_whyNotExchange_9 : decode cX7_whyNotExchange 9 = .ok (.goto 20, 3) := by decide +kernel
theorem dX7_whyNotExchange_12 : decode cX7_whyNotExchange 12 = .ok (.iload_n 2, 1) := by decide +kernel
theorem dX7_whyNotExchange_13 : decode cX7_whyNotExchange 13 = .ok (.iconst 0, 1) := by decide +kernel
theorem dX7_whyNotExchange_14 : decode cX7_whyNotExchange 14 = .ok (.sipush 255, 3) := by decide +kernel
theorem dX7_whyNotExchange_17 : decode cX7_whyNotExchange 17 = .ok (.invokestatic 28, 3) := by decide +kernel
theorem dX7_whyNotExchange_20 : decode cX7_whyNotExchange 20 = .ok (.ifCond .eq 7, 3) := by decide +kernel
theorem dX7_whyNotExchange_23 : decode cX7_whyNotExchange 23 = .ok (.iconst 0, 1) := by decide +kernel
theorem dX7_whyNotExchange_24 : decode cX7_whyNotExchange 24 = .ok (.goto 5, 3) := by decide +kernel
theorem dX7_whyNotExchange_27 : decode cX7_whyNotExchange 27 = .ok (.bipush (-2), 2) := by decide +kernel
theorem dX7_whyNotExchange_29 : decode cX7_whyNotExchange 29 = .ok (.ireturn, 1) := by decide +kernel
theorem dX7_exchange_0 : decode cX7_exchange 0 = .ok (.aload_n 0, 1) := by decide +kernel
theorem dX7_exchange_1 : decode cX7_exchange 1 = .ok (.iload_n 1, 1) := by decide +kernel
theorem dX7_exchange_2 : decode cX7_exchange 2 = .ok (.iload_n 2, 1) := by decide +kernel
theorem dX7_exchange_3 : decode cX7_exchange 3 = .ok (.invokevirtual 125, 3) := by decide +kernel
theorem dX7_exchange_6 : decode cX7_exchange 6 = .ok (.istore_n 3, 1) := by decide +kernel
theorem dX7_exchange_7 : decode cX7_exchange 7 = .ok (.iload_n 3, 1) := by decide +kernel
theorem dX7_exchange_8 : decode cX7_exchange 8 = .ok (.ifCond .ge 5, 3) := by decide +kernel
theorem dX7_exchange_11 : decode cX7_exchange 11 = .ok (.iload_n 3, 1) := by decide +kernel
theorem dX7_exchange_12 : decode cX7_exchange 12 = .ok (.ireturn, 1) := by decide +kernel
theorem dX7_exchange_13 : decode cX7_exchange 13 = .ok (.aload_n 0, 1) := by decide +kernel
theorem dX7_exchange_14 : decode cX7_exchange 14 = .ok (.invokevirtual 44, 3) := by decide +kernel
theorem dX7_exchange_17 : decode cX7_exchange 17 = .ok (.aload_n 0, 1) := by decide +kernel
theorem dX7_exchange_18 : decode cX7_exchange 18 = .ok (.iload_n 1, 1) := by decide +kernel
theorem dX7_exchange_19 : decode cX7_exchange 19 = .ok (.iload_n 2, 1) := by decide +kernel
theorem dX7_exchange_20 : decode cX7_exchange 20 = .ok (.invokevirtual 128, 3) := by decide +kernel
theorem dX7_exchange_23 : decode cX7_exchange 23 = .ok (.ireturn, 1) := by decide +kernel
theorem dX7_append_0 : decode cX7_append 0 = .ok (.iload_n 1, 1) := by decide +kernel
theorem dX7_append_1 : decode cX7_append 1 = .ok (.bipush 32, 2) := by decide +kernel
theorem dX7_append_3 : decode cX7_append 3 = .ok (.bipush 126, 2) := by decide +kernel
theorem dX7_append_5 : decode cX7_append 5 = .ok (.invokestatic 28, 3) := by decide +kernel
theorem dX7_append_8 : decode cX7_append 8 = .ok (.ifCond .ne 6, 3) := by decide +kernel
theorem dX7_append_11 : decode cX7_append 11 = .ok (.bipush (-2), 2) := by decide +kernel
theorem dX7_append_13 : decode cX7_append 13 = .ok (.ireturn, 1) := by decide +kernel
theorem dX7_append_14 : decode cX7_append 14 = .ok (.aload_n 0, 1) := by decide +kernel
theorem dX7_append_15 : decode cX7_append 15 = .ok (.getfield 131, 3) := by decide +kernel
theorem dX7_append_18 : decode cX7_append 18 = .ok (.bipush 80, 2) := by decide +kernel
theorem dX7_append_20 : decode cX7_append 20 = .ok (.if_icmp .ne 6, 3) := by decide +kernel
theorem dX7_append_23 : decode cX7_append 23 = .ok (.bipush (-3), 2) := by decide +kernel
theorem dX7_append_25 : decode cX7_append 25 = .ok (.ireturn, 1) := by decide +kernel
theorem dX7_append_26 : decode cX7_append 26 = .ok (.aload_n 0, 1) := by decide +kernel
theorem dX7_append_27 : decode cX7_append 27 = .ok (.getfield 22, 3) := by decide +kernel
theorem dX7_append_30 : decode cX7_append 30 = .ok (.aload_n 0, 1) := by decide +kernel
theorem dX7_append_31 : decode cX7_append 31 = .ok (.getfield 131, 3) := by decide +kernel
theorem dX7_append_34 : decode cX7_append 34 = .ok (.iload_n 1, 1) := by decide +kernel
theorem dX7_append_35 : decode cX7_append 35 = .ok (.iastore, 1) := by decide +kernel
theorem dX7_append_36 : decode cX7_append 36 = .ok (.aload_n 0, 1) := by decide +kernel
theorem dX7_append_37 : decode cX7_append 37 = .ok (.dup, 1) := by decide +kernel
theorem dX7_append_38 : decode cX7_append 38 = .ok (.getfield 131, 3) := by decide +kernel
theorem dX7_append_41 : decode cX7_append 41 = .ok (.iconst 1, 1) := by decide +kernel
theorem dX7_append_42 : decode cX7_append 42 = .ok (.iadd, 1) := by decide +kernel
theorem dX7_append_43 : decode cX7_append 43 = .ok (.putfield 131, 3) := by decide +kernel
theorem dX7_append_46 : decode cX7_append 46 = .ok (.aload_n 0, 1) := by decide +kernel
theorem dX7_append_47 : decode cX7_append 47 = .ok (.getfield 131, 3) := by decide +kernel
theorem dX7_append_50 : decode cX7_append 50 = .ok (.ireturn, 1) := by decide +kernel
theorem dX7_clearText_0 : decode cX7_clearText 0 = .ok (.aload_n 0, 1) := by decide +kernel
theorem dX7_clearText_1 : decode cX7_clearText 1 = .ok (.getfield 131, 3) := by decide +kernel
theorem dX7_clearText_4 : decode cX7_clearText 4 = .ok (.istore_n 1, 1) := by decide +kernel
theorem dX7_clearText_5 : decode cX7_clearText 5 = .ok (.aload_n 0, 1) := by decide +kernel
theorem dX7_clearText_6 : decode cX7_clearText 6 = .ok (.iconst 0, 1) := by decide +kernel
theorem dX7_clearText_7 : decode cX7_clearText 7 = .ok (.putfield 131, 3) := by decide +kernel
theorem dX7_clearText_10 : decode cX7_clearText 10 = .ok (.iload_n 1, 1) := by decide +kernel
theorem dX7_clearText_11 : decode cX7_clearText 11 = .ok (.ireturn, 1) := by decide +kernel
theorem dX7_digit_0 : decode cX7_digit 0 = .ok (.iload_n 0, 1) := by decide +kernel
theorem dX7_digit_1 : decode cX7_digit 1 = .ok (.bipush 48, 2) := by decide +kernel
theorem dX7_digit_3 : decode cX7_digit 3 = .ok (.bipush 57, 2) := by decide +kernel
theorem dX7_digit_5 : decode cX7_digit 5 = .ok (.invokestatic 28, 3) := by decide +kernel
theorem dX7_digit_8 : decode cX7_digit 8 = .ok (.ifCond .eq 10, 3) := by decide +kernel
theorem dX7_digit_11 : decode cX7_digit 11 = .ok (.iload_n 0, 1) := by decide +kernel
theorem dX7_digit_12 : decode cX7_digit 12 = .ok (.bipush 48, 2) := by decide +kernel
theorem dX7_digit_14 : decode cX7_digit 14 = .ok (.isub, 1) := by decide +kernel
theorem dX7_digit_15 : decode cX7_digit 15 = .ok (.goto 26, 3) := by decide +kernel
theorem dX7_digit_18 : decode cX7_digit 18 = .ok (.iload_n 0, 1) := by decide +kernel
theorem dX7_digit_19 : decode cX7_digit 19 = .ok (.bipush 97, 2) := by decide +kernel
theorem dX7_digit_21 : decode cX7_digit 21 = .ok (.bipush 102, 2) := by decide +kernel
theorem dX7_digit_23 : decode cX7_digit 23 = .ok (.invokestatic 28, 3) := by decide +kernel
theorem dX7_digit_26 : decode cX7_digit 26 = .ok (.ifCond .eq 13, 3) := by decide +kernel
theorem dX7_digit_29 : decode cX7_digit 29 = .ok (.iload_n 0, 1) := by decide +kernel
theorem dX7_digit_30 : decode cX7_digit 30 = .ok (.bipush 97, 2) := by decide +kernel
theorem dX7_digit_32 : decode cX7_digit 32 = .ok (.isub, 1) := by decide +kernel
theorem dX7_digit_33 : decode cX7_digit 33 = .ok (.bipush 10, 2) := by decide +kernel
theorem dX7_digit_35 : decode cX7_digit 35 = .ok (.iadd, 1) := by decide +kernel
theorem dX7_digit_36 : decode cX7_digit 36 = .ok (.goto 5, 3) := by decide +kernel
theorem dX7_digit_39 : decode cX7_digit 39 = .ok (.bipush (-4), 2) := by decide +kernel
theorem dX7_digit_41 : decode cX7_digit 41 = .ok (.ireturn, 1) := by decide +kernel
theorem dX7_fault_0 : decode cX7_fault 0 = .ok (.iconst 0, 1) := by decide +kernel
theorem dX7_fault_1 : decode cX7_fault 1 = .ok (.istore_n 1, 1) := by decide +kernel
theorem dX7_fault_2 : decode cX7_fault 2 = .ok (.iconst 0, 1) := by decide +kernel
theorem dX7_fault_3 : decode cX7_fault 3 = .ok (.istore_n 2, 1) := by decide +kernel
theorem dX7_fault_4 : decode cX7_fault 4 = .ok (.iload_n 2, 1) := by decide +kernel
theorem dX7_fault_5 : decode cX7_fault 5 = .ok (.aload_n 0, 1) := by decide +kernel
theorem dX7_fault_6 : decode cX7_fault 6 = .ok (.getfield 131, 3) := by decide +kernel
theorem dX7_fault_9 : decode cX7_fault 9 = .ok (.if_icmp .ge 98, 3) := by decide +kernel
theorem dX7_fault_12 : decode cX7_fault 12 = .ok (.aload_n 0, 1) := by decide +kernel
theorem dX7_fault_13 : decode cX7_fault 13 = .ok (.getfield 22, 3) := by decide +kernel
theorem dX7_fault_16 : decode cX7_fault 16 = .ok (.iload_n 2, 1) := by decide +kernel
theorem dX7_fault_17 : decode cX7_fault 17 = .ok (.iaload, 1) := by decide +kernel
theorem dX7_fault_18 : decode cX7_fault 18 = .ok (.istore_n 3, 1) := by decide +kernel
theorem dX7_fault_19 : decode cX7_fault 19 = .ok (.iload_n 3, 1) := by decide +kernel
theorem dX7_fault_20 : decode cX7_fault 20 = .ok (.bipush 48, 2) := by decide +kernel
theorem dX7_fault_22 : decode cX7_fault 22 = .ok (.if_icmp .eq 33, 3) := by decide +kernel
theorem dX7_fault_25 : decode cX7_fault 25 = .ok (.iload_n 3, 1) := by decide +kernel
theorem dX7_fault_26 : decode cX7_fault 26 = .ok (.bipush 49, 2) := by decide +kernel
theorem dX7_fault_28 : decode cX7_fault 28 = .ok (.if_icmp .eq 27, 3) := by decide +kernel
theorem dX7_fault_31 : decode cX7_fault 31 = .ok (.iload_n 3, 1) := by decide +kernel
theorem dX7_fault_32 : decode cX7_fault 32 = .ok (.bipush 97, 2) := by decide +kernel
theorem dX7_fault_34 : decode cX7_fault 34 = .ok (.if_icmp .eq 21, 3) := by decide +kernel
theorem dX7_fault_37 : decode cX7_fault 37 = .ok (.iload_n 3, 1) := by decide +kernel
theorem dX7_fault_38 : decode cX7_fault 38 = .ok (.bipush 98, 2) := by decide +kernel
theorem dX7_fault_40 : decode cX7_fault 40 = .ok (.if_icmp .eq 15, 3) := by decide +kernel
theorem dX7_fault_43 : decode cX7_fault 43 = .ok (.iload_n 3, 1) := by decide +kernel
theorem dX7_fault_44 : decode cX7_fault 44 = .ok (.bipush 63, 2) := by decide +kernel
theorem dX7_fault_46 : decode cX7_fault 46 = .ok (.if_icmp .eq 9, 3) := by decide +kernel
theorem dX7_fault_49 : decode cX7_fault 49 = .ok (.iload_n 3, 1) := by decide +kernel
theorem dX7_fault_50 : decode cX7_fault 50 = .ok (.bipush 64, 2) := by decide +kernel
theorem dX7_fault_52 : decode cX7_fault 52 = .ok (.if_icmp .ne 7, 3) := by decide +kernel
theorem dX7_fault_55 : decode cX7_fault 55 = .ok (.iconst 1, 1) := by decide +kernel
theorem dX7_fault_56 : decode cX7_fault 56 = .ok (.goto 4, 3) := by decide +kernel
theorem dX7_fault_59 : decode cX7_fault 59 = .ok (.iconst 0, 1) := by decide +kernel
theorem dX7_fault_60 : decode cX7_fault 60 = .ok (.istore 4, 2) := by decide +kernel
theorem dX7_fault_62 : decode cX7_fault 62 = .ok (.iload_n 1, 1) := by decide +kernel
theorem dX7_fault_63 : decode cX7_fault 63 = .ok (.ifCond .eq 15, 3) := by decide +kernel
theorem dX7_fault_66 : decode cX7_fault 66 = .ok (.iload_n 3, 1) := by decide +kernel
theorem dX7_fault_67 : decode cX7_fault 67 = .ok (.invokestatic 134, 3) := by decide +kernel
theorem dX7_fault_70 : decode cX7_fault 70 = .ok (.bipush (-4), 2) := by decide +kernel
theorem dX7_fault_72 : decode cX7_fault 72 = .ok (.if_icmp .ne 13, 3) := by decide +kernel
theorem dX7_fault_75 : decode cX7_fault 75 = .ok (.goto 8, 3) := by decide +kernel
theorem dX7_fault_78 : decode cX7_fault 78 = .ok (.iload 4, 2) := by decide +kernel
theorem dX7_fault_80 : decode cX7_fault 80 = .ok (.ifCond .ne 5, 3) := by decide +kernel
theorem dX7_fault_83 : decode cX7_fault 83 = .ok (.iload_n 2, 1) := by decide +kernel
theorem dX7_fault_84 : decode cX7_fault 84 = .ok (.ireturn, 1) := by decide +kernel
theorem dX7_fault_85 : decode cX7_fault 85 = .ok (.iload_n 1, 1) := by decide +kernel
theorem dX7_fault_86 : decode cX7_fault 86 = .ok (.ifCond .ne 13, 3) := by decide +kernel
theorem dX7_fault_89 : decode cX7_fault 89 = .ok (.iload_n 3, 1) := by decide +kernel
theorem dX7_fault_90 : decode cX7_fault 90 = .ok (.bipush 64, 2) := by decide +kernel
theorem dX7_fault_92 : decode cX7_fault 92 = .ok (.if_icmp .ne 7, 3) := by decide +kernel
theorem dX7_fault_95 : decode cX7_fault 95 = .ok (.iconst 1, 1) := by decide +kernel
theorem dX7_fault_96 : decode cX7_fault 96 = .ok (.goto 4, 3) := by decide +kernel
theorem dX7_fault_99 : decode cX7_fault 99 = .ok (.iconst 0, 1) := by decide +kernel
theorem dX7_fault_100 : decode cX7_fault 100 = .ok (.istore_n 1, 1) := by decide +kernel
theorem dX7_fault_101 : decode cX7_fault 101 = .ok (.iinc 2 1, 3) := by decide +kernel
theorem dX7_fault_104 : decode cX7_fault 104 = .ok (.goto (-100), 3) := by decide +kernel
theorem dX7_fault_107 : decode cX7_fault 107 = .ok (.iload_n 1, 1) := by decide +kernel
theorem dX7_fault_108 : decode cX7_fault 108 = .ok (.ifCond .ne 10, 3) := by decide +kernel
theorem dX7_fault_111 : decode cX7_fault 111 = .ok (.aload_n 0, 1) := by decide +kernel
theorem dX7_fault_112 : decode cX7_fault 112 = .ok (.getfield 131, 3) := by decide +kernel
theorem dX7_fault_115 : decode cX7_fault 115 = .ok (.ifCond .ne 10, 3) := by decide +kernel
theorem dX7_fault_118 : decode cX7_fault 118 = .ok (.aload_n 0, 1) := by decide +kernel
theorem dX7_fault_119 : decode cX7_fault 119 = .ok (.getfield 131, 3) := by decide +kernel
theorem dX7_fault_122 : decode cX7_fault 122 = .ok (.goto 5, 3) := by decide +kernel
theorem dX7_fault_125 : decode cX7_fault 125 = .ok (.bipush (-4), 2) := by decide +kernel
theorem dX7_fault_127 : decode cX7_fault 127 = .ok (.ireturn, 1) := by decide +kernel
theorem dX7_run_0 : decode cX7_run 0 = .ok (.aload_n 0, 1) := by decide +kernel
theorem dX7_run_1 : decode cX7_run 1 = .ok (.invokevirtual 137, 3) := by decide +kernel
theorem dX7_run_4 : decode cX7_run 4 = .ok (.istore_n 1, 1) := by decide +kernel
theorem dX7_run_5 : decode cX7_run 5 = .ok (.iload_n 1, 1) := by decide +kernel
theorem dX7_run_6 : decode cX7_run 6 = .ok (.bipush (-4), 2) := by decide +kernel
theorem dX7_run_8 : decode cX7_run 8 = .ok (.if_icmp .eq 8, 3) := by decide +kernel
theorem dX7_run_11 : decode cX7_run 11 = .ok (.bipush (-100), 2) := by decide +kernel
theorem dX7_run_13 : decode cX7_run 13 = .ok (.iload_n 1, 1) := by decide +kernel
theorem dX7_run_14 : decode cX7_run 14 = .ok (.isub, 1) := by decide +kernel
theorem dX7_run_15 : decode cX7_run 15 = .ok (.ireturn, 1) := by decide +kernel
theorem dX7_run_16 : decode cX7_run 16 = .ok (.aload_n 0, 1) := by decide +kernel
theorem dX7_run_17 : decode cX7_run 17 = .ok (.invokevirtual 44, 3) := by decide +kernel
theorem dX7_run_20 : decode cX7_run 20 = .ok (.iconst 0, 1) := by decide +kernel
theorem dX7_run_21 : decode cX7_run 21 = .ok (.istore_n 2, 1) := by decide +kernel
theorem dX7_run_22 : decode cX7_run 22 = .ok (.iconst 0, 1) := by decide +kernel
theorem dX7_run_23 : decode cX7_run 23 = .ok (.istore_n 3, 1) := by decide +kernel
theorem dX7_run_24 : decode cX7_run 24 = .ok (.iconst 0, 1) := by decide +kernel
theorem dX7_run_25 : decode cX7_run 25 = .ok (.istore 4, 2) := by decide +kernel
theorem dX7_run_27 : decode cX7_run 27 = .ok (.iload 4, 2) := by decide +kernel
theorem dX7_run_29 : decode cX7_run 29 = .ok (.aload_n 0, 1) := by decide +kernel
theorem dX7_run_30 : decode cX7_run 30 = .ok (.getfield 131, 3) := by decide +kernel
theorem dX7_run_33 : decode cX7_run 33 = .ok (.if_icmp .ge 125, 3) := by decide +kernel
theorem dX7_run_36 : decode cX7_run 36 = .ok (.aload_n 0, 1) := by decide +kernel
theorem dX7_run_37 : decode cX7_run 37 = .ok (.getfield 22, 3) := by decide +kernel
theorem dX7_run_40 : decode cX7_run 40 = .ok (.iload 4, 2) := by decide +kernel
theorem dX7_run_42 : decode cX7_run 42 = .ok (.iaload, 1) := by decide +kernel
theorem dX7_run_43 : decode cX7_run 43 = .ok (.istore 5, 2) := by decide +kernel
theorem dX7_run_45 : decode cX7_run 45 = .ok (.iload 5, 2) := by decide +kernel
theorem dX7_run_47 : decode cX7_run 47 = .ok (.bipush 64, 2) := by decide +kernel
theorem dX7_run_49 : decode cX7_run 49 = .ok (.if_icmp .ne 24, 3) := by decide +kernel
theorem dX7_run_52 : decode cX7_run 52 = .ok (.iinc 4 1, 3) := by decide +kernel
theorem dX7_run_55 : decode cX7_run 55 = .ok (.aload_n 0, 1) := by decide +kernel
theorem dX7_run_56 : decode cX7_run 56 = .ok (.aload_n 0, 1) := by decide +kernel
theorem dX7_run_57 : decode cX7_run 57 = .ok (.getfield 22, 3) := by decide +kernel
theorem dX7_run_60 : decode cX7_run 60 = .ok (.iload 4, 2) := by decide +kernel
theorem dX7_run_62 : decode cX7_run 62 = .ok (.iaload, 1) := by decide +kernel
theorem dX7_run_63 : decode cX7_run 63 = .ok (.invokestatic 134, 3) := by decide +kernel
theorem dX7_run_66 : decode cX7_run 66 = .ok (.invokevirtual 112, 3) := by decide +kernel
theorem dX7_run_69 : decode cX7_run 69 = .ok (.pop, 1) := by decide +kernel
theorem dX7_run_70 : decode cX7_run 70 = .ok (.goto 82, 3) := by decide +kernel
theorem dX7_run_73 : decode cX7_run 73 = .ok (.iload 5, 2) := by decide +kernel
theorem dX7_run_75 : decode cX7_run 75 = .ok (.bipush 97, 2) := by decide +kernel
theorem dX7_run_77 : decode cX7_run 77 = .ok (.if_icmp .eq 10, 3) := by decide +kernel
theorem dX7_run_80 : decode cX7_run 80 = .ok (.iload 5, 2) := by decide +kernel
theorem dX7_run_82 : decode cX7_run 82 = .ok (.bipush 98, 2) := by decide +kernel
theorem dX7_run_84 : decode cX7_run 84 = .ok (.if_icmp .ne 7, 3) := by decide +kernel
theorem dX7_run_87 : decode cX7_run 87 = .ok (.iconst 1, 1) := by decide +kernel
theorem dX7_run_88 : decode cX7_run 88 = .ok (.goto 4, 3) := by decide +kernel
theorem dX7_run_91 : decode cX7_run 91 = .ok (.iconst 0, 1) := by decide +kernel
theorem dX7_run_92 : decode cX7_run 92 = .ok (.istore 6, 2) := by decide +kernel
theorem dX7_run_94 : decode cX7_run 94 = .ok (.aload_n 0, 1) := by decide +kernel
theorem dX7_run_95 : decode cX7_run 95 = .ok (.iload 6, 2) := by decide +kernel
theorem dX7_run_97 : decode cX7_run 97 = .ok (.ifCond .eq 7, 3) := by decide +kernel
theorem dX7_run_100 : decode cX7_run 100 = .ok (.iconst 1, 1) := by decide +kernel
theorem dX7_run_101 : decode cX7_run 101 = .ok (.goto 4, 3) := by decide +kernel
theorem dX7_run_104 : decode cX7_run 104 = .ok (.iconst 0, 1) := by decide +kernel
theorem dX7_run_105 : decode cX7_run 105 = .ok (.iload 5, 2) := by decide +kernel
theorem dX7_run_107 : decode cX7_run 107 = .ok (.bipush 48, 2) := by decide +kernel
theorem dX7_run_109 : decode cX7_run 109 = .ok (.if_icmp .eq 10, 3) := by decide +kernel
theorem dX7_run_112 : decode cX7_run 112 = .ok (.iload 5, 2) := by decide +kernel
theorem dX7_run_114 : decode cX7_run 114 = .ok (.bipush 97, 2) := by decide +kernel
theorem dX7_run_116 : decode cX7_run 116 = .ok (.if_icmp .ne 7, 3) := by decide +kernel
theorem dX7_run_119 : decode cX7_run 119 = .ok (.iconst 0, 1) := by decide +kernel
theorem dX7_run_120 : decode cX7_run 120 = .ok (.goto 4, 3) := by decide +kernel
theorem dX7_run_123 : decode cX7_run 123 = .ok (.iconst 1, 1) := by decide +kernel
theorem dX7_run_124 : decode cX7_run 124 = .ok (.invokevirtual 106, 3) := by decide +kernel
theorem dX7_run_127 : decode cX7_run 127 = .ok (.istore 7, 2) := by decide +kernel
theorem dX7_run_129 : decode cX7_run 129 = .ok (.iload 5, 2) := by decide +kernel
theorem dX7_run_131 : decode cX7_run 131 = .ok (.bipush 63, 2) := by decide +kernel
theorem dX7_run_133 : decode cX7_run 133 = .ok (.if_icmp .ne 19, 3) := by decide +kernel
theorem dX7_run_136 : decode cX7_run 136 = .ok (.iload_n 2, 1) := by decide +kernel
theorem dX7_run_137 : decode cX7_run 137 = .ok (.bipush 30, 2) := by decide +kernel
theorem dX7_run_139 : decode cX7_run 139 = .ok (.if_icmp .ge 13, 3) := by decide +kernel
theorem dX7_run_142 : decode cX7_run 142 = .ok (.iload_n 3, 1) := by decide +kernel
theorem dX7_run_143 : decode cX7_run 143 = .ok (.iload 7, 2) := by decide +kernel
theorem dX7_run_145 : decode cX7_run 145 = .ok (.iload_n 2, 1) := by decide +kernel
theorem dX7_run_146 : decode cX7_run 146 = .ok (.ishl, 1) := by decide +kernel
theorem dX7_run_147 : decode cX7_run 147 = .ok (.ior, 1) := by decide +kernel
theorem dX7_run_148 : decode cX7_run 148 = .ok (.istore_n 3, 1) := by decide +kernel
theorem dX7_run_149 : decode cX7_run 149 = .ok (.iinc 2 1, 3) := by decide +kernel
theorem dX7_run_152 : decode cX7_run 152 = .ok (.iinc 4 1, 3) := by decide +kernel
theorem dX7_run_155 : decode cX7_run 155 = .ok (.goto (-128), 3) := by decide +kernel
theorem dX7_run_158 : decode cX7_run 158 = .ok (.iload_n 3, 1) := by decide +kernel
theorem dX7_run_159 : decode cX7_run 159 = .ok (.ireturn, 1) := by decide +kernel
theorem dX7_chip_0 : decode cX7_chip 0 = .ok (.aload_n 0, 1) := by decide +kernel
theorem dX7_chip_1 : decode cX7_chip 1 = .ok (.iload_n 1, 1) := by decide +kernel
theorem dX7_chip_2 : decode cX7_chip 2 = .ok (.invokevirtual 74, 3) := by decide +kernel
theorem dX7_chip_5 : decode cX7_chip 5 = .ok (.ifCond .ne 5, 3) := by decide +kernel
theorem dX7_chip_8 : decode cX7_chip 8 = .ok (.iconst (-1), 1) := by decide +kernel
theorem dX7_chip_9 : decode cX7_chip 9 = .ok (.ireturn, 1) := by decide +kernel
theorem dX7_chip_10 : decode cX7_chip 10 = .ok (.iload_n 2, 1) := by decide +kernel
theorem dX7_chip_11 : decode cX7_chip 11 = .ok (.iconst 0, 1) := by decide +kernel
theorem dX7_chip_12 : decode cX7_chip 12 = .ok (.bipush 8, 2) := by decide +kernel
theorem dX7_chip_14 : decode cX7_chip 14 = .ok (.invokestatic 28, 3) := by decide +kernel
theorem dX7_chip_17 : decode cX7_chip 17 = .ok (.ifCond .eq 12, 3) := by decide +kernel
theorem dX7_chip_20 : decode cX7_chip 20 = .ok (.aload_n 0, 1) := by decide +kernel
theorem dX7_chip_21 : decode cX7_chip 21 = .ok (.iload_n 1, 1) := by decide +kernel
theorem dX7_chip_22 : decode cX7_chip 22 = .ok (.iload_n 2, 1) := by decide +kernel
theorem dX7_chip_23 : decode cX7_chip 23 = .ok (.invokevirtual 47, 3) := by decide +kernel
theorem dX7_chip_26 : decode cX7_chip 26 = .ok (.goto 19, 3) := by decide +kernel
theorem dX7_chip_29 : decode cX7_chip 29 = .ok (.iload_n 2, 1) := by decide +kernel
theorem dX7_chip_30 : decode cX7_chip 30 = .ok (.bipush 9, 2) := by decide +kernel
theorem dX7_chip_32 : decode cX7_chip 32 = .ok (.if_icmp .ne 11, 3) := by decide +kernel
theorem dX7_chip_35 : decode cX7_chip 35 = .ok (.aload_n 0, 1) := by decide +kernel
theorem dX7_chip_36 : decode cX7_chip 36 = .ok (.iload_n 1, 1) := by decide +kernel
theorem dX7_chip_37 : decode cX7_chip 37 = .ok (.invokevirtual 91, 3) := by decide +kernel
theorem dX7_chip_40 : decode cX7_chip 40 = .ok (.goto 5, 3) := by decide +kernel
theorem dX7_chip_43 : decode cX7_chip 43 = .ok (.bipush (-2), 2) := by decide +kernel
theorem dX7_chip_45 : decode cX7_chip 45 = .ok (.ireturn, 1) := by decide +kernel
theorem dX7_allBits_0 : decode cX7_allBits 0 = .ok (.iconst 0, 1) := by decide +kernel
theorem dX7_allBits_1 : decode cX7_allBits 1 = .ok (.istore_n 1, 1) := by decide +kernel
theorem dX7_allBits_2 : decode cX7_allBits 2 = .ok (.iconst 0, 1) := by decide +kernel
theorem dX7_allBits_3 : decode cX7_allBits 3 = .ok (.istore_n 2, 1) := by decide +kernel
theorem dX7_allBits_4 : decode cX7_allBits 4 = .ok (.iload_n 2, 1) := by decide +kernel
theorem dX7_allBits_5 : decode cX7_allBits 5 = .ok (.aload_n 0, 1) := by decide +kernel
theorem dX7_allBits_6 : decode cX7_allBits 6 = .ok (.getfield 7, 3) := by decide +kernel
theorem dX7_allBits_9 : decode cX7_allBits 9 = .ok (.iconst 0, 1) := by decide +kernel
theorem dX7_allBits_10 : decode cX7_allBits 10 = .ok (.iaload, 1) := by decide +kernel
theorem dX7_allBits_11 : decode cX7_allBits 11 = .ok (.if_icmp .ge 17, 3) := by decide +kernel
theorem dX7_allBits_14 : decode cX7_allBits 14 = .ok (.iload_n 1, 1) := by decide +kernel
theorem dX7_allBits_15 : decode cX7_allBits 15 = .ok (.aload_n 0, 1) := by decide +kernel
theorem dX7_allBits_16 : decode cX7_allBits 16 = .ok (.iload_n 2, 1) := by decide +kernel
theorem dX7_allBits_17 : decode cX7_allBits 17 = .ok (.invokevirtual 91, 3) := by decide +kernel
theorem dX7_allBits_20 : decode cX7_allBits 20 = .ok (.iadd, 1) := by decide +kernel
theorem dX7_allBits_21 : decode cX7_allBits 21 = .ok (.istore_n 1, 1) := by decide +kernel
theorem dX7_allBits_22 : decode cX7_allBits 22 = .ok (.iinc 2 1, 3) := by decide +kernel
theorem dX7_allBits_25 : decode cX7_allBits 25 = .ok (.goto (-21), 3) := by decide +kernel
theorem dX7_allBits_28 : decode cX7_allBits 28 = .ok (.iload_n 1, 1) := by decide +kernel
theorem dX7_allBits_29 : decode cX7_allBits 29 = .ok (.ireturn, 1) := by decide +kernel
theorem dX7_count_0 : decode cX7_count 0 = .ok (.iload_n 1, 1) := by decide +kernel
theorem dX7_count_1 : decode cX7_count 1 = .ok (.tableswitch 106 0 8 #[51, 58, 64, 71, 78, 84, 89, 96, 101], 51) := by decide +kernel
theorem dX7_count_52 : decode cX7_count 52 = .ok (.aload_n 0, 1) := by decide +kernel
theorem dX7_count_53 : decode cX7_count 53 = .ok (.getfield 7, 3) := by decide +kernel
theorem dX7_count_56 : decode cX7_count 56 = .ok (.iconst 0, 1) := by decide +kernel
theorem dX7_count_57 : decode cX7_count 57 = .ok (.iaload, 1) := by decide +kernel
theorem dX7_count_58 : decode cX7_count 58 = .ok (.ireturn, 1) := by decide +kernel
theorem dX7_count_59 : decode cX7_count 59 = .ok (.aload_n 0, 1) := by decide +kernel
theorem dX7_count_60 : decode cX7_count 60 = .ok (.iconst 5, 1) := by decide +kernel
theorem dX7_count_61 : decode cX7_count 61 = .ok (.invokevirtual 77, 3) := by decide +kernel
theorem dX7_count_64 : decode cX7_count 64 = .ok (.ireturn, 1) := by decide +kernel
theorem dX7_count_65 : decode cX7_count 65 = .ok (.aload_n 0, 1) := by decide +kernel
theorem dX7_count_66 : decode cX7_count 66 = .ok (.getfield 7, 3) := by decide +kernel
theorem dX7_count_69 : decode cX7_count 69 = .ok (.iconst 1, 1) := by decide +kernel
theorem dX7_count_70 : decode cX7_count 70 = .ok (.iaload, 1) := by decide +kernel
theorem dX7_count_71 : decode cX7_count 71 = .ok (.ireturn, 1) := by decide +kernel
theorem dX7_count_72 : decode cX7_count 72 = .ok (.aload_n 0, 1) := by decide +kernel
theorem dX7_count_73 : decode cX7_count 73 = .ok (.getfield 7, 3) := by decide +kernel
theorem dX7_count_76 : decode cX7_count 76 = .ok (.iconst 2, 1) := by decide +kernel
theorem dX7_count_77 : decode cX7_count 77 = .ok (.iaload, 1) := by decide +kernel
theorem dX7_count_78 : decode cX7_count 78 = .ok (.ireturn, 1) := by decide +kernel
theorem dX7_count_79 : decode cX7_count 79 = .ok (.aload_n 0, 1) := by decide +kernel
theorem dX7_count_80 : decode cX7_count 80 = .ok (.iconst 0, 1) := by decide +kernel
theorem dX7_count_81 : decode cX7_count 81 = .ok (.invokevirtual 77, 3) := by decide +kernel
theorem dX7_count_84 : decode cX7_count 84 = .ok (.ireturn, 1) := by decide +kernel
theorem dX7_count_85 : decode cX7_count 85 = .ok (.aload_n 0, 1) := by decide +kernel
theorem dX7_count_86 : decode cX7_count 86 = .ok (.invokevirtual 140, 3) := by decide +kernel
theorem dX7_count_89 : decode cX7_count 89 = .ok (.ireturn, 1) := by decide +kernel
theorem dX7_count_90 : decode cX7_count 90 = .ok (.aload_n 0, 1) := by decide +kernel
theorem dX7_count_91 : decode cX7_count 91 = .ok (.getfield 7, 3) := by decide +kernel
theorem dX7_count_94 : decode cX7_count 94 = .ok (.iconst 3, 1) := by decide +kernel
theorem dX7_count_95 : decode cX7_count 95 = .ok (.iaload, 1) := by decide +kernel
theorem dX7_count_96 : decode cX7_count 96 = .ok (.ireturn, 1) := by decide +kernel
theorem dX7_count_97 : decode cX7_count 97 = .ok (.aload_n 0, 1) := by decide +kernel
theorem dX7_count_98 : decode cX7_count 98 = .ok (.getfield 32, 3) := by decide +kernel
theorem dX7_count_101 : decode cX7_count 101 = .ok (.ireturn, 1) := by decide +kernel
theorem dX7_count_102 : decode cX7_count 102 = .ok (.aload_n 0, 1) := by decide +kernel
theorem dX7_count_103 : decode cX7_count 103 = .ok (.getfield 131, 3) := by decide +kernel
theorem dX7_count_106 : decode cX7_count 106 = .ok (.ireturn, 1) := by decide +kernel
theorem dX7_count_107 : decode cX7_count 107 = .ok (.bipush (-2), 2) := by decide +kernel
theorem dX7_count_109 : decode cX7_count 109 = .ok (.ireturn, 1) := by decide +kernel
theorem dX7_found_0 : decode cX7_found 0 = .ok (.iload_n 1, 1) := by decide +kernel
theorem dX7_found_1 : decode cX7_found 1 = .ok (.ifCond .ge 8, 3) := by decide +kernel
theorem dX7_found_4 : decode cX7_found 4 = .ok (.bipush (-2), 2) := by decide +kernel
theorem dX7_found_6 : decode cX7_found 6 = .ok (.goto 26, 3) := by decide +kernel
theorem dX7_found_9 : decode cX7_found 9 = .ok (.iload_n 1, 1) := by decide +kernel
theorem dX7_found_10 : decode cX7_found 10 = .ok (.aload_n 0, 1) := by decide +kernel
theorem dX7_found_11 : decode cX7_found 11 = .ok (.getfield 7, 3) := by decide +kernel
theorem dX7_found_14 : decode cX7_found 14 = .ok (.iconst 3, 1) := by decide +kernel
theorem dX7_found_15 : decode cX7_found 15 = .ok (.iaload, 1) := by decide +kernel
theorem dX7_found_16 : decode cX7_found 16 = .ok (.if_icmp .ge 14, 3) := by decide +kernel
theorem dX7_found_19 : decode cX7_found 19 = .ok (.aload_n 0, 1) := by decide +kernel
theorem dX7_found_20 : decode cX7_found 20 = .ok (.getfield 7, 3) := by decide +kernel
theorem dX7_found_23 : decode cX7_found 23 = .ok (.iconst 4, 1) := by decide +kernel
theorem dX7_found_24 : decode cX7_found 24 = .ok (.iload_n 1, 1) := by decide +kernel
theorem dX7_found_25 : decode cX7_found 25 = .ok (.iadd, 1) := by decide +kernel
theorem dX7_found_26 : decode cX7_found 26 = .ok (.iaload, 1) := by decide +kernel
theorem dX7_found_27 : decode cX7_found 27 = .ok (.goto 5, 3) := by decide +kernel
theorem dX7_found_30 : decode cX7_found 30 = .ok (.bipush (-4), 2) := by decide +kernel
theorem dX7_found_32 : decode cX7_found 32 = .ok (.ireturn, 1) := by decide +kernel
theorem dX7_distance_0 : decode cX7_distance 0 = .ok (.iload_n 1, 1) := by decide +kernel
theorem dX7_distance_1 : decode cX7_distance 1 = .ok (.iconst 0, 1) := by decide +kernel
theorem dX7_distance_2 : decode cX7_distance 2 = .ok (.bipush 15, 2) := by decide +kernel
theorem dX7_distance_4 : decode cX7_distance 4 = .ok (.invokestatic 28, 3) := by decide +kernel
theorem dX7_distance_7 : decode cX7_distance 7 = .ok (.ifCond .eq 13, 3) := by decide +kernel
theorem dX7_distance_10 : decode cX7_distance 10 = .ok (.iload_n 2, 1) := by decide +kernel
theorem dX7_distance_11 : decode cX7_distance 11 = .ok (.iconst 0, 1) := by decide +kernel
theorem dX7_distance_12 : decode cX7_distance 12 = .ok (.bipush 15, 2) := by decide +kernel
theorem dX7_distance_14 : decode cX7_distance 14 = .ok (.invokestatic 28, 3) := by decide +kernel
theorem dX7_distance_17 : decode cX7_distance 17 = .ok (.ifCond .ne 6, 3) := by decide +kernel
theorem dX7_distance_20 : decode cX7_distance 20 = .ok (.bipush (-2), 2) := by decide +kernel
theorem dX7_distance_22 : decode cX7_distance 22 = .ok (.ireturn, 1) := by decide +kernel
theorem dX7_distance_23 : decode cX7_distance 23 = .ok (.aload_n 0, 1) := by decide +kernel
theorem dX7_distance_24 : decode cX7_distance 24 = .ok (.iload_n 2, 1) := by decide +kernel
theorem dX7_distance_25 : decode cX7_distance 25 = .ok (.invokevirtual 109, 3) := by decide +kernel
theorem dX7_distance_28 : decode cX7_distance 28 = .ok (.aload_n 0, 1) := by decide +kernel
theorem dX7_distance_29 : decode cX7_distance 29 = .ok (.getfield 25, 3) := by decide +kernel
theorem dX7_distance_32 : decode cX7_distance 32 = .ok (.iload_n 1, 1) := by decide +kernel
theorem dX7_distance_33 : decode cX7_distance 33 = .ok (.iaload, 1) := by decide +kernel
theorem dX7_distance_34 : decode cX7_distance 34 = .ok (.ireturn, 1) := by decide +kernel
theorem dX7_peek_0 : decode cX7_peek 0 = .ok (.iload_n 1, 1) := by decide +kernel
theorem dX7_peek_1 : decode cX7_peek 1 = .ok (.iconst 0, 1) := by decide +kernel
theorem dX7_peek_2 : decode cX7_peek 2 = .ok (.iconst 1, 1) := by decide +kernel
theorem dX7_peek_3 : decode cX7_peek 3 = .ok (.invokestatic 28, 3) := by decide +kernel
theorem dX7_peek_6 : decode cX7_peek 6 = .ok (.ifCond .eq 11, 3) := by decide +kernel
theorem dX7_peek_9 : decode cX7_peek 9 = .ok (.aload_n 0, 1) := by decide +kernel
theorem dX7_peek_10 : decode cX7_peek 10 = .ok (.iload_n 1, 1) := by decide +kernel
theorem dX7_peek_11 : decode cX7_peek 11 = .ok (.invokevirtual 94, 3) := by decide +kernel
theorem dX7_peek_14 : decode cX7_peek 14 = .ok (.goto 5, 3) := by decide +kernel
theorem dX7_peek_17 : decode cX7_peek 17 = .ok (.bipush (-2), 2) := by decide +kernel
theorem dX7_peek_19 : decode cX7_peek 19 = .ok (.ireturn, 1) := by decide +kernel
theorem dX7_ifIdentified_0 : decode cX7_ifIdentified 0 = .ok (.aload_n 0, 1) := by decide +kernel
theorem dX7_ifIdentified_1 : decode cX7_ifIdentified 1 = .ok (.getfield 7, 3) := by decide +kernel
theorem dX7_ifIdentified_4 : decode cX7_ifIdentified 4 = .ok (.iconst 0, 1) := by decide +kernel
theorem dX7_ifIdentified_5 : decode cX7_ifIdentified 5 = .ok (.aload_n 0, 1) := by decide +kernel
theorem dX7_ifIdentified_6 : decode cX7_ifIdentified 6 = .ok (.getfield 13, 3) := by decide +kernel
theorem dX7_ifIdentified_9 : decode cX7_ifIdentified 9 = .ok (.iconst 0, 1) := by decide +kernel
theorem dX7_ifIdentified_10 : decode cX7_ifIdentified 10 = .ok (.invokestatic 36, 3) := by decide +kernel
theorem dX7_ifIdentified_13 : decode cX7_ifIdentified 13 = .ok (.aload_n 0, 1) := by decide +kernel
theorem dX7_ifIdentified_14 : decode cX7_ifIdentified 14 = .ok (.invokevirtual 118, 3) := by decide +kernel
theorem dX7_ifIdentified_17 : decode cX7_ifIdentified 17 = .ok (.aload_n 0, 1) := by decide +kernel
theorem dX7_ifIdentified_18 : decode cX7_ifIdentified 18 = .ok (.getfield 7, 3) := by decide +kernel
theorem dX7_ifIdentified_21 : decode cX7_ifIdentified 21 = .ok (.iconst 3, 1) := by decide +kernel
theorem dX7_ifIdentified_22 : decode cX7_ifIdentified 22 = .ok (.iaload, 1) := by decide +kernel
theorem dX7_ifIdentified_23 : decode cX7_ifIdentified 23 = .ok (.istore_n 1, 1) := by decide +kernel
theorem dX7_ifIdentified_24 : decode cX7_ifIdentified 24 = .ok (.aload_n 0, 1) := by decide +kernel
theorem dX7_ifIdentified_25 : decode cX7_ifIdentified 25 = .ok (.getfield 13, 3) := by decide +kernel
theorem dX7_ifIdentified_28 : decode cX7_ifIdentified 28 = .ok (.iconst 0, 1) := by decide +kernel
theorem dX7_ifIdentified_29 : decode cX7_ifIdentified 29 = .ok (.aload_n 0, 1) := by decide +kernel
theorem dX7_ifIdentified_30 : decode cX7_ifIdentified 30 = .ok (.getfield 7, 3) := by decide +kernel
theorem dX7_ifIdentified_33 : decode cX7_ifIdentified 33 = .ok (.iconst 0, 1) := by decide +kernel
theorem dX7_ifIdentified_34 : decode cX7_ifIdentified 34 = .ok (.invokestatic 36, 3) := by decide +kernel
theorem dX7_ifIdentified_37 : decode cX7_ifIdentified 37 = .ok (.iload_n 1, 1) := by decide +kernel
theorem dX7_ifIdentified_38 : decode cX7_ifIdentified 38 = .ok (.ireturn, 1) := by decide +kernel
theorem dX7_ifExchanged_0 : decode cX7_ifExchanged 0 = .ok (.aload_n 0, 1) := by decide +kernel
theorem dX7_ifExchanged_1 : decode cX7_ifExchanged 1 = .ok (.iload_n 1, 1) := by decide +kernel
theorem dX7_ifExchanged_2 : decode cX7_ifExchanged 2 = .ok (.iload_n 2, 1) := by decide +kernel
theorem dX7_ifExchanged_3 : decode cX7_ifExchanged 3 = .ok (.invokevirtual 125, 3) := by decide +kernel
theorem dX7_ifExchanged_6 : decode cX7_ifExchanged 6 = .ok (.istore_n 3, 1) := by decide +kernel
theorem dX7_ifExchanged_7 : decode cX7_ifExchanged 7 = .ok (.iload_n 3, 1) := by decide +kernel
theorem dX7_ifExchanged_8 : decode cX7_ifExchanged 8 = .ok (.ifCond .ge 5, 3) := by decide +kernel
theorem dX7_ifExchanged_11 : decode cX7_ifExchanged 11 = .ok (.iload_n 3, 1) := by decide +kernel
theorem dX7_ifExchanged_12 : decode cX7_ifExchanged 12 = .ok (.ireturn, 1) := by decide +kernel
theorem dX7_ifExchanged_13 : decode cX7_ifExchanged 13 = .ok (.aload_n 0, 1) := by decide +kernel
theorem dX7_ifExchanged_14 : decode cX7_ifExchanged 14 = .ok (.getfield 7, 3) := by decide +kernel
theorem dX7_ifExchanged_17 : decode cX7_ifExchanged 17 = .ok (.iconst 0, 1) := by decide +kernel
theorem dX7_ifExchanged_18 : decode cX7_ifExchanged 18 = .ok (.aload_n 0, 1) := by decide +kernel
theorem dX7_ifExchanged_19 : decode cX7_ifExchanged 19 = .ok (.getfield 13, 3) := by decide +kernel
theorem dX7_ifExchanged_22 : decode cX7_ifExchanged 22 = .ok (.iconst 0, 1) := by decide +kernel
theorem dX7_ifExchanged_23 : decode cX7_ifExchanged 23 = .ok (.invokestatic 36, 3) := by decide +kernel
theorem dX7_ifExchanged_26 : decode cX7_ifExchanged 26 = .ok (.aload_n 0, 1) := by decide +kernel
theorem dX7_ifExchanged_27 : decode cX7_ifExchanged 27 = .ok (.iload_n 1, 1) := by decide +kernel
theorem dX7_ifExchanged_28 : decode cX7_ifExchanged 28 = .ok (.iload_n 2, 1) := by decide +kernel
theorem dX7_ifExchanged_29 : decode cX7_ifExchanged 29 = .ok (.invokevirtual 128, 3) := by decide +kernel
theorem dX7_ifExchanged_32 : decode cX7_ifExchanged 32 = .ok (.istore 4, 2) := by decide +kernel
theorem dX7_ifExchanged_34 : decode cX7_ifExchanged 34 = .ok (.aload_n 0, 1) := by decide +kernel
theorem dX7_ifExchanged_35 : decode cX7_ifExchanged 35 = .ok (.getfield 13, 3) := by decide +kernel
theorem dX7_ifExchanged_38 : decode cX7_ifExchanged 38 = .ok (.iconst 0, 1) := by decide +kernel
theorem dX7_ifExchanged_39 : decode cX7_ifExchanged 39 = .ok (.aload_n 0, 1) := by decide +kernel
theorem dX7_ifExchanged_40 : decode cX7_ifExchanged 40 = .ok (.getfield 7, 3) := by decide +kernel
theorem dX7_ifExchanged_43 : decode cX7_ifExchanged 43 = .ok (.iconst 0, 1) := by decide +kernel
theorem dX7_ifExchanged_44 : decode cX7_ifExchanged 44 = .ok (.invokestatic 36, 3) := by decide +kernel
theorem dX7_ifExchanged_47 : decode cX7_ifExchanged 47 = .ok (.iload 4, 2) := by decide +kernel
theorem dX7_ifExchanged_49 : decode cX7_ifExchanged 49 = .ok (.ireturn, 1) := by decide +kernel
theorem dX7_bypassed_0 : decode cX7_bypassed 0 = .ok (.iconst 0, 1) := by decide +kernel
theorem dX7_bypassed_1 : decode cX7_bypassed 1 = .ok (.istore_n 1, 1) := by decide +kernel
theorem dX7_bypassed_2 : decode cX7_bypassed 2 = .ok (.iconst 0, 1) := by decide +kernel
theorem dX7_bypassed_3 : decode cX7_bypassed 3 = .ok (.istore_n 2, 1) := by decide +kernel
theorem dX7_bypassed_4 : decode cX7_bypassed 4 = .ok (.iload_n 2, 1) := by decide +kernel
theorem dX7_bypassed_5 : decode cX7_bypassed 5 = .ok (.aload_n 0, 1) := by decide +kernel
theorem dX7_bypassed_6 : decode cX7_bypassed 6 = .ok (.getfield 7, 3) := by decide +kernel
theorem dX7_bypassed_9 : decode cX7_bypassed 9 = .ok (.iconst 0, 1) := by decide +kernel
theorem dX7_bypassed_10 : decode cX7_bypassed 10 = .ok (.iaload, 1) := by decide +kernel
theorem dX7_bypassed_11 : decode cX7_bypassed 11 = .ok (.if_icmp .ge 33, 3) := by decide +kernel
theorem dX7_bypassed_14 : decode cX7_bypassed 14 = .ok (.iload_n 1, 1) := by decide +kernel
theorem dX7_bypassed_15 : decode cX7_bypassed 15 = .ok (.aload_n 0, 1) := by decide +kernel
theorem dX7_bypassed_16 : decode cX7_bypassed 16 = .ok (.iload_n 2, 1) := by decide +kernel
theorem dX7_bypassed_17 : decode cX7_bypassed 17 = .ok (.invokevirtual 51, 3) := by decide +kernel
theorem dX7_bypassed_20 : decode cX7_bypassed 20 = .ok (.ifCond .ne 11, 3) := by decide +kernel
theorem dX7_bypassed_23 : decode cX7_bypassed 23 = .ok (.aload_n 0, 1) := by decide +kernel
theorem dX7_bypassed_24 : decode cX7_bypassed 24 = .ok (.iload_n 2, 1) := by decide +kernel
theorem dX7_bypassed_25 : decode cX7_bypassed 25 = .ok (.invokevirtual 55, 3) := by decide +kernel
theorem dX7_bypassed_28 : decode cX7_bypassed 28 = .ok (.ifCond .eq 7, 3) := by decide +kernel
theorem dX7_bypassed_31 : decode cX7_bypassed 31 = .ok (.iconst 0, 1) := by decide +kernel
theorem dX7_bypassed_32 : decode cX7_bypassed 32 = .ok (.goto 4, 3) := by decide +kernel
theorem dX7_bypassed_35 : decode cX7_bypassed 35 = .ok (.iconst 1, 1) := by decide +kernel
theorem dX7_bypassed_36 : decode cX7_bypassed 36 = .ok (.iadd, 1) := by decide +kernel
theorem dX7_bypassed_37 : decode cX7_bypassed 37 = .ok (.istore_n 1, 1) := by decide +kernel
theorem dX7_bypassed_38 : decode cX7_bypassed 38 = .ok (.iinc 2 1, 3) := by decide +kernel
theorem dX7_bypassed_41 : decode cX7_bypassed 41 = .ok (.goto (-37), 3) := by decide +kernel
theorem dX7_bypassed_44 : decode cX7_bypassed 44 = .ok (.iload_n 1, 1) := by decide +kernel
theorem dX7_bypassed_45 : decode cX7_bypassed 45 = .ok (.i2f, 1) := by decide +kernel
theorem dX7_bypassed_46 : decode cX7_bypassed 46 = .ok (.fstore_n 2, 1) := by decide +kernel
theorem dX7_bypassed_47 : decode cX7_bypassed 47 = .ok (.aload_n 0, 1) := by decide +kernel
theorem dX7_bypassed_48 : decode cX7_bypassed 48 = .ok (.getfield 7, 3) := by decide +kernel
theorem dX7_bypassed_51 : decode cX7_bypassed 51 = .ok (.iconst 0, 1) := by decide +kernel
theorem dX7_bypassed_52 : decode cX7_bypassed 52 = .ok (.iaload, 1) := by decide +kernel
theorem dX7_bypassed_53 : decode cX7_bypassed 53 = .ok (.i2f, 1) := by decide +kernel
theorem dX7_bypassed_54 : decode cX7_bypassed 54 = .ok (.fstore_n 3, 1) := by decide +kernel
theorem dX7_bypassed_55 : decode cX7_bypassed 55 = .ok (.aload_n 0, 1) := by decide +kernel
theorem dX7_bypassed_56 : decode cX7_bypassed 56 = .ok (.getfield 7, 3) := by decide +kernel
theorem dX7_bypassed_59 : decode cX7_bypassed 59 = .ok (.iconst 0, 1) := by decide +kernel
theorem dX7_bypassed_60 : decode cX7_bypassed 60 = .ok (.iaload, 1) := by decide +kernel
theorem dX7_bypassed_61 : decode cX7_bypassed 61 = .ok (.ifCond .ne 7, 3) := by decide +kernel
theorem dX7_bypassed_64 : decode cX7_bypassed 64 = .ok (.fconst 0, 1) := by decide +kernel
theorem dX7_bypassed_65 : decode cX7_bypassed 65 = .ok (.goto 6, 3) := by decide +kernel
theorem dX7_bypassed_68 : decode cX7_bypassed 68 = .ok (.fload_n 2, 1) := by decide +kernel
theorem dX7_bypassed_69 : decode cX7_bypassed 69 = .ok (.fload_n 3, 1) := by decide +kernel
theorem dX7_bypassed_70 : decode cX7_bypassed 70 = .ok (.fdiv, 1) := by decide +kernel
theorem dX7_bypassed_71 : decode cX7_bypassed 71 = .ok (.freturn, 1) := by decide +kernel
end
section
theorem dL_law_0 : decode cL_law 0 = .ok (.new 7, 3) := by decide +kernel
theorem dL_law_3 : decode cL_law 3 = .ok (.dup, 1) := by decide +kernel
theorem dL_law_4 : decode cL_law 4 = .ok (.invokespecial 9, 3) := by decide +kernel
theorem dL_law_7 : decode cL_law 7 = .ok (.astore_n 1, 1) := by decide +kernel
theorem dL_law_8 : decode cL_law 8 = .ok (.new 10, 3) := by decide +kernel
theorem dL_law_11 : decode cL_law 11 = .ok (.dup, 1) := by decide +kernel
theorem dL_law_12 : decode cL_law 12 = .ok (.invokespecial 12, 3) := by decide +kernel
theorem dL_law_15 : decode cL_law 15 = .ok (.astore_n 2, 1) := by decide +kernel
theorem dL_law_16 : decode cL_law 16 = .ok (.iconst 0, 1) := by decide +kernel
theorem dL_law_17 : decode cL_law 17 = .ok (.istore_n 3, 1) := by decide +kernel
theorem dL_law_18 : decode cL_law 18 = .ok (.iload_n 3, 1) := by decide +kernel
theorem dL_law_19 : decode cL_law 19 = .ok (.aload_n 0, 1) := by decide +kernel
theorem dL_law_20 : decode cL_law 20 = .ok (.arraylength, 1) := by decide +kernel
theorem dL_law_21 : decode cL_law 21 = .ok (.iconst 4, 1) := by decide +kernel
theorem dL_law_22 : decode cL_law 22 = .ok (.isub, 1) := by decide +kernel
theorem dL_law_23 : decode cL_law 23 = .ok (.if_icmp .gt 735, 3) := by decide +kernel
theorem dL_law_26 : decode cL_law 26 = .ok (.aload_n 0, 1) := by decide +kernel
theorem dL_law_27 : decode cL_law 27 = .ok (.iload_n 3, 1) := by decide +kernel
theorem dL_law_28 : decode cL_law 28 = .ok (.iaload, 1) := by decide +kernel
theorem dL_law_29 : decode cL_law 29 = .ok (.bipush 31, 2) := by decide +kernel
theorem dL_law_31 : decode cL_law 31 = .ok (.iand, 1) := by decide +kernel
theorem dL_law_32 : decode cL_law 32 = .ok (.tableswitch 720 0 23 #[112, 155, 178, 211, 260, 293, 316, 329, 362, 395, 418, 431, 444, 457, 470, 483, 496, 529, 552, 575, 608, 631, 644, 677], 112) := by decide +kernel
theorem dL_law_144 : decode cL_law 144 = .ok (.aload_n 1, 1) := by decide +kernel
theorem dL_law_145 : decode cL_law 145 = .ok (.aload_n 0, 1) := by decide +kernel
theorem dL_law_146 : decode cL_law 146 = .ok (.iload_n 3, 1) := by decide +kernel
theorem dL_law_147 : decode cL_law 147 = .ok (.iconst 1, 1) := by decide +kernel
theorem dL_law_148 : decode cL_law 148 = .ok (.iadd, 1) := by decide +kernel
theorem dL_law_149 : decode cL_law 149 = .ok (.iaload, 1) := by decide +kernel
theorem dL_law_150 : decode cL_law 150 = .ok (.aload_n 0, 1) := by decide +kernel
theorem dL_law_151 : decode cL_law 151 = .ok (.iload_n 3, 1) := by decide +kernel
theorem dL_law_152 : decode cL_law 152 = .ok (.iconst 2, 1) := by decide +kernel
theorem dL_law_153 : decode cL_law 153 = .ok (.iadd, 1) := by decide +kernel
theorem dL_law_154 : decode cL_law 154 = .ok (.iaload, 1) := by decide +kernel
theorem dL_law_155 : decode cL_law 155 = .ok (.aload_n 0, 1) := by decide +kernel
theorem dL_law_156 : decode cL_law 156 = .ok (.iload_n 3, 1) := by decide +kernel
theorem dL_law_157 : decode cL_law 157 = .ok (.iconst 3, 1) := by decide +kernel
theorem dL_law_158 : decode cL_law 158 = .ok (.iadd, 1) := by decide +kernel
theorem dL_law_159 : decode cL_law 159 = .ok (.iaload, 1) := by decide +kernel
theorem dL_law_160 : decode cL_law 160 = .ok (.invokevirtual 13, 3) := by decide +kernel
theorem dL_law_163 : decode cL_law 163 = .ok (.aload_n 2, 1) := by decide +kernel
theorem dL_law_164 : decode cL_law 164 = .ok (.aload_n 0, 1) := by decide +kernel
theorem dL_law_165 : decode cL_law 165 = .ok (.iload_n 3, 1) := by decide +kernel
theorem dL_law_166 : decode cL_law 166 = .ok (.iconst 1, 1) := by decide +kernel
theorem dL_law_167 : decode cL_law 167 = .ok (.iadd, 1) := by decide +kernel
theorem dL_law_168 : decode cL_law 168 = .ok (.iaload, 1) := by decide +kernel
theorem dL_law_169 : decode cL_law 169 = .ok (.aload_n 0, 1) := by decide +kernel
theorem dL_law_170 : decode cL_law 170 = .ok (.iload_n 3, 1) := by decide +kernel
theorem dL_law_171 : decode cL_law 171 = .ok (.iconst 2, 1) := by decide +kernel
theorem dL_law_172 : decode cL_law 172 = .ok (.iadd, 1) := by decide +kernel
theorem dL_law_173 : decode cL_law 173 = .ok (.iaload, 1) := by decide +kernel
theorem dL_law_174 : decode cL_law 174 = .ok (.aload_n 0, 1) := by decide +kernel
theorem dL_law_175 : decode cL_law 175 = .ok (.iload_n 3, 1) := by decide +kernel
theorem dL_law_176 : decode cL_law 176 = .ok (.iconst 3, 1) := by decide +kernel
theorem dL_law_177 : decode cL_law 177 = .ok (.iadd, 1) := by decide +kernel
theorem dL_law_178 : decode cL_law 178 = .ok (.iaload, 1) := by decide +kernel
theorem dL_law_179 : decode cL_law 179 = .ok (.invokevirtual 17, 3) := by decide +kernel
theorem dL_law_182 : decode cL_law 182 = .ok (.if_icmp .eq 570, 3) := by decide +kernel
theorem dL_law_185 : decode cL_law 185 = .ok (.iconst 0, 1) := by decide +kernel
theorem dL_law_186 : decode cL_law 186 = .ok (.ireturn, 1) := by decide +kernel
theorem dL_law_187 : decode cL_law 187 = .ok (.aload_n 1, 1) := by decide +kernel
theorem dL_law_188 : decode cL_law 188 = .ok (.aload_n 0, 1) := by decide +kernel
theorem dL_law_189 : decode cL_law 189 = .ok (.iload_n 3, 1) := by decide +kernel
theorem dL_law_190 : decode cL_law 190 = .ok (.iconst 1, 1) := by decide +kernel
theorem dL_law_191 : decode cL_law 191 = .ok (.iadd, 1) := by decide +kernel
theorem dL_law_192 : decode cL_law 192 = .ok (.iaload, 1) := by decide +kernel
theorem dL_law_193 : decode cL_law 193 = .ok (.invokevirtual 18, 3) := by decide +kernel
theorem dL_law_196 : decode cL_law 196 = .ok (.aload_n 2, 1) := by decide +kernel
theorem dL_law_197 : decode cL_law 197 = .ok (.aload_n 0, 1) := by decide +kernel
theorem dL_law_198 : decode cL_law 198 = .ok (.iload_n 3, 1) := by decide +kernel
theorem dL_law_199 : decode cL_law 199 = .ok (.iconst 1, 1) := by decide +kernel
theorem dL_law_200 : decode cL_law 200 = .ok (.iadd, 1) := by decide +kernel
theorem dL_law_201 : decode cL_law 201 = .ok (.iaload, 1) := by decide +kernel
theorem dL_law_202 : decode cL_law 202 = .ok (.invokevirtual 22, 3) := by decide +kernel
theorem dL_law_205 : decode cL_law 205 = .ok (.if_icmp .eq 547, 3) := by decide +kernel
theorem dL_law_208 : decode cL_law 208 = .ok (.iconst 0, 1) := by decide +kernel
theorem dL_law_209 : decode cL_law 209 = .ok (.ireturn, 1) := by decide +kernel
theorem dL_law_210 : decode cL_law 210 = .ok (.aload_n 1, 1) := by decide +kernel
theorem dL_law_211 : decode cL_law 211 = .ok (.aload_n 0, 1) := by decide +kernel
theorem dL_law_212 : decode cL_law 212 = .ok (.iload_n 3, 1) := by decide +kernel
theorem dL_law_213 : decode cL_law 213 = .ok (.iconst 1, 1) := by decide +kernel
theorem dL_law_214 : decode cL_law 214 = .ok (.iadd, 1) := by decide +kernel
theorem dL_law_215 : decode cL_law 215 = .ok (.iaload, 1) := by decide +kernel
theorem dL_law_216 : decode cL_law 216 = .ok (.aload_n 0, 1) := by decide +kernel
theorem dL_law_217 : decode cL_law 217 = .ok (.iload_n 3, 1) := by decide +kernel
theorem dL_law_218 : decode cL_law 218 = .ok (.iconst 2, 1) := by decide +kernel
theorem dL_law_219 : decode cL_law 219 = .ok (.iadd, 1) := by decide +kernel
theorem dL_law_220 : decode cL_law 220 = .ok (.iaload, 1) := by decide +kernel
theorem dL_law_221 : decode cL_law 221 = .ok (.invokevirtual 23, 3) := by decide +kernel
theorem dL_law_224 : decode cL_law 224 = .ok (.aload_n 2, 1) := by decide +kernel
theorem dL_law_225 : decode cL_law 225 = .ok (.aload_n 0, 1) := by decide +kernel
theorem dL_law_226 : decode cL_law 226 = .ok (.iload_n 3, 1) := by decide +kernel
theorem dL_law_227 : decode cL_law 227 = .ok (.iconst 1, 1) := by decide +kernel
theorem dL_law_228 : decode cL_law 228 = .ok (.iadd, 1) := by decide +kernel
theorem dL_law_229 : decode cL_law 229 = .ok (.iaload, 1) := by decide +kernel
theorem dL_law_230 : decode cL_law 230 = .ok (.aload_n 0, 1) := by decide +kernel
theorem dL_law_231 : decode cL_law 231 = .ok (.iload_n 3, 1) := by decide +kernel
theorem dL_law_232 : decode cL_law 232 = .ok (.iconst 2, 1) := by decide +kernel
theorem dL_law_233 : decode cL_law 233 = .ok (.iadd, 1) := by decide +kernel
theorem dL_law_234 : decode cL_law 234 = .ok (.iaload, 1) := by decide +kernel
theorem dL_law_235 : decode cL_law 235 = .ok (.invokevirtual 27, 3) := by decide +kernel
theorem dL_law_238 : decode cL_law 238 = .ok (.if_icmp .eq 514, 3) := by decide +kernel
theorem dL_law_241 : decode cL_law 241 = .ok (.iconst 0, 1) := by decide +kernel
theorem dL_law_242 : decode cL_law 242 = .ok (.ireturn, 1) := by decide +kernel
theorem dL_law_243 : decode cL_law 243 = .ok (.aload_n 1, 1) := by decide +kernel
theorem dL_law_244 : decode cL_law 244 = .ok (.aload_n 0, 1) := by decide +kernel
theorem dL_law_245 : decode cL_law 245 = .ok (.iload_n 3, 1) := by decide +kernel
theorem dL_law_246 : decode cL_law 246 = .ok (.iconst 1, 1) := by decide +kernel
theorem dL_law_247 : decode cL_law 247 = .ok (.iadd, 1) := by decide +kernel
theorem dL_law_248 : decode cL_law 248 = .ok (.iaload, 1) := by decide +kernel
theorem dL_law_249 : decode cL_law 249 = .ok (.aload_n 0, 1) := by decide +kernel
theorem dL_law_250 : decode cL_law 250 = .ok (.iload_n 3, 1) := by decide +kernel
theorem dL_law_251 : decode cL_law 251 = .ok (.iconst 2, 1) := by decide +kernel
theorem dL_law_252 : decode cL_law 252 = .ok (.iadd, 1) := by decide +kernel
theorem dL_law_253 : decode cL_law 253 = .ok (.iaload, 1) := by decide +kernel
theorem dL_law_254 : decode cL_law 254 = .ok (.ifCond .eq 7, 3) := by decide +kernel
theorem dL_law_257 : decode cL_law 257 = .ok (.iconst 1, 1) := by decide +kernel
theorem dL_law_258 : decode cL_law 258 = .ok (.goto 4, 3) := by decide +kernel
theorem dL_law_261 : decode cL_law 261 = .ok (.iconst 0, 1) := by decide +kernel
theorem dL_law_262 : decode cL_law 262 = .ok (.invokevirtual 28, 3) := by decide +kernel
theorem dL_law_265 : decode cL_law 265 = .ok (.aload_n 2, 1) := by decide +kernel
theorem dL_law_266 : decode cL_law 266 = .ok (.aload_n 0, 1) := by decide +kernel
theorem dL_law_267 : decode cL_law 267 = .ok (.iload_n 3, 1) := by decide +kernel
theorem dL_law_268 : decode cL_law 268 = .ok (.iconst 1, 1) := by decide +kernel
theorem dL_law_269 : decode cL_law 269 = .ok (.iadd, 1) := by decide +kernel
theorem dL_law_270 : decode cL_law 270 = .ok (.iaload, 1) := by decide +kernel
theorem dL_law_271 : decode cL_law 271 = .ok (.aload_n 0, 1) := by decide +kernel
theorem dL_law_272 : decode cL_law 272 = .ok (.iload_n 3, 1) := by decide +kernel
theorem dL_law_273 : decode cL_law 273 = .ok (.iconst 2, 1) := by decide +kernel
theorem dL_law_274 : decode cL_law 274 = .ok (.iadd, 1) := by decide +kernel
theorem dL_law_275 : decode cL_law 275 = .ok (.iaload, 1) := by decide +kernel
theorem dL_law_276 : decode cL_law 276 = .ok (.ifCond .eq 7, 3) := by decide +kernel
theorem dL_law_279 : decode cL_law 279 = .ok (.iconst 1, 1) := by decide +kernel
theorem dL_law_280 : decode cL_law 280 = .ok (.goto 4, 3) := by decide +kernel
theorem dL_law_283 : decode cL_law 283 = .ok (.iconst 0, 1) := by decide +kernel
theorem dL_law_284 : decode cL_law 284 = .ok (.invokevirtual 32, 3) := by decide +kernel
theorem dL_law_287 : decode cL_law 287 = .ok (.if_icmp .eq 465, 3) := by decide +kernel
theorem dL_law_290 : decode cL_law 290 = .ok (.iconst 0, 1) := by decide +kernel
theorem dL_law_291 : decode cL_law 291 = .ok (.ireturn, 1) := by decide +kernel
theorem dL_law_292 : decode cL_law 292 = .ok (.aload_n 1, 1) := by decide +kernel
theorem dL_law_293 : decode cL_law 293 = .ok (.aload_n 0, 1) := by decide +kernel
theorem dL_law_294 : decode cL_law 294 = .ok (.iload_n 3, 1) := by decide +kernel
theorem dL_law_295 : decode cL_law 295 = .ok (.iconst 1, 1) := by decide +kernel
theorem dL_law_296 : decode cL_law 296 = .ok (.iadd, 1) := by decide +kernel
theorem dL_law_297 : decode cL_law 297 = .ok (.iaload, 1) := by decide +kernel
theorem dL_law_298 : decode cL_law 298 = .ok (.aload_n 0, 1) := by decide +kernel
theorem dL_law_299 : decode cL_law 299 = .ok (.iload_n 3, 1) := by decide +kernel
theorem dL_law_300 : decode cL_law 300 = .ok (.iconst 2, 1) := by decide +kernel
theorem dL_law_301 : decode cL_law 301 = .ok (.iadd, 1) := by decide +kernel
theorem dL_law_302 : decode cL_law 302 = .ok (.iaload, 1) := by decide +kernel
theorem dL_law_303 : decode cL_law 303 = .ok (.invokevirtual 33, 3) := by decide +kernel
theorem dL_law_306 : decode cL_law 306 = .ok (.aload_n 2, 1) := by decide +kernel
theorem dL_law_307 : decode cL_law 307 = .ok (.aload_n 0, 1) := by decide +kernel
theorem dL_law_308 : decode cL_law 308 = .ok (.iload_n 3, 1) := by decide +kernel
theorem dL_law_309 : decode cL_law 309 = .ok (.iconst 1, 1) := by decide +kernel
theorem dL_law_310 : decode cL_law 310 = .ok (.iadd, 1) := by decide +kernel
theorem dL_law_311 : decode cL_law 311 = .ok (.iaload, 1) := by decide +kernel
theorem dL_law_312 : decode cL_law 312 = .ok (.aload_n 0, 1) := by decide +kernel
theorem dL_law_313 : decode cL_law 313 = .ok (.iload_n 3, 1) := by decide +kernel
theorem dL_law_314 : decode cL_law 314 = .ok (.iconst 2, 1) := by decide +kernel
theorem dL_law_315 : decode cL_law 315 = .ok (.iadd, 1) := by decide +kernel
theorem dL_law_316 : decode cL_law 316 = .ok (.iaload, 1) := by decide +kernel
theorem dL_law_317 : decode cL_law 317 = .ok (.invokevirtual 36, 3) := by decide +kernel
theorem dL_law_320 : decode cL_law 320 = .ok (.if_icmp .eq 432, 3) := by decide +kernel
theorem dL_law_323 : decode cL_law 323 = .ok (.iconst 0, 1) := by decide +kernel
theorem dL_law_324 : decode cL_law 324 = .ok (.ireturn, 1) := by decide +kernel
theorem dL_law_325 : decode cL_law 325 = .ok (.aload_n 1, 1) := by decide +kernel
theorem dL_law_326 : decode cL_law 326 = .ok (.aload_n 0, 1) := by decide +kernel
theorem dL_law_327 : decode cL_law 327 = .ok (.iload_n 3, 1) := by decide +kernel
theorem dL_law_328 : decode cL_law 328 = .ok (.iconst 1, 1) := by decide +kernel
theorem dL_law_329 : decode cL_law 329 = .ok (.iadd, 1) := by decide +kernel
theorem dL_law_330 : decode cL_law 330 = .ok (.iaload, 1) := by decide +kernel
theorem dL_law_331 : decode cL_law 331 = .ok (.invokevirtual 37, 3) := by decide +kernel
theorem dL_law_334 : decode cL_law 334 = .ok (.aload_n 2, 1) := by decide +kernel
theorem dL_law_335 : decode cL_law 335 = .ok (.aload_n 0, 1) := by decide +kernel
theorem dL_law_336 : decode cL_law 336 = .ok (.iload_n 3, 1) := by decide +kernel
theorem dL_law_337 : decode cL_law 337 = .ok (.iconst 1, 1) := by decide +kernel
theorem dL_law_338 : decode cL_law 338 = .ok (.iadd, 1) := by decide +kernel
theorem dL_law_339 : decode cL_law 339 = .ok (.iaload, 1) := by decide +kernel
theorem dL_law_340 : decode cL_law 340 = .ok (.invokevirtual 40, 3) := by decide +kernel
theorem dL_law_343 : decode cL_law 343 = .ok (.if_icmp .eq 409, 3) := by decide +kernel
theorem dL_law_346 : decode cL_law 346 = .ok (.iconst 0, 1) := by decide +kernel
theorem dL_law_347 : decode cL_law 347 = .ok (.ireturn, 1) := by decide +kernel
theorem dL_law_348 : decode cL_law 348 = .ok (.aload_n 1, 1) := by decide +kernel
theorem dL_law_349 : decode cL_law 349 = .ok (.invokevirtual 41, 3) := by decide +kernel
theorem dL_law_352 : decode cL_law 352 = .ok (.aload_n 2, 1) := by decide +kernel
theorem dL_law_353 : decode cL_law 353 = .ok (.invokevirtual 45, 3) := by decide +kernel
theorem dL_law_356 : decode cL_law 356 = .ok (.if_icmp .eq 396, 3) := by decide +kernel
theorem dL_law_359 : decode cL_law 359 = .ok (.iconst 0, 1) := by decide +kernel
theorem dL_law_360 : decode cL_law 360 = .ok (.ireturn, 1) := by decide +kernel
theorem dL_law_361 : decode cL_law 361 = .ok (.aload_n 1, 1) := by decide +kernel
theorem dL_law_362 : decode cL_law 362 = .ok (.aload_n 0, 1) := by decide +kernel
theorem dL_law_363 : decode cL_law 363 = .ok (.iload_n 3, 1) := by decide +kernel
theorem dL_law_364 : decode cL_law 364 = .ok (.iconst 1, 1) := by decide +kernel
theorem dL_law_365 : decode cL_law 365 = .ok (.iadd, 1) := by decide +kernel
theorem dL_law_366 : decode cL_law 366 = .ok (.iaload, 1) := by decide +kernel
theorem dL_law_367 : decode cL_law 367 = .ok (.aload_n 0, 1) := by decide +kernel
theorem dL_law_368 : decode cL_law 368 = .ok (.iload_n 3, 1) := by decide +kernel
theorem dL_law_369 : decode cL_law 369 = .ok (.iconst 2, 1) := by decide +kernel
theorem dL_law_370 : decode cL_law 370 = .ok (.iadd, 1) := by decide +kernel
theorem dL_law_371 : decode cL_law 371 = .ok (.iaload, 1) := by decide +kernel
theorem dL_law_372 : decode cL_law 372 = .ok (.invokevirtual 46, 3) := by decide +kernel
theorem dL_law_375 : decode cL_law 375 = .ok (.aload_n 2, 1) := by decide +kernel
theorem dL_law_376 : decode cL_law 376 = .ok (.aload_n 0, 1) := by decide +kernel
theorem dL_law_377 : decode cL_law 377 = .ok (.iload_n 3, 1) := by decide +kernel
theorem dL_law_378 : decode cL_law 378 = .ok (.iconst 1, 1) := by decide +kernel
theorem dL_law_379 : decode cL_law 379 = .ok (.iadd, 1) := by decide +kernel
theorem dL_law_380 : decode cL_law 380 = .ok (.iaload, 1) := by decide +kernel
theorem dL_law_381 : decode cL_law 381 = .ok (.aload_n 0, 1) := by decide +kernel
theorem dL_law_382 : decode cL_law 382 = .ok (.iload_n 3, 1) := by decide +kernel
theorem dL_law_383 : decode cL_law 383 = .ok (.iconst 2, 1) := by decide +kernel
theorem dL_law_384 : decode cL_law 384 = .ok (.iadd, 1) := by decide +kernel
theorem dL_law_385 : decode cL_law 385 = .ok (.iaload, 1) := by decide +kernel
theorem dL_law_386 : decode cL_law 386 = .ok (.invokevirtual 49, 3) := by decide +kernel
theorem dL_law_389 : decode cL_law 389 = .ok (.if_icmp .eq 363, 3) := by decide +kernel
theorem dL_law_392 : decode cL_law 392 = .ok (.iconst 0, 1) := by decide +kernel
theorem dL_law_393 : decode cL_law 393 = .ok (.ireturn, 1) := by decide +kernel
theorem dL_law_394 : decode cL_law 394 = .ok (.aload_n 1, 1) := by decide +kernel
theorem dL_law_395 : decode cL_law 395 = .ok (.aload_n 0, 1) := by decide +kernel
theorem dL_law_396 : decode cL_law 396 = .ok (.iload_n 3, 1) := by decide +kernel
theorem dL_law_397 : decode cL_law 397 = .ok (.iconst 1, 1) := by decide +kernel
theorem dL_law_398 : decode cL_law 398 = .ok (.iadd, 1) := by decide +kernel
theorem dL_law_399 : decode cL_law 399 = .ok (.iaload, 1) := by decide +kernel
theorem dL_law_400 : decode cL_law 400 = .ok (.aload_n 0, 1) := by decide +kernel
theorem dL_law_401 : decode cL_law 401 = .ok (.iload_n 3, 1) := by decide +kernel
theorem dL_law_402 : decode cL_law 402 = .ok (.iconst 2, 1) := by decide +kernel
theorem dL_law_403 : decode cL_law 403 = .ok (.iadd, 1) := by decide +kernel
theorem dL_law_404 : decode cL_law 404 = .ok (.iaload, 1) := by decide +kernel
theorem dL_law_405 : decode cL_law 405 = .ok (.invokevirtual 50, 3) := by decide +kernel
theorem dL_law_408 : decode cL_law 408 = .ok (.aload_n 2, 1) := by decide +kernel
theorem dL_law_409 : decode cL_law 409 = .ok (.aload_n 0, 1) := by decide +kernel
theorem dL_law_410 : decode cL_law 410 = .ok (.iload_n 3, 1) := by decide +kernel
theorem dL_law_411 : decode cL_law 411 = .ok (.iconst 1, 1) := by decide +kernel
theorem dL_law_412 : decode cL_law 412 = .ok (.iadd, 1) := by decide +kernel
theorem dL_law_413 : decode cL_law 413 = .ok (.iaload, 1) := by decide +kernel
theorem dL_law_414 : decode cL_law 414 = .ok (.aload_n 0, 1) := by decide +kernel
theorem dL_law_415 : decode cL_law 415 = .ok (.iload_n 3, 1) := by decide +kernel
theorem dL_law_416 : decode cL_law 416 = .ok (.iconst 2, 1) := by decide +kernel
theorem dL_law_417 : decode cL_law 417 = .ok (.iadd, 1) := by decide +kernel
theorem dL_law_418 : decode cL_law 418 = .ok (.iaload, 1) := by decide +kernel
theorem dL_law_419 : decode cL_law 419 = .ok (.invokevirtual 53, 3) := by decide +kernel
theorem dL_law_422 : decode cL_law 422 = .ok (.if_icmp .eq 330, 3) := by decide +kernel
theorem dL_law_425 : decode cL_law 425 = .ok (.iconst 0, 1) := by decide +kernel
theorem dL_law_426 : decode cL_law 426 = .ok (.ireturn, 1) := by decide +kernel
theorem dL_law_427 : decode cL_law 427 = .ok (.aload_n 1, 1) := by decide +kernel
theorem dL_law_428 : decode cL_law 428 = .ok (.aload_n 0, 1) := by decide +kernel
theorem dL_law_429 : decode cL_law 429 = .ok (.iload_n 3, 1) := by decide +kernel
theorem dL_law_430 : decode cL_law 430 = .ok (.iconst 1, 1) := by decide +kernel
theorem dL_law_431 : decode cL_law 431 = .ok (.iadd, 1) := by decide +kernel
theorem dL_law_432 : decode cL_law 432 = .ok (.iaload, 1) := by decide +kernel
theorem dL_law_433 : decode cL_law 433 = .ok (.invokevirtual 54, 3) := by decide +kernel
theorem dL_law_436 : decode cL_law 436 = .ok (.aload_n 2, 1) := by decide +kernel
theorem dL_law_437 : decode cL_law 437 = .ok (.aload_n 0, 1) := by decide +kernel
theorem dL_law_438 : decode cL_law 438 = .ok (.iload_n 3, 1) := by decide +kernel
theorem dL_law_439 : decode cL_law 439 = .ok (.iconst 1, 1) := by decide +kernel
theorem dL_law_440 : decode cL_law 440 = .ok (.iadd, 1) := by decide +kernel
theorem dL_law_441 : decode cL_law 441 = .ok (.iaload, 1) := by decide +kernel
theorem dL_law_442 : decode cL_law 442 = .ok (.invokevirtual 57, 3) := by decide +kernel
theorem dL_law_445 : decode cL_law 445 = .ok (.if_icmp .eq 307, 3) := by decide +kernel
theorem dL_law_448 : decode cL_law 448 = .ok (.iconst 0, 1) := by decide +kernel
theorem dL_law_449 : decode cL_law 449 = .ok (.ireturn, 1) := by decide +kernel
theorem dL_law_450 : decode cL_law 450 = .ok (.aload_n 1, 1) := by decide +kernel
theorem dL_law_451 : decode cL_law 451 = .ok (.invokevirtual 58, 3) := by decide +kernel
theorem dL_law_454 : decode cL_law 454 = .ok (.aload_n 2, 1) := by decide +kernel
theorem dL_law_455 : decode cL_law 455 = .ok (.invokevirtual 61, 3) := by decide +kernel
theorem dL_law_458 : decode cL_law 458 = .ok (.if_icmp .eq 294, 3) := by decide +kernel
theorem dL_law_461 : decode cL_law 461 = .ok (.iconst 0, 1) := by decide +kernel
theorem dL_law_462 : decode cL_law 462 = .ok (.ireturn, 1) := by decide +kernel
theorem dL_law_463 : decode cL_law 463 = .ok (.aload_n 1, 1) := by decide +kernel
theorem dL_law_464 : decode cL_law 464 = .ok (.invokevirtual 62, 3) := by decide +kernel
theorem dL_law_467 : decode cL_law 467 = .ok (.aload_n 2, 1) := by decide +kernel
theorem dL_law_468 : decode cL_law 468 = .ok (.invokevirtual 65, 3) := by decide +kernel
theorem dL_law_471 : decode cL_law 471 = .ok (.if_icmp .eq 281, 3) := by decide +kernel
theorem dL_law_474 : decode cL_law 474 = .ok (.iconst 0, 1) := by decide +kernel
theorem dL_law_475 : decode cL_law 475 = .ok (.ireturn, 1) := by decide +kernel
theorem dL_law_476 : decode cL_law 476 = .ok (.aload_n 1, 1) := by decide +kernel
theorem dL_law_477 : decode cL_law 477 = .ok (.invokevirtual 66, 3) := by decide +kernel
theorem dL_law_480 : decode cL_law 480 = .ok (.aload_n 2, 1) := by decide +kernel
theorem dL_law_481 : decode cL_law 481 = .ok (.invokevirtual 69, 3) := by decide +kernel
theorem dL_law_484 : decode cL_law 484 = .ok (.if_icmp .eq 268, 3) := by decide +kernel
theorem dL_law_487 : decode cL_law 487 = .ok (.iconst 0, 1) := by decide +kernel
theorem dL_law_488 : decode cL_law 488 = .ok (.ireturn, 1) := by decide +kernel
theorem dL_law_489 : decode cL_law 489 = .ok (.aload_n 1, 1) := by decide +kernel
theorem dL_law_490 : decode cL_law 490 = .ok (.invokevirtual 70, 3) := by decide +kernel
theorem dL_law_493 : decode cL_law 493 = .ok (.aload_n 2, 1) := by decide +kernel
theorem dL_law_494 : decode cL_law 494 = .ok (.invokevirtual 73, 3) := by decide +kernel
theorem dL_law_497 : decode cL_law 497 = .ok (.if_icmp .eq 255, 3) := by decide +kernel
theorem dL_law_500 : decode cL_law 500 = .ok (.iconst 0, 1) := by decide +kernel
theorem dL_law_501 : decode cL_law 501 = .ok (.ireturn, 1) := by decide +kernel
theorem dL_law_502 : decode cL_law 502 = .ok (.aload_n 1, 1) := by decide +kernel
theorem dL_law_503 : decode cL_law 503 = .ok (.invokevirtual 74, 3) := by decide +kernel
theorem dL_law_506 : decode cL_law 506 = .ok (.aload_n 2, 1) := by decide +kernel
theorem dL_law_507 : decode cL_law 507 = .ok (.invokevirtual 77, 3) := by decide +kernel
theorem dL_law_510 : decode cL_law 510 = .ok (.if_icmp .eq 242, 3) := by decide +kernel
theorem dL_law_513 : decode cL_law 513 = .ok (.iconst 0, 1) := by decide +kernel
theorem dL_law_514 : decode cL_law 514 = .ok (.ireturn, 1) := by decide +kernel
theorem dL_law_515 : decode cL_law 515 = .ok (.aload_n 1, 1) := by decide +kernel
theorem dL_law_516 : decode cL_law 516 = .ok (.invokevirtual 78, 3) := by decide +kernel
theorem dL_law_519 : decode cL_law 519 = .ok (.aload_n 2, 1) := by decide +kernel
theorem dL_law_520 : decode cL_law 520 = .ok (.invokevirtual 81, 3) := by decide +kernel
theorem dL_law_523 : decode cL_law 523 = .ok (.if_icmp .eq 229, 3) := by decide +kernel
theorem dL_law_526 : decode cL_law 526 = .ok (.iconst 0, 1) := by decide +kernel
theorem dL_law_527 : decode cL_law 527 = .ok (.ireturn, 1) := by decide +kernel
theorem dL_law_528 : decode cL_law 528 = .ok (.aload_n 1, 1) := by decide +kernel
theorem dL_law_529 : decode cL_law 529 = .ok (.aload_n 0, 1) := by decide +kernel
theorem dL_law_530 : decode cL_law 530 = .ok (.iload_n 3, 1) := by decide +kernel
theorem dL_law_531 : decode cL_law 531 = .ok (.iconst 1, 1) := by decide +kernel
theorem dL_law_532 : decode cL_law 532 = .ok (.iadd, 1) := by decide +kernel
theorem dL_law_533 : decode cL_law 533 = .ok (.iaload, 1) := by decide +kernel
theorem dL_law_534 : decode cL_law 534 = .ok (.aload_n 0, 1) := by decide +kernel
theorem dL_law_535 : decode cL_law 535 = .ok (.iload_n 3, 1) := by decide +kernel
theorem dL_law_536 : decode cL_law 536 = .ok (.iconst 2, 1) := by decide +kernel
theorem dL_law_537 : decode cL_law 537 = .ok (.iadd, 1) := by decide +kernel
theorem dL_law_538 : decode cL_law 538 = .ok (.iaload, 1) := by decide +kernel
theorem dL_law_539 : decode cL_law 539 = .ok (.invokevirtual 82, 3) := by decide +kernel
theorem dL_law_542 : decode cL_law 542 = .ok (.aload_n 2, 1) := by decide +kernel
theorem dL_law_543 : decode cL_law 543 = .ok (.aload_n 0, 1) := by decide +kernel
theorem dL_law_544 : decode cL_law 544 = .ok (.iload_n 3, 1) := by decide +kernel
theorem dL_law_545 : decode cL_law 545 = .ok (.iconst 1, 1) := by decide +kernel
theorem dL_law_546 : decode cL_law 546 = .ok (.iadd, 1) := by decide +kernel
theorem dL_law_547 : decode cL_law 547 = .ok (.iaload, 1) := by decide +kernel
theorem dL_law_548 : decode cL_law 548 = .ok (.aload_n 0, 1) := by decide +kernel
theorem dL_law_549 : decode cL_law 549 = .ok (.iload_n 3, 1) := by decide +kernel
theorem dL_law_550 : decode cL_law 550 = .ok (.iconst 2, 1) := by decide +kernel
theorem dL_law_551 : decode cL_law 551 = .ok (.iadd, 1) := by decide +kernel
theorem dL_law_552 : decode cL_law 552 = .ok (.iaload, 1) := by decide +kernel
theorem dL_law_553 : decode cL_law 553 = .ok (.invokevirtual 85, 3) := by decide +kernel
theorem dL_law_556 : decode cL_law 556 = .ok (.if_icmp .eq 196, 3) := by decide +kernel
theorem dL_law_559 : decode cL_law 559 = .ok (.iconst 0, 1) := by decide +kernel
theorem dL_law_560 : decode cL_law 560 = .ok (.ireturn, 1) := by decide +kernel
theorem dL_law_561 : decode cL_law 561 = .ok (.aload_n 1, 1) := by decide +kernel
theorem dL_law_562 : decode cL_law 562 = .ok (.aload_n 0, 1) := by decide +kernel
theorem dL_law_563 : decode cL_law 563 = .ok (.iload_n 3, 1) := by decide +kernel
theorem dL_law_564 : decode cL_law 564 = .ok (.iconst 1, 1) := by decide +kernel
theorem dL_law_565 : decode cL_law 565 = .ok (.iadd, 1) := by decide +kernel
theorem dL_law_566 : decode cL_law 566 = .ok (.iaload, 1) := by decide +kernel
theorem dL_law_567 : decode cL_law 567 = .ok (.invokevirtual 86, 3) := by decide +kernel
theorem dL_law_570 : decode cL_law 570 = .ok (.aload_n 2, 1) := by decide +kernel
theorem dL_law_571 : decode cL_law 571 = .ok (.aload_n 0, 1) := by decide +kernel
theorem dL_law_572 : decode cL_law 572 = .ok (.iload_n 3, 1) := by decide +kernel
theorem dL_law_573 : decode cL_law 573 = .ok (.iconst 1, 1) := by decide +kernel
theorem dL_law_574 : decode cL_law 574 = .ok (.iadd, 1) := by decide +kernel
theorem dL_law_575 : decode cL_law 575 = .ok (.iaload, 1) := by decide +kernel
theorem dL_law_576 : decode cL_law 576 = .ok (.invokevirtual 89, 3) := by decide +kernel
theorem dL_law_579 : decode cL_law 579 = .ok (.if_icmp .eq 173, 3) := by decide +kernel
theorem dL_law_582 : decode cL_law 582 = .ok (.iconst 0, 1) := by decide +kernel
theorem dL_law_583 : decode cL_law 583 = .ok (.ireturn, 1) := by decide +kernel
theorem dL_law_584 : decode cL_law 584 = .ok (.aload_n 1, 1) := by decide +kernel
theorem dL_law_585 : decode cL_law 585 = .ok (.aload_n 0, 1) := by decide +kernel
theorem dL_law_586 : decode cL_law 586 = .ok (.iload_n 3, 1) := by decide +kernel
theorem dL_law_587 : decode cL_law 587 = .ok (.iconst 1, 1) := by decide +kernel
theorem dL_law_588 : decode cL_law 588 = .ok (.iadd, 1) := by decide +kernel
theorem dL_law_589 : decode cL_law 589 = .ok (.iaload, 1) := by decide +kernel
theorem dL_law_590 : decode cL_law 590 = .ok (.invokevirtual 90, 3) := by decide +kernel
theorem dL_law_593 : decode cL_law 593 = .ok (.aload_n 2, 1) := by decide +kernel
theorem dL_law_594 : decode cL_law 594 = .ok (.aload_n 0, 1) := by decide +kernel
theorem dL_law_595 : decode cL_law 595 = .ok (.iload_n 3, 1) := by decide +kernel
theorem dL_law_596 : decode cL_law 596 = .ok (.iconst 1, 1) := by decide +kernel
theorem dL_law_597 : decode cL_law 597 = .ok (.iadd, 1) := by decide +kernel
theorem dL_law_598 : decode cL_law 598 = .ok (.iaload, 1) := by decide +kernel
theorem dL_law_599 : decode cL_law 599 = .ok (.invokevirtual 93, 3) := by decide +kernel
theorem dL_law_602 : decode cL_law 602 = .ok (.if_icmp .eq 150, 3) := by decide +kernel
theorem dL_law_605 : decode cL_law 605 = .ok (.iconst 0, 1) := by decide +kernel
theorem dL_law_606 : decode cL_law 606 = .ok (.ireturn, 1) := by decide +kernel
theorem dL_law_607 : decode cL_law 607 = .ok (.aload_n 1, 1) := by decide +kernel
theorem dL_law_608 : decode cL_law 608 = .ok (.aload_n 0, 1) := by decide +kernel
theorem dL_law_609 : decode cL_law 609 = .ok (.iload_n 3, 1) := by decide +kernel
theorem dL_law_610 : decode cL_law 610 = .ok (.iconst 1, 1) := by decide +kernel
theorem dL_law_611 : decode cL_law 611 = .ok (.iadd, 1) := by decide +kernel
theorem dL_law_612 : decode cL_law 612 = .ok (.iaload, 1) := by decide +kernel
theorem dL_law_613 : decode cL_law 613 = .ok (.aload_n 0, 1) := by decide +kernel
theorem dL_law_614 : decode cL_law 614 = .ok (.iload_n 3, 1) := by decide +kernel
theorem dL_law_615 : decode cL_law 615 = .ok (.iconst 2, 1) := by decide +kernel
theorem dL_law_616 : decode cL_law 616 = .ok (.iadd, 1) := by decide +kernel
theorem dL_law_617 : decode cL_law 617 = .ok (.iaload, 1) := by decide +kernel
theorem dL_law_618 : decode cL_law 618 = .ok (.invokevirtual 94, 3) := by decide +kernel
theorem dL_law_621 : decode cL_law 621 = .ok (.aload_n 2, 1) := by decide +kernel
theorem dL_law_622 : decode cL_law 622 = .ok (.aload_n 0, 1) := by decide +kernel
theorem dL_law_623 : decode cL_law 623 = .ok (.iload_n 3, 1) := by decide +kernel
theorem dL_law_624 : decode cL_law 624 = .ok (.iconst 1, 1) := by decide +kernel
theorem dL_law_625 : decode cL_law 625 = .ok (.iadd, 1) := by decide +kernel
theorem dL_law_626 : decode cL_law 626 = .ok (.iaload, 1) := by decide +kernel
theorem dL_law_627 : decode cL_law 627 = .ok (.aload_n 0, 1) := by decide +kernel
theorem dL_law_628 : decode cL_law 628 = .ok (.iload_n 3, 1) := by decide +kernel
theorem dL_law_629 : decode cL_law 629 = .ok (.iconst 2, 1) := by decide +kernel
theorem dL_law_630 : decode cL_law 630 = .ok (.iadd, 1) := by decide +kernel
theorem dL_law_631 : decode cL_law 631 = .ok (.iaload, 1) := by decide +kernel
theorem dL_law_632 : decode cL_law 632 = .ok (.invokevirtual 97, 3) := by decide +kernel
theorem dL_law_635 : decode cL_law 635 = .ok (.if_icmp .eq 117, 3) := by decide +kernel
theorem dL_law_638 : decode cL_law 638 = .ok (.iconst 0, 1) := by decide +kernel
theorem dL_law_639 : decode cL_law 639 = .ok (.ireturn, 1) := by decide +kernel
theorem dL_law_640 : decode cL_law 640 = .ok (.aload_n 1, 1) := by decide +kernel
theorem dL_law_641 : decode cL_law 641 = .ok (.aload_n 0, 1) := by decide +kernel
theorem dL_law_642 : decode cL_law 642 = .ok (.iload_n 3, 1) := by decide +kernel
theorem dL_law_643 : decode cL_law 643 = .ok (.iconst 1, 1) := by decide +kernel
theorem dL_law_644 : decode cL_law 644 = .ok (.iadd, 1) := by decide +kernel
theorem dL_law_645 : decode cL_law 645 = .ok (.iaload, 1) := by decide +kernel
theorem dL_law_646 : decode cL_law 646 = .ok (.invokevirtual 98, 3) := by decide +kernel
theorem dL_law_649 : decode cL_law 649 = .ok (.aload_n 2, 1) := by decide +kernel
theorem dL_law_650 : decode cL_law 650 = .ok (.aload_n 0, 1) := by decide +kernel
theorem dL_law_651 : decode cL_law 651 = .ok (.iload_n 3, 1) := by decide +kernel
theorem dL_law_652 : decode cL_law 652 = .ok (.iconst 1, 1) := by decide +kernel
theorem dL_law_653 : decode cL_law 653 = .ok (.iadd, 1) := by decide +kernel
theorem dL_law_654 : decode cL_law 654 = .ok (.iaload, 1) := by decide +kernel
theorem dL_law_655 : decode cL_law 655 = .ok (.invokevirtual 101, 3) := by decide +kernel
theorem dL_law_658 : decode cL_law 658 = .ok (.if_icmp .eq 94, 3) := by decide +kernel
theorem dL_law_661 : decode cL_law 661 = .ok (.iconst 0, 1) := by decide +kernel
theorem dL_law_662 : decode cL_law 662 = .ok (.ireturn, 1) := by decide +kernel
theorem dL_law_663 : decode cL_law 663 = .ok (.aload_n 1, 1) := by decide +kernel
theorem dL_law_664 : decode cL_law 664 = .ok (.invokevirtual 102, 3) := by decide +kernel
theorem dL_law_667 : decode cL_law 667 = .ok (.aload_n 2, 1) := by decide +kernel
theorem dL_law_668 : decode cL_law 668 = .ok (.invokevirtual 105, 3) := by decide +kernel
theorem dL_law_671 : decode cL_law 671 = .ok (.if_icmp .eq 81, 3) := by decide +kernel
theorem dL_law_674 : decode cL_law 674 = .ok (.iconst 0, 1) := by decide +kernel
theorem dL_law_675 : decode cL_law 675 = .ok (.ireturn, 1) := by decide +kernel
theorem dL_law_676 : decode cL_law 676 = .ok (.aload_n 1, 1) := by decide +kernel
theorem dL_law_677 : decode cL_law 677 = .ok (.aload_n 0, 1) := by decide +kernel
theorem dL_law_678 : decode cL_law 678 = .ok (.iload_n 3, 1) := by decide +kernel
theorem dL_law_679 : decode cL_law 679 = .ok (.iconst 1, 1) := by decide +kernel
theorem dL_law_680 : decode cL_law 680 = .ok (.iadd, 1) := by decide +kernel
theorem dL_law_681 : decode cL_law 681 = .ok (.iaload, 1) := by decide +kernel
theorem dL_law_682 : decode cL_law 682 = .ok (.aload_n 0, 1) := by decide +kernel
theorem dL_law_683 : decode cL_law 683 = .ok (.iload_n 3, 1) := by decide +kernel
theorem dL_law_684 : decode cL_law 684 = .ok (.iconst 2, 1) := by decide +kernel
theorem dL_law_685 : decode cL_law 685 = .ok (.iadd, 1) := by decide +kernel
theorem dL_law_686 : decode cL_law 686 = .ok (.iaload, 1) := by decide +kernel
theorem dL_law_687 : decode cL_law 687 = .ok (.invokevirtual 106, 3) := by decide +kernel
theorem dL_law_690 : decode cL_law 690 = .ok (.aload_n 2, 1) := by decide +kernel
theorem dL_law_691 : decode cL_law 691 = .ok (.aload_n 0, 1) := by decide +kernel
theorem dL_law_692 : decode cL_law 692 = .ok (.iload_n 3, 1) := by decide +kernel
theorem dL_law_693 : decode cL_law 693 = .ok (.iconst 1, 1) := by decide +kernel
theorem dL_law_694 : decode cL_law 694 = .ok (.iadd, 1) := by decide +kernel
theorem dL_law_695 : decode cL_law 695 = .ok (.iaload, 1) := by decide +kernel
theorem dL_law_696 : decode cL_law 696 = .ok (.aload_n 0, 1) := by decide +kernel
theorem dL_law_697 : decode cL_law 697 = .ok (.iload_n 3, 1) := by decide +kernel
theorem dL_law_698 : decode cL_law 698 = .ok (.iconst 2, 1) := by decide +kernel
theorem dL_law_699 : decode cL_law 699 = .ok (.iadd, 1) := by decide +kernel
theorem dL_law_700 : decode cL_law 700 = .ok (.iaload, 1) := by decide +kernel
theorem dL_law_701 : decode cL_law 701 = .ok (.invokevirtual 109, 3) := by decide +kernel
theorem dL_law_704 : decode cL_law 704 = .ok (.if_icmp .eq 48, 3) := by decide +kernel
theorem dL_law_707 : decode cL_law 707 = .ok (.iconst 0, 1) := by decide +kernel
theorem dL_law_708 : decode cL_law 708 = .ok (.ireturn, 1) := by decide +kernel
theorem dL_law_709 : decode cL_law 709 = .ok (.aload_n 1, 1) := by decide +kernel
theorem dL_law_710 : decode cL_law 710 = .ok (.invokevirtual 110, 3) := by decide +kernel
theorem dL_law_713 : decode cL_law 713 = .ok (.f2d, 1) := by decide +kernel
theorem dL_law_714 : decode cL_law 714 = .ok (.dstore 4, 2) := by decide +kernel
theorem dL_law_716 : decode cL_law 716 = .ok (.aload_n 2, 1) := by decide +kernel
theorem dL_law_717 : decode cL_law 717 = .ok (.invokevirtual 114, 3) := by decide +kernel
theorem dL_law_720 : decode cL_law 720 = .ok (.f2d, 1) := by decide +kernel
theorem dL_law_721 : decode cL_law 721 = .ok (.dstore 6, 2) := by decide +kernel
theorem dL_law_723 : decode cL_law 723 = .ok (.dload 4, 2) := by decide +kernel
theorem dL_law_725 : decode cL_law 725 = .ok (.dload 6, 2) := by decide +kernel
theorem dL_law_727 : decode cL_law 727 = .ok (.dcmp .l, 1) := by decide +kernel
theorem dL_law_728 : decode cL_law 728 = .ok (.ifCond .eq 21, 3) := by decide +kernel
theorem dL_law_731 : decode cL_law 731 = .ok (.dload 4, 2) := by decide +kernel
theorem dL_law_733 : decode cL_law 733 = .ok (.dload 4, 2) := by decide +kernel
theorem dL_law_735 : decode cL_law 735 = .ok (.dcmp .l, 1) := by decide +kernel
theorem dL_law_736 : decode cL_law 736 = .ok (.ifCond .eq 11, 3) := by decide +kernel
theorem dL_law_739 : decode cL_law 739 = .ok (.dload 6, 2) := by decide +kernel
theorem dL_law_741 : decode cL_law 741 = .ok (.dload 6, 2) := by decide +kernel
theorem dL_law_743 : decode cL_law 743 = .ok (.dcmp .l, 1) := by decide +kernel
theorem dL_law_744 : decode cL_law 744 = .ok (.ifCond .ne 5, 3) := by decide +kernel
theorem dL_law_747 : decode cL_law 747 = .ok (.iconst 0, 1) := by decide +kernel
theorem dL_law_748 : decode cL_law 748 = .ok (.ireturn, 1) := by decide +kernel
theorem dL_law_749 : decode cL_law 749 = .ok (.goto 3, 3) := by decide +kernel
theorem dL_law_752 : decode cL_law 752 = .ok (.iinc 3 4, 3) := by decide +kernel
theorem dL_law_755 : decode cL_law 755 = .ok (.goto (-737), 3) := by decide +kernel
theorem dL_law_758 : decode cL_law 758 = .ok (.iconst 1, 1) := by decide +kernel
theorem dL_law_759 : decode cL_law 759 = .ok (.ireturn, 1) := by decide +kernel
end
section
/-! ===== the words that every method asks for: all words of the tables that are carried ===== -/
def zW : List Cond := lw_tbl.filter goodWord
theorem zm {w : Cond} (i : Nat) (h : lw_tbl[i]? = some w) (g : goodWord w = true) : w ∈ zW := List.mem_filter.mpr ⟨List.mem_of_getElem? h, g⟩
theorem zW_good {ws : List Cond} (h : ∀ w ∈ ws, w ∈ zW) : GoodIn zW ws := fun w hw => ⟨h w hw, good_of_word (List.mem_filter.mp (h w hw)).2⟩
theorem zWr (ws : List Cond) (ps : List Nat) (hp : ws = ps.filterMap (fun i => lw_tbl[i]?)) (h : ws.all goodWord = true) : ∀ w ∈ ws, w ∈ zW := by
  intro w hw
  have h1 := List.all_eq_true.mp h w hw
  rw [hp] at hw
  obtain ⟨i, -, hi⟩ := List.mem_filterMap.mp hw
  exact zm i hi h1
abbrev zws (y : MethodName) (c : ByteArray) (n : Nat) (r : Option FieldType) : List Cond := .code y c n r :: zW
theorem zGV {own C : String} {idx n : Nat} {y : MethodName} {c : ByteArray} {r : Option FieldType} (h1 : Cond.methodLink own idx y ∈ zW) (h2 : Cond.instanceMethod y ∈ zW) (h3 : Cond.selects C y y ∈ zW) (h4 : Cond.initialized C ∈ zW) (h5 : Cond.code y c n r ∈ zW) : GoodIn zW (wsV own idx C y (zws y c n r)) := zW_good (by
  intro w hw
  simp only [wsV, zws, List.cons_append, List.nil_append, List.mem_cons] at hw
  rcases hw with rfl | rfl | rfl | rfl | rfl | hw
  all_goals assumption)
theorem zGS {own : String} {idx n : Nat} {y : MethodName} {c : ByteArray} {r : Option FieldType} (h1 : Cond.methodLink own idx y ∈ zW) (h2 : Cond.static y ∈ zW) (h4 : Cond.initialized y.cls ∈ zW) (h5 : Cond.code y c n r ∈ zW) : GoodIn zW (va_wsS own idx y (zws y c n r)) := zW_good (by
  intro w hw
  simp only [va_wsS, zws, List.cons_append, List.nil_append, List.mem_cons] at hw
  rcases hw with rfl | rfl | rfl | rfl | hw
  all_goals assumption)
theorem zG0 {n : Nat} {y : MethodName} {c : ByteArray} {r : Option FieldType} (h5 : Cond.code y c n r ∈ zW) : GoodIn zW (zws y c n r) := zW_good (by
  intro w hw
  rcases List.mem_cons.mp hw with rfl | hw
  all_goals assumption)
/-! ===== the world: cells by two numbers, at addresses that follow each other from b ===== -/
/-- classes, array classes (0 int, 1 char, 2 Chip, 3 Chain), the first address -/
abbrev zG : Type := va_G × (Nat → ClassId) × Nat
abbrev zH : Type := Nat → Nat → va_E
abbrev ztys (G : zG) : List (ClassId × FieldType) := [(G.2.1 0, .int), (G.2.1 1, .char), (G.2.1 2, .object "ScanChain$Chip"), (G.2.1 3, .object "ScanChain$Chain")]
abbrev zA (G : zG) : Nat → Prop := fun q => G.2.2 ≤ q
/-- which cells there are, and where each lies -/
def zok (i j : Nat) : Prop := (i < 7 ∧ j < 9) ∨ (i = 7 ∧ j < 5) ∨ (i = 8 ∧ j < 7)
def zix (i j : Nat) : Nat := if i < 3 then 1 + 9 * i + j else if i < 7 then 3 + 9 * i + j else if i = 7 then (if j = 0 then 0 else if j = 1 then 28 else if j = 2 then 29 else if j = 3 then 66 else 67) else 68 + j
theorem zix_inj {i j i' j' : Nat} (h : zok i j) (h' : zok i' j') (e : zix i j = zix i' j') : i = i' ∧ j = j' := by
  unfold zok at h h'
  unfold zix at e
  repeat' split at e
  all_goals omega
def zad (G : zG) (i j : Nat) : Nat := G.2.2 + zix i j
def HW (G : zG) (n : Nat) (h : zH) (H : Heap) : Prop := H.size = G.2.2 + n ∧ ∀ i j, zok i j → zix i j < n → va_at G.1 vwCl (zad G i j, h i j) H
def zNest : List Cond := [.methodLinkNest RX0 17 yX1_init "ScanChain", .fieldLinkNest RX4 62 "ScanChain$Chip" "codeLength" "I" "ScanChain", .fieldLinkNest RX0 56 "ScanChain$Chip" "codeLength" "I" "ScanChain", .fieldLinkNest RX0 45 "ScanChain$Chip" "identity" "I" "ScanChain", .fieldLinkNest RX6 76 "ScanChain$Chip" "isBroken" "Z" "ScanChain", .fieldLinkNest RX0 48 "ScanChain$Chip" "isBroken" "Z" "ScanChain", .fieldLinkNest RX0 99 "ScanChain$Chip" "codeRegister" "I" "ScanChain", .fieldLinkNest RX6 67 "ScanChain$Chain" "chips" "[LScanChain$Chip;" "ScanChain", .fieldLinkNest RX4 58 "ScanChain$Chain" "chips" "[LScanChain$Chip;" "ScanChain", .fieldLinkNest RX6 48 "ScanChain$Chain" "size" "I" "ScanChain", .fieldLinkNest RX4 55 "ScanChain$Chain" "size" "I" "ScanChain", .fieldLinkNest RX4 9 "ScanChain$Chain" "state" "I" "ScanChain", .fieldLinkNest RX6 141 "ScanChain$Chain" "state" "I" "ScanChain", .fieldLinkNest RX6 144 "ScanChain$Chain" "clocks" "I" "ScanChain", .fieldLinkNest RX6 157 "ScanChain$Chain" "identities" "[I" "ScanChain", .fieldLinkNest RX4 44 "ScanChain$Chain" "identityCount" "I" "ScanChain", .fieldLinkNest RX6 153 "ScanChain$Chain" "identityCount" "I" "ScanChain", .fieldLinkNest RX6 156 "ScanChain$History" "size" "I" "ScanChain", .fieldLinkNest RX4 76 "ScanChain$Script" "characters" "[C" "ScanChain", .fieldLinkNest RX4 71 "ScanChain$Script" "length" "I" "ScanChain", .fieldLinkNest RX6 116 "ScanChain$Script" "length" "I" "ScanChain", .methodLinkNest RX1 43 yX6_allOnes "ScanChain", .methodLinkNest RX4 47 yX6_allOnes "ScanChain"]
def KK (G : zG) (U : State) : Prop := va_K G.1 vwCl (ztys G) U ∧ (∀ w ∈ zNest, va_Nw w U) ∧ va_AO "ScanChain$Chip" U ∧ va_AO "ScanChain$Chain" U
def zN0 (k : Nat) : Int32 := [1, 1, 3, 4, 4, 6, 6, 4, 1, 10, 11, 11, 13, 13, 11, 1].getD k 0
def zN1 (k : Nat) : Int32 := [0, 2, 9, 5, 5, 8, 7, 8, 2, 0, 12, 12, 15, 14, 15, 2].getD k 0
def ST (G : zG) (U : State) (H : Heap) : Prop := ∃ t0 t1 : Nat, (va_Z "ScanChain$Controller" "NEXT_BY_MODE_0" "[I" (.ref t0) (zA G) U H ∧ va_T .int t0 16 (fun k => .int (zN0 k)) (zA G) U H) ∧ (va_Z "ScanChain$Controller" "NEXT_BY_MODE_1" "[I" (.ref t1) (zA G) U H ∧ va_T .int t1 16 (fun k => .int (zN1 k)) (zA G) U H)
def Wd (G : zG) (n : Nat) (h : zH) (U : State) (H : Heap) : Prop := HW G n h H ∧ KK G U ∧ ST G U H
theorem zNest_ok : ∀ w ∈ zNest, w.onTables = true ∧ ((∃ a i b n d h, w = .fieldLinkNest a i b n d h) ∨ ∃ a i x h, w = .methodLinkNest a i x h) := by
  intro w hw
  simp only [zNest, List.mem_cons, List.not_mem_nil, or_false] at hw
  rcases hw with rfl | rfl | rfl | rfl | rfl | rfl | rfl | rfl | rfl | rfl | rfl | rfl | rfl | rfl | rfl | rfl | rfl | rfl | rfl | rfl | rfl | rfl | rfl
  all_goals first
    | exact ⟨rfl, Or.inl ⟨_, _, _, _, _, _, rfl⟩⟩
    | exact ⟨rfl, Or.inr ⟨_, _, _, _, rfl⟩⟩
theorem KK.warm {G : zG} {s U : State} (h : KK G s) (hW : s.WarmedH U.vm) : KK G U := by
  refine ⟨va_K.moved hW.alike h.1, fun w hw => ?_, h.2.2.1.moved hW.alike, h.2.2.2.moved hW.alike⟩
  have h1 := h.2.1 w hw
  rcases (zNest_ok w hw).2 with ⟨a, i, b, n, d, x, rfl⟩ | ⟨a, i, b, x, rfl⟩
  · exact va_Nw.warmF hW h1
  · exact va_Nw.warmM hW h1
theorem KK.calling {G : zG} {U : State} {g : JFrame} {mk : MethodId} {a : Array Value} (h : KK G U) : KK G (U.calling g mk a) :=
  ⟨va_K.moved (u := U) (U := U.calling g mk a) (Vm.Alike.refl U.vm) h.1, fun w hw => va_Nw.same (zNest_ok w hw).1 (u := U) (U := U.calling g mk a) rfl (h.2.1 w hw), va_AO.moved (u := U) (U := U.calling g mk a) (Vm.Alike.refl U.vm) h.2.2.1, va_AO.moved (u := U) (U := U.calling g mk a) (Vm.Alike.refl U.vm) h.2.2.2⟩
theorem ST.moved {G : zG} {u U : State} {H : Heap} (hvm : u.vm.Alike U.vm) (h : ST G u H) : ST G U H := by
  obtain ⟨t0, t1, ⟨a, b⟩, ⟨c, d⟩⟩ := h
  exact ⟨t0, t1, ⟨a.moved hvm, b.moved hvm⟩, ⟨c.moved hvm, d.moved hvm⟩⟩
theorem ST.kept {G : zG} {U : State} {H H1 : Heap} (h : ST G U H) (hq : ∀ a : Nat, a < H.size → ¬ zA G a → H1[a]? = H[a]?) : ST G U H1 := by
  obtain ⟨t0, t1, ⟨a, b⟩, ⟨c, d⟩⟩ := h
  exact ⟨t0, t1, ⟨a.kept hq, b.kept hq⟩, ⟨c.kept hq, d.kept hq⟩⟩
theorem Wd.calling {G : zG} {n : Nat} {h : zH} {U : State} {g : JFrame} {mk : MethodId} {a : Array Value} (hw : Wd G n h U U.heap) : Wd G n h (U.calling g mk a) (U.calling g mk a).heap :=
  ⟨hw.1, hw.2.1.calling, ST.moved (u := U) (U := U.calling g mk a) (Vm.Alike.refl U.vm) hw.2.2⟩
/-! ===== locals: a list, a place a slot ===== -/
def lo : Nat → List (Option Value) → List (Nat × Value)
  | _, [] => []
  | k, none :: t => lo (k + 1) t
  | k, some v :: t => (k, v) :: lo (k + 1) t
theorem lo_mem {v : Value} : ∀ (ls : List (Option Value)) (b k : Nat), ls[k]? = some (some v) → (b + k, v) ∈ lo b ls
  | [], _, _, h => by simp at h
  | none :: t, b, 0, h => by simp at h
  | some w :: t, b, 0, h => by
    simp at h
    subst h
    exact List.mem_cons_self
  | none :: t, b, k + 1, h => by
    have h1 := lo_mem t (b + 1) k (by simpa using h)
    rw [show b + (k + 1) = b + 1 + k by omega]
    exact h1
  | some w :: t, b, k + 1, h => by
    have h1 := lo_mem t (b + 1) k (by simpa using h)
    rw [show b + (k + 1) = b + 1 + k by omega]
    exact List.mem_cons_of_mem _ h1
theorem lo_of_mem {k : Nat} {v : Value} : ∀ (ls : List (Option Value)) (b : Nat), (k, v) ∈ lo b ls → b ≤ k ∧ ls[k - b]? = some (some v)
  | [], _, h => by cases h
  | none :: t, b, h => by
    obtain ⟨h1, h2⟩ := lo_of_mem t (b + 1) h
    refine ⟨by omega, ?_⟩
    rw [show k - b = (k - (b + 1)) + 1 by omega]
    simpa using h2
  | some w :: t, b, h => by
    rcases List.mem_cons.mp h with h0 | h0
    · cases h0
      simp
    · obtain ⟨h1, h2⟩ := lo_of_mem t (b + 1) h0
      refine ⟨by omega, ?_⟩
      rw [show k - b = (k - (b + 1)) + 1 by omega]
      simpa using h2
theorem lo_at {lsA : Array Slot} {nL k : Nat} {ls : List (Option Value)} {v : Value} (h : lv_has lsA nL (lo 0 ls)) (hk : ls[k]? = some (some v)) : lsA[k]? = some (.val v) := by
  have := h.2.2 (k, v) (by simpa using lo_mem ls 0 k hk)
  exact this
theorem lo_len {lsA : Array Slot} {nL : Nat} {ls : List (Option Value)} (h : lv_has lsA nL (lo 0 ls)) : lsA.size = nL := h.1
/-- fewer values known -/
theorem lo_sub {lsA : Array Slot} {nL : Nat} {l : List (Nat × Value)} {ls' : List (Option Value)} (h : lv_has lsA nL l) (hs : ∀ q ∈ lo 0 ls', q ∈ l) : lv_has lsA nL (lo 0 ls') := ⟨h.1, h.2.1, fun q hq => h.2.2 q (hs q hq)⟩
/-- one-slot values all -/
def lo1 (ls : List (Option Value)) : Bool := ls.all fun o => match o with
  | none => true
  | some v => decide (v.category = 1)
theorem lo_put {i : Nat} {ls ls' : List (Option Value)} {v : Value} (h1 : lo1 ls = true) (hls : ls.set i (some v) = ls') : ∀ q ∈ lo 0 ls', q ∈ (i, v) :: (lo 0 ls).filter (fun q => !(q.1 == i) && !(q.1 + 1 == i && q.2.category == 2)) := by
  intro q hq
  obtain ⟨k, w⟩ := q
  subst hls
  obtain ⟨-, h2⟩ := lo_of_mem _ 0 hq
  simp only [Nat.sub_zero] at h2
  by_cases hk : k = i
  · subst hk
    have hl : k < ls.length := by
      have := (List.getElem?_eq_some_iff.mp h2).1
      simpa using this
    rw [List.getElem?_set_self hl] at h2
    cases h2
    exact List.mem_cons_self
  · rw [List.getElem?_set_ne (Ne.symm hk)] at h2
    refine List.mem_cons_of_mem _ (List.mem_filter.mpr ⟨by simpa using lo_mem ls 0 k h2, ?_⟩)
    have hc : w.category = 1 := by
      have := List.all_eq_true.mp h1 _ (List.mem_of_getElem? h2)
      simpa using this
    simp [hk, hc]
end
section
def zFL (s : State) (args : Array Value) (own : String) (idx : Nat) (ref n d : String) : Prop := (Cond.fieldLink own idx ref n d).before args s = true ∨ ∃ host, (Cond.fieldLinkNest own idx ref n d host).before args s = true
/-- what holds in a method's body from its entry on -/
def Cx (p : Program) (s : State) (m : MethodId) (args : Array Value) (meth : Method) (c : Code) (cc : ByteArray) (nL : Nat) (own : String) (G : zG) : Prop :=
  CallFix p m c cc nL s args zW own ∧ KK G s ∧ ST G s s.heap ∧ meth.locks = false
/-- the judgement: at pc, with these locals and this stack, over any heap that holds the n cells h, the machine comes to Q -/
def Xh (p : Program) (l : Launch) (e : Env) (R : Room) (s : State) (m : MethodId) (args : Array Value) (below : List Frame) (meth : Method) (c : Code) (nL : Nat) (G : zG) (Q : State → Prop) (cells slots n : Nat) (h : zH) (pc : Nat) (ls : List (Option Value)) (st : List Value) : Prop :=
  ∀ (H : Heap) (locs : List Loc) (lsA : Array Slot), HW G n h H → va_S (zA G) s.heap H locs → lv_has lsA nL (lo 0 ls) → lo1 ls = true → W p l e R s m args below meth c H locs cells slots Q (F0 m pc lsA st)
end
section
theorem zt0 : Cond.selects RX3 yX3_dropOldest yX3_dropOldest ∈ zW := zm 0 (by decide +kernel) (by decide +kernel)
theorem zt1 : Cond.selects RX0 yX0_work yX0_work ∈ zW := zm 1 (by decide +kernel) (by decide +kernel)
theorem zt2 : Cond.selects RX0 yX0_shiftAllData yX0_shiftAllData ∈ zW := zm 2 (by decide +kernel) (by decide +kernel)
theorem zt3 : Cond.selects RX0 yX0_shiftAllCodes yX0_shiftAllCodes ∈ zW := zm 3 (by decide +kernel) (by decide +kernel)
theorem zt4 : Cond.selects RX0 yX0_workOf yX0_workOf ∈ zW := zm 4 (by decide +kernel) (by decide +kernel)
theorem zt5 : Cond.selects RX6 yX6_exchangeError yX6_exchangeError ∈ zW := zm 5 (by decide +kernel) (by decide +kernel)
theorem zt6 : Cond.selects RX7 yX7_record yX7_record ∈ zW := zm 6 (by decide +kernel) (by decide +kernel)
theorem zt7 : Cond.selects RX7 yX7_lay yX7_lay ∈ zW := zm 7 (by decide +kernel) (by decide +kernel)
theorem zt8 : Cond.selects RX7 yX7_giveFirst yX7_giveFirst ∈ zW := zm 8 (by decide +kernel) (by decide +kernel)
theorem zt9 : Cond.selects RX7 yX7_of yX7_of ∈ zW := zm 9 (by decide +kernel) (by decide +kernel)
theorem zt10 : Cond.selects RX7 yX7_give yX7_give ∈ zW := zm 10 (by decide +kernel) (by decide +kernel)
theorem zt11 : Cond.selects RX7 yX7_isChip yX7_isChip ∈ zW := zm 11 (by decide +kernel) (by decide +kernel)
theorem zt12 : Cond.selects RX7 yX7_sum yX7_sum ∈ zW := zm 12 (by decide +kernel) (by decide +kernel)
theorem zt13 : Cond.selects RX7 yX7_clockNow yX7_clockNow ∈ zW := zm 13 (by decide +kernel) (by decide +kernel)
theorem zt14 : Cond.selects RX7 yX7_output yX7_output ∈ zW := zm 14 (by decide +kernel) (by decide +kernel)
theorem zt15 : Cond.selects RX7 yX7_isShifting yX7_isShifting ∈ zW := zm 15 (by decide +kernel) (by decide +kernel)
theorem zt16 : Cond.selects RX7 yX7_outputOf yX7_outputOf ∈ zW := zm 16 (by decide +kernel) (by decide +kernel)
theorem zt17 : Cond.selects RX7 yX7_shifted yX7_shifted ∈ zW := zm 17 (by decide +kernel) (by decide +kernel)
theorem zt18 : Cond.selects RX7 yX7_shift yX7_shift ∈ zW := zm 18 (by decide +kernel) (by decide +kernel)
theorem zt19 : Cond.selects RX7 yX7_bits yX7_bits ∈ zW := zm 19 (by decide +kernel) (by decide +kernel)
theorem zt20 : Cond.selects RX7 yX7_selectsCells yX7_selectsCells ∈ zW := zm 20 (by decide +kernel) (by decide +kernel)
theorem zt21 : Cond.selects RX7 yX7_selectsIdentity yX7_selectsIdentity ∈ zW := zm 21 (by decide +kernel) (by decide +kernel)
theorem zt22 : Cond.selects RX7 yX7_work yX7_work ∈ zW := zm 22 (by decide +kernel) (by decide +kernel)
theorem zt23 : Cond.selects RX7 yX7_moveNow yX7_moveNow ∈ zW := zm 23 (by decide +kernel) (by decide +kernel)
theorem zt24 : Cond.selects RX7 yX7_measure yX7_measure ∈ zW := zm 24 (by decide +kernel) (by decide +kernel)
theorem zt25 : Cond.selects RX7 yX7_identifyNow yX7_identifyNow ∈ zW := zm 25 (by decide +kernel) (by decide +kernel)
theorem zt26 : Cond.selects RX7 yX7_readOne yX7_readOne ∈ zW := zm 26 (by decide +kernel) (by decide +kernel)
theorem zt27 : Cond.selects RX7 yX7_clockBits yX7_clockBits ∈ zW := zm 27 (by decide +kernel) (by decide +kernel)
theorem zt28 : Cond.selects RX7 yX7_whyNotExchange yX7_whyNotExchange ∈ zW := zm 28 (by decide +kernel) (by decide +kernel)
theorem zt29 : Cond.selects RX7 yX7_exchangeNow yX7_exchangeNow ∈ zW := zm 29 (by decide +kernel) (by decide +kernel)
theorem zt30 : Cond.selects RX7 yX7_allBits yX7_allBits ∈ zW := zm 30 (by decide +kernel) (by decide +kernel)
theorem zt31 : Cond.initialized RL ∈ zW := zm 31 (by decide +kernel) (by decide +kernel)
theorem zt32 : Cond.initialized RX6 ∈ zW := zm 32 (by decide +kernel) (by decide +kernel)
theorem zt33 : Cond.initialized RX0 ∈ zW := zm 33 (by decide +kernel) (by decide +kernel)
theorem zt34 : Cond.initialized RX1 ∈ zW := zm 34 (by decide +kernel) (by decide +kernel)
theorem zt35 : Cond.initialized RX3 ∈ zW := zm 35 (by decide +kernel) (by decide +kernel)
theorem zt36 : Cond.initialized RX5 ∈ zW := zm 36 (by decide +kernel) (by decide +kernel)
theorem zt37 : Cond.initialized RX7 ∈ zW := zm 37 (by decide +kernel) (by decide +kernel)
theorem zt38 : Cond.initialized RX2 ∈ zW := zm 38 (by decide +kernel) (by decide +kernel)
theorem zt39 : Cond.initialized RX4 ∈ zW := zm 39 (by decide +kernel) (by decide +kernel)
theorem zt40 : Cond.classLink RL 7 RX6 ∈ zW := zm 40 (by decide +kernel) (by decide +kernel)
theorem zt41 : Cond.instantiable RX6 6 ∈ zW := zm 41 (by decide +kernel) (by decide +kernel)
theorem zt42 : Cond.methodLink RL 9 yX6_init ∈ zW := zm 42 (by decide +kernel) (by decide +kernel)
theorem zt43 : Cond.instanceMethod yX6_init ∈ zW := zm 43 (by decide +kernel) (by decide +kernel)
theorem zt44 : Cond.code yX6_init cX6_init 1 none ∈ zW := zm 44 (by decide +kernel) (by decide +kernel)
theorem zt45 : Cond.methodLink RX6 1 objectInit ∈ zW := zm 45 (by decide +kernel) (by decide +kernel)
theorem zt46 : Cond.instanceMethod objectInit ∈ zW := zm 46 (by decide +kernel) (by decide +kernel)
theorem zt47 : Cond.code objectInit ⟨#[0xb1]⟩ 1 none ∈ zW := zm 47 (by decide +kernel) (by decide +kernel)
theorem zt48 : Cond.classLink RX6 7 RX0 ∈ zW := zm 48 (by decide +kernel) (by decide +kernel)
theorem zt49 : Cond.instantiable RX0 6 ∈ zW := zm 49 (by decide +kernel) (by decide +kernel)
theorem zt50 : Cond.methodLink RX6 9 yX0_init ∈ zW := zm 50 (by decide +kernel) (by decide +kernel)
theorem zt51 : Cond.instanceMethod yX0_init ∈ zW := zm 51 (by decide +kernel) (by decide +kernel)
theorem zt52 : Cond.code yX0_init cX0_init 2 none ∈ zW := zm 52 (by decide +kernel) (by decide +kernel)
theorem zt53 : Cond.methodLink RX0 3 objectInit ∈ zW := zm 53 (by decide +kernel) (by decide +kernel)
theorem zt54 : Cond.classLink RX0 9 RX1 ∈ zW := zm 54 (by decide +kernel) (by decide +kernel)
theorem zt56 : Cond.instantiable RX1 9 ∈ zW := zm 56 (by decide +kernel) (by decide +kernel)
theorem zt58 : Cond.instanceMethod yX1_init ∈ zW := zm 58 (by decide +kernel) (by decide +kernel)
theorem zt59 : Cond.code yX1_init cX1_init 1 none ∈ zW := zm 59 (by decide +kernel) (by decide +kernel)
theorem zt60 : Cond.methodLink RX1 3 objectInit ∈ zW := zm 60 (by decide +kernel) (by decide +kernel)
theorem zt61 : Cond.fieldLink RX1 9 "ScanChain$Chip" "codeLength" "I" ∈ zW := zm 61 (by decide +kernel) (by decide +kernel)
theorem zt64 : Cond.fieldLink RX1 15 "ScanChain$Chip" "identity" "I" ∈ zW := zm 64 (by decide +kernel) (by decide +kernel)
theorem zt66 : Cond.fieldLink RX1 18 "ScanChain$Chip" "cells" "I" ∈ zW := zm 66 (by decide +kernel) (by decide +kernel)
theorem zt67 : Cond.fieldLink RX1 21 "ScanChain$Chip" "pins" "I" ∈ zW := zm 67 (by decide +kernel) (by decide +kernel)
theorem zt68 : Cond.fieldLink RX1 24 "ScanChain$Chip" "outputs" "I" ∈ zW := zm 68 (by decide +kernel) (by decide +kernel)
theorem zt69 : Cond.fieldLink RX1 27 "ScanChain$Chip" "isBroken" "Z" ∈ zW := zm 69 (by decide +kernel) (by decide +kernel)
theorem zt72 : Cond.fieldLink RX1 37 "ScanChain$Chip" "instruction" "I" ∈ zW := zm 72 (by decide +kernel) (by decide +kernel)
theorem zt73 : Cond.fieldLink RX1 31 "ScanChain$Chip" "codeRegister" "I" ∈ zW := zm 73 (by decide +kernel) (by decide +kernel)
theorem zt75 : Cond.fieldLink RX1 40 "ScanChain$Chip" "dataRegister" "I" ∈ zW := zm 75 (by decide +kernel) (by decide +kernel)
theorem zt95 : Cond.fieldLink RX0 11 "ScanChain$Chain" "chips" "[LScanChain$Chip;" ∈ zW := zm 95 (by decide +kernel) (by decide +kernel)
theorem zt98 : Cond.fieldLink RX0 18 "ScanChain$Chain" "size" "I" ∈ zW := zm 98 (by decide +kernel) (by decide +kernel)
theorem zt101 : Cond.fieldLink RX0 24 "ScanChain$Chain" "state" "I" ∈ zW := zm 101 (by decide +kernel) (by decide +kernel)
theorem zt104 : Cond.fieldLink RX0 27 "ScanChain$Chain" "clocks" "I" ∈ zW := zm 104 (by decide +kernel) (by decide +kernel)
theorem zt106 : Cond.fieldLink RX0 30 "ScanChain$Chain" "identities" "[I" ∈ zW := zm 106 (by decide +kernel) (by decide +kernel)
theorem zt108 : Cond.fieldLink RX0 34 "ScanChain$Chain" "identityCount" "I" ∈ zW := zm 108 (by decide +kernel) (by decide +kernel)
theorem zt124 : Cond.arrayClass .int ∈ zW := zm 124 (by decide +kernel) (by decide +kernel)
theorem zt125 : Cond.classLink RX6 26 RX3 ∈ zW := zm 125 (by decide +kernel) (by decide +kernel)
theorem zt126 : Cond.instantiable RX3 2 ∈ zW := zm 126 (by decide +kernel) (by decide +kernel)
theorem zt127 : Cond.methodLink RX6 28 yX3_init ∈ zW := zm 127 (by decide +kernel) (by decide +kernel)
theorem zt128 : Cond.instanceMethod yX3_init ∈ zW := zm 128 (by decide +kernel) (by decide +kernel)
theorem zt129 : Cond.code yX3_init cX3_init 2 none ∈ zW := zm 129 (by decide +kernel) (by decide +kernel)
theorem zt130 : Cond.methodLink RX3 3 objectInit ∈ zW := zm 130 (by decide +kernel) (by decide +kernel)
theorem zt131 : Cond.classLink RX3 9 RX0 ∈ zW := zm 131 (by decide +kernel) (by decide +kernel)
theorem zt133 : Cond.methodLink RX3 17 yX0_init ∈ zW := zm 133 (by decide +kernel) (by decide +kernel)
theorem zt134 : Cond.fieldLink RX3 11 "ScanChain$History" "records" "[LScanChain$Chain;" ∈ zW := zm 134 (by decide +kernel) (by decide +kernel)
theorem zt135 : Cond.fieldLink RX3 18 "ScanChain$History" "size" "I" ∈ zW := zm 135 (by decide +kernel) (by decide +kernel)
theorem zt142 : Cond.classLink RX6 33 RX5 ∈ zW := zm 142 (by decide +kernel) (by decide +kernel)
theorem zt143 : Cond.instantiable RX5 2 ∈ zW := zm 143 (by decide +kernel) (by decide +kernel)
theorem zt144 : Cond.methodLink RX6 35 yX5_init ∈ zW := zm 144 (by decide +kernel) (by decide +kernel)
theorem zt145 : Cond.instanceMethod yX5_init ∈ zW := zm 145 (by decide +kernel) (by decide +kernel)
theorem zt146 : Cond.code yX5_init cX5_init 1 none ∈ zW := zm 146 (by decide +kernel) (by decide +kernel)
theorem zt147 : Cond.methodLink RX5 3 objectInit ∈ zW := zm 147 (by decide +kernel) (by decide +kernel)
theorem zt148 : Cond.fieldLink RX5 9 "ScanChain$Script" "characters" "[C" ∈ zW := zm 148 (by decide +kernel) (by decide +kernel)
theorem zt150 : Cond.fieldLink RX5 15 "ScanChain$Script" "length" "I" ∈ zW := zm 150 (by decide +kernel) (by decide +kernel)
theorem zt158 : Cond.arrayClass .char ∈ zW := zm 158 (by decide +kernel) (by decide +kernel)
theorem zt159 : Cond.fieldLink RX6 10 "ScanChain" "chain" "LScanChain$Chain;" ∈ zW := zm 159 (by decide +kernel) (by decide +kernel)
theorem zt160 : Cond.fieldLink RX6 16 "ScanChain" "trial" "LScanChain$Chain;" ∈ zW := zm 160 (by decide +kernel) (by decide +kernel)
theorem zt161 : Cond.fieldLink RX6 19 "ScanChain" "snapshot" "LScanChain$Chain;" ∈ zW := zm 161 (by decide +kernel) (by decide +kernel)
theorem zt162 : Cond.fieldLink RX6 22 "ScanChain" "hasSnapshot" "Z" ∈ zW := zm 162 (by decide +kernel) (by decide +kernel)
theorem zt163 : Cond.fieldLink RX6 29 "ScanChain" "history" "LScanChain$History;" ∈ zW := zm 163 (by decide +kernel) (by decide +kernel)
theorem zt164 : Cond.fieldLink RX6 36 "ScanChain" "script" "LScanChain$Script;" ∈ zW := zm 164 (by decide +kernel) (by decide +kernel)
theorem zt178 : Cond.methodLink RL 13 yX6_add ∈ zW := zm 178 (by decide +kernel) (by decide +kernel)
theorem zt179 : Cond.instanceMethod yX6_add ∈ zW := zm 179 (by decide +kernel) (by decide +kernel)
theorem zt180 : Cond.selects RX6 yX6_add yX6_add ∈ zW := zm 180 (by decide +kernel) (by decide +kernel)
theorem zt181 : Cond.code yX6_add cX6_add 4 (some .int) ∈ zW := zm 181 (by decide +kernel) (by decide +kernel)
theorem zt182 : Cond.methodLink RX6 40 yX6_isWithin ∈ zW := zm 182 (by decide +kernel) (by decide +kernel)
theorem zt183 : Cond.static yX6_isWithin ∈ zW := zm 183 (by decide +kernel) (by decide +kernel)
theorem zt184 : Cond.code yX6_isWithin cX6_isWithin 3 (some .boolean) ∈ zW := zm 184 (by decide +kernel) (by decide +kernel)
theorem zt185 : Cond.methodLink RX6 44 yX6_isIdentity ∈ zW := zm 185 (by decide +kernel) (by decide +kernel)
theorem zt186 : Cond.static yX6_isIdentity ∈ zW := zm 186 (by decide +kernel) (by decide +kernel)
theorem zt187 : Cond.code yX6_isIdentity cX6_isIdentity 1 (some .boolean) ∈ zW := zm 187 (by decide +kernel) (by decide +kernel)
theorem zt188 : Cond.methodLink RX6 52 yX3_record ∈ zW := zm 188 (by decide +kernel) (by decide +kernel)
theorem zt189 : Cond.instanceMethod yX3_record ∈ zW := zm 189 (by decide +kernel) (by decide +kernel)
theorem zt190 : Cond.selects RX3 yX3_record yX3_record ∈ zW := zm 190 (by decide +kernel) (by decide +kernel)
theorem zt191 : Cond.code yX3_record cX3_record 2 none ∈ zW := zm 191 (by decide +kernel) (by decide +kernel)
theorem zt192 : Cond.methodLink RX3 22 yX3_dropOldest ∈ zW := zm 192 (by decide +kernel) (by decide +kernel)
theorem zt194 : Cond.instanceMethod yX3_dropOldest ∈ zW := zm 194 (by decide +kernel) (by decide +kernel)
theorem zt195 : Cond.code yX3_dropOldest cX3_dropOldest 3 none ∈ zW := zm 195 (by decide +kernel) (by decide +kernel)
theorem zt196 : Cond.methodLink RX3 25 yX0_becomeCopyOf ∈ zW := zm 196 (by decide +kernel) (by decide +kernel)
theorem zt197 : Cond.instanceMethod yX0_becomeCopyOf ∈ zW := zm 197 (by decide +kernel) (by decide +kernel)
theorem zt198 : Cond.selects RX0 yX0_becomeCopyOf yX0_becomeCopyOf ∈ zW := zm 198 (by decide +kernel) (by decide +kernel)
theorem zt199 : Cond.code yX0_becomeCopyOf cX0_becomeCopyOf 3 none ∈ zW := zm 199 (by decide +kernel) (by decide +kernel)
theorem zt200 : Cond.methodLink RX0 37 yX1_becomeCopyOf ∈ zW := zm 200 (by decide +kernel) (by decide +kernel)
theorem zt201 : Cond.instanceMethod yX1_becomeCopyOf ∈ zW := zm 201 (by decide +kernel) (by decide +kernel)
theorem zt202 : Cond.selects RX1 yX1_becomeCopyOf yX1_becomeCopyOf ∈ zW := zm 202 (by decide +kernel) (by decide +kernel)
theorem zt203 : Cond.code yX1_becomeCopyOf cX1_becomeCopyOf 2 none ∈ zW := zm 203 (by decide +kernel) (by decide +kernel)
theorem zt204 : Cond.methodLink RX6 56 yX0_putBehind ∈ zW := zm 204 (by decide +kernel) (by decide +kernel)
theorem zt205 : Cond.instanceMethod yX0_putBehind ∈ zW := zm 205 (by decide +kernel) (by decide +kernel)
theorem zt206 : Cond.selects RX0 yX0_putBehind yX0_putBehind ∈ zW := zm 206 (by decide +kernel) (by decide +kernel)
theorem zt207 : Cond.code yX0_putBehind cX0_putBehind 5 (some .int) ∈ zW := zm 207 (by decide +kernel) (by decide +kernel)
theorem zt208 : Cond.methodLink RX0 41 yX1_beNew ∈ zW := zm 208 (by decide +kernel) (by decide +kernel)
theorem zt209 : Cond.instanceMethod yX1_beNew ∈ zW := zm 209 (by decide +kernel) (by decide +kernel)
theorem zt210 : Cond.selects RX1 yX1_beNew yX1_beNew ∈ zW := zm 210 (by decide +kernel) (by decide +kernel)
theorem zt211 : Cond.code yX1_beNew cX1_beNew 4 none ∈ zW := zm 211 (by decide +kernel) (by decide +kernel)
theorem zt212 : Cond.methodLink RX1 34 yX1_giveFirstInstruction ∈ zW := zm 212 (by decide +kernel) (by decide +kernel)
theorem zt213 : Cond.instanceMethod yX1_giveFirstInstruction ∈ zW := zm 213 (by decide +kernel) (by decide +kernel)
theorem zt214 : Cond.selects RX1 yX1_giveFirstInstruction yX1_giveFirstInstruction ∈ zW := zm 214 (by decide +kernel) (by decide +kernel)
theorem zt215 : Cond.code yX1_giveFirstInstruction cX1_giveFirstInstruction 1 none ∈ zW := zm 215 (by decide +kernel) (by decide +kernel)
theorem zt217 : Cond.static yX6_allOnes ∈ zW := zm 217 (by decide +kernel) (by decide +kernel)
theorem zt218 : Cond.code yX6_allOnes cX6_allOnes 1 (some .int) ∈ zW := zm 218 (by decide +kernel) (by decide +kernel)
theorem zt219 : Cond.methodLink RX1 54 yX1_giveInstruction ∈ zW := zm 219 (by decide +kernel) (by decide +kernel)
theorem zt220 : Cond.instanceMethod yX1_giveInstruction ∈ zW := zm 220 (by decide +kernel) (by decide +kernel)
theorem zt221 : Cond.selects RX1 yX1_giveInstruction yX1_giveInstruction ∈ zW := zm 221 (by decide +kernel) (by decide +kernel)
theorem zt222 : Cond.code yX1_giveInstruction cX1_giveInstruction 2 none ∈ zW := zm 222 (by decide +kernel) (by decide +kernel)
theorem zt223 : Cond.methodLink RL 18 yX6_take ∈ zW := zm 223 (by decide +kernel) (by decide +kernel)
theorem zt224 : Cond.instanceMethod yX6_take ∈ zW := zm 224 (by decide +kernel) (by decide +kernel)
theorem zt225 : Cond.selects RX6 yX6_take yX6_take ∈ zW := zm 225 (by decide +kernel) (by decide +kernel)
theorem zt226 : Cond.code yX6_take cX6_take 2 (some .int) ∈ zW := zm 226 (by decide +kernel) (by decide +kernel)
theorem zt227 : Cond.methodLink RX6 60 yX0_has ∈ zW := zm 227 (by decide +kernel) (by decide +kernel)
theorem zt228 : Cond.instanceMethod yX0_has ∈ zW := zm 228 (by decide +kernel) (by decide +kernel)
theorem zt229 : Cond.selects RX0 yX0_has yX0_has ∈ zW := zm 229 (by decide +kernel) (by decide +kernel)
theorem zt230 : Cond.code yX0_has cX0_has 2 (some .boolean) ∈ zW := zm 230 (by decide +kernel) (by decide +kernel)
theorem zt231 : Cond.methodLink RX6 63 yX0_takeOut ∈ zW := zm 231 (by decide +kernel) (by decide +kernel)
theorem zt232 : Cond.instanceMethod yX0_takeOut ∈ zW := zm 232 (by decide +kernel) (by decide +kernel)
theorem zt233 : Cond.selects RX0 yX0_takeOut yX0_takeOut ∈ zW := zm 233 (by decide +kernel) (by decide +kernel)
theorem zt234 : Cond.code yX0_takeOut cX0_takeOut 4 (some .int) ∈ zW := zm 234 (by decide +kernel) (by decide +kernel)
theorem zt235 : Cond.methodLink RL 23 yX6_setPins ∈ zW := zm 235 (by decide +kernel) (by decide +kernel)
theorem zt236 : Cond.instanceMethod yX6_setPins ∈ zW := zm 236 (by decide +kernel) (by decide +kernel)
theorem zt237 : Cond.selects RX6 yX6_setPins yX6_setPins ∈ zW := zm 237 (by decide +kernel) (by decide +kernel)
theorem zt238 : Cond.code yX6_setPins cX6_setPins 3 (some .int) ∈ zW := zm 238 (by decide +kernel) (by decide +kernel)
theorem zt239 : Cond.methodLink RX6 71 yX1_changePins ∈ zW := zm 239 (by decide +kernel) (by decide +kernel)
theorem zt240 : Cond.instanceMethod yX1_changePins ∈ zW := zm 240 (by decide +kernel) (by decide +kernel)
theorem zt241 : Cond.selects RX1 yX1_changePins yX1_changePins ∈ zW := zm 241 (by decide +kernel) (by decide +kernel)
theorem zt242 : Cond.code yX1_changePins cX1_changePins 3 (some .int) ∈ zW := zm 242 (by decide +kernel) (by decide +kernel)
theorem zt243 : Cond.methodLink RL 28 yX6_breakChip ∈ zW := zm 243 (by decide +kernel) (by decide +kernel)
theorem zt244 : Cond.instanceMethod yX6_breakChip ∈ zW := zm 244 (by decide +kernel) (by decide +kernel)
theorem zt245 : Cond.selects RX6 yX6_breakChip yX6_breakChip ∈ zW := zm 245 (by decide +kernel) (by decide +kernel)
theorem zt246 : Cond.code yX6_breakChip cX6_breakChip 3 (some .int) ∈ zW := zm 246 (by decide +kernel) (by decide +kernel)
theorem zt247 : Cond.methodLink RX6 79 yX0_brokenChips ∈ zW := zm 247 (by decide +kernel) (by decide +kernel)
theorem zt248 : Cond.instanceMethod yX0_brokenChips ∈ zW := zm 248 (by decide +kernel) (by decide +kernel)
theorem zt249 : Cond.selects RX0 yX0_brokenChips yX0_brokenChips ∈ zW := zm 249 (by decide +kernel) (by decide +kernel)
theorem zt250 : Cond.code yX0_brokenChips cX0_brokenChips 3 (some .int) ∈ zW := zm 250 (by decide +kernel) (by decide +kernel)
theorem zt251 : Cond.methodLink RL 33 yX6_clock ∈ zW := zm 251 (by decide +kernel) (by decide +kernel)
theorem zt252 : Cond.instanceMethod yX6_clock ∈ zW := zm 252 (by decide +kernel) (by decide +kernel)
theorem zt253 : Cond.selects RX6 yX6_clock yX6_clock ∈ zW := zm 253 (by decide +kernel) (by decide +kernel)
theorem zt254 : Cond.code yX6_clock cX6_clock 3 (some .int) ∈ zW := zm 254 (by decide +kernel) (by decide +kernel)
theorem zt255 : Cond.methodLink RX6 83 yX0_tick ∈ zW := zm 255 (by decide +kernel) (by decide +kernel)
theorem zt256 : Cond.instanceMethod yX0_tick ∈ zW := zm 256 (by decide +kernel) (by decide +kernel)
theorem zt257 : Cond.selects RX0 yX0_tick yX0_tick ∈ zW := zm 257 (by decide +kernel) (by decide +kernel)
theorem zt258 : Cond.code yX0_tick cX0_tick 4 (some .int) ∈ zW := zm 258 (by decide +kernel) (by decide +kernel)
theorem zt259 : Cond.methodLink RX0 63 yX0_outputWith ∈ zW := zm 259 (by decide +kernel) (by decide +kernel)
theorem zt260 : Cond.instanceMethod yX0_outputWith ∈ zW := zm 260 (by decide +kernel) (by decide +kernel)
theorem zt261 : Cond.selects RX0 yX0_outputWith yX0_outputWith ∈ zW := zm 261 (by decide +kernel) (by decide +kernel)
theorem zt262 : Cond.code yX0_outputWith cX0_outputWith 3 (some .int) ∈ zW := zm 262 (by decide +kernel) (by decide +kernel)
theorem zt263 : Cond.methodLink RX0 75 yX1_dataOutput ∈ zW := zm 263 (by decide +kernel) (by decide +kernel)
theorem zt264 : Cond.instanceMethod yX1_dataOutput ∈ zW := zm 264 (by decide +kernel) (by decide +kernel)
theorem zt265 : Cond.selects RX1 yX1_dataOutput yX1_dataOutput ∈ zW := zm 265 (by decide +kernel) (by decide +kernel)
theorem zt266 : Cond.code yX1_dataOutput cX1_dataOutput 1 (some .int) ∈ zW := zm 266 (by decide +kernel) (by decide +kernel)
theorem zt267 : Cond.methodLink RX0 78 yX1_codeOutput ∈ zW := zm 267 (by decide +kernel) (by decide +kernel)
theorem zt268 : Cond.instanceMethod yX1_codeOutput ∈ zW := zm 268 (by decide +kernel) (by decide +kernel)
theorem zt269 : Cond.selects RX1 yX1_codeOutput yX1_codeOutput ∈ zW := zm 269 (by decide +kernel) (by decide +kernel)
theorem zt270 : Cond.code yX1_codeOutput cX1_codeOutput 1 (some .int) ∈ zW := zm 270 (by decide +kernel) (by decide +kernel)
theorem zt271 : Cond.methodLink RX0 67 yX0_work ∈ zW := zm 271 (by decide +kernel) (by decide +kernel)
theorem zt273 : Cond.instanceMethod yX0_work ∈ zW := zm 273 (by decide +kernel) (by decide +kernel)
theorem zt274 : Cond.code yX0_work cX0_work 3 none ∈ zW := zm 274 (by decide +kernel) (by decide +kernel)
theorem zt275 : Cond.methodLink RX0 81 yX0_shiftAllData ∈ zW := zm 275 (by decide +kernel) (by decide +kernel)
theorem zt277 : Cond.instanceMethod yX0_shiftAllData ∈ zW := zm 277 (by decide +kernel) (by decide +kernel)
theorem zt278 : Cond.code yX0_shiftAllData cX0_shiftAllData 5 none ∈ zW := zm 278 (by decide +kernel) (by decide +kernel)
theorem zt279 : Cond.methodLink RX0 105 yX1_shiftData ∈ zW := zm 279 (by decide +kernel) (by decide +kernel)
theorem zt280 : Cond.instanceMethod yX1_shiftData ∈ zW := zm 280 (by decide +kernel) (by decide +kernel)
theorem zt281 : Cond.selects RX1 yX1_shiftData yX1_shiftData ∈ zW := zm 281 (by decide +kernel) (by decide +kernel)
theorem zt282 : Cond.code yX1_shiftData cX1_shiftData 2 none ∈ zW := zm 282 (by decide +kernel) (by decide +kernel)
theorem zt283 : Cond.methodLink RX1 58 yX1_dataBits ∈ zW := zm 283 (by decide +kernel) (by decide +kernel)
theorem zt284 : Cond.instanceMethod yX1_dataBits ∈ zW := zm 284 (by decide +kernel) (by decide +kernel)
theorem zt285 : Cond.selects RX1 yX1_dataBits yX1_dataBits ∈ zW := zm 285 (by decide +kernel) (by decide +kernel)
theorem zt286 : Cond.code yX1_dataBits cX1_dataBits 1 (some .int) ∈ zW := zm 286 (by decide +kernel) (by decide +kernel)
theorem zt287 : Cond.methodLink RX1 47 yX1_selectsCells ∈ zW := zm 287 (by decide +kernel) (by decide +kernel)
theorem zt288 : Cond.instanceMethod yX1_selectsCells ∈ zW := zm 288 (by decide +kernel) (by decide +kernel)
theorem zt289 : Cond.selects RX1 yX1_selectsCells yX1_selectsCells ∈ zW := zm 289 (by decide +kernel) (by decide +kernel)
theorem zt290 : Cond.code yX1_selectsCells cX1_selectsCells 1 (some .boolean) ∈ zW := zm 290 (by decide +kernel) (by decide +kernel)
theorem zt291 : Cond.methodLink RX1 51 yX1_selectsIdentity ∈ zW := zm 291 (by decide +kernel) (by decide +kernel)
theorem zt292 : Cond.instanceMethod yX1_selectsIdentity ∈ zW := zm 292 (by decide +kernel) (by decide +kernel)
theorem zt293 : Cond.selects RX1 yX1_selectsIdentity yX1_selectsIdentity ∈ zW := zm 293 (by decide +kernel) (by decide +kernel)
theorem zt294 : Cond.code yX1_selectsIdentity cX1_selectsIdentity 1 (some .boolean) ∈ zW := zm 294 (by decide +kernel) (by decide +kernel)
theorem zt295 : Cond.methodLink RX1 62 yX1_shifted ∈ zW := zm 295 (by decide +kernel) (by decide +kernel)
theorem zt296 : Cond.static yX1_shifted ∈ zW := zm 296 (by decide +kernel) (by decide +kernel)
theorem zt297 : Cond.code yX1_shifted cX1_shifted 3 (some .int) ∈ zW := zm 297 (by decide +kernel) (by decide +kernel)
theorem zt298 : Cond.methodLink RX0 84 yX0_shiftAllCodes ∈ zW := zm 298 (by decide +kernel) (by decide +kernel)
theorem zt300 : Cond.instanceMethod yX0_shiftAllCodes ∈ zW := zm 300 (by decide +kernel) (by decide +kernel)
theorem zt301 : Cond.code yX0_shiftAllCodes cX0_shiftAllCodes 5 none ∈ zW := zm 301 (by decide +kernel) (by decide +kernel)
theorem zt302 : Cond.methodLink RX0 108 yX1_shiftCode ∈ zW := zm 302 (by decide +kernel) (by decide +kernel)
theorem zt303 : Cond.instanceMethod yX1_shiftCode ∈ zW := zm 303 (by decide +kernel) (by decide +kernel)
theorem zt304 : Cond.selects RX1 yX1_shiftCode yX1_shiftCode ∈ zW := zm 304 (by decide +kernel) (by decide +kernel)
theorem zt305 : Cond.code yX1_shiftCode cX1_shiftCode 2 none ∈ zW := zm 305 (by decide +kernel) (by decide +kernel)
theorem zt306 : Cond.methodLink RX0 87 yX0_workOf ∈ zW := zm 306 (by decide +kernel) (by decide +kernel)
theorem zt308 : Cond.instanceMethod yX0_workOf ∈ zW := zm 308 (by decide +kernel) (by decide +kernel)
theorem zt309 : Cond.code yX0_workOf cX0_workOf 2 none ∈ zW := zm 309 (by decide +kernel) (by decide +kernel)
theorem zt310 : Cond.methodLink RX0 90 yX1_giveFirstInstruction ∈ zW := zm 310 (by decide +kernel) (by decide +kernel)
theorem zt311 : Cond.methodLink RX0 93 yX1_captureData ∈ zW := zm 311 (by decide +kernel) (by decide +kernel)
theorem zt312 : Cond.instanceMethod yX1_captureData ∈ zW := zm 312 (by decide +kernel) (by decide +kernel)
theorem zt313 : Cond.selects RX1 yX1_captureData yX1_captureData ∈ zW := zm 313 (by decide +kernel) (by decide +kernel)
theorem zt314 : Cond.code yX1_captureData cX1_captureData 1 none ∈ zW := zm 314 (by decide +kernel) (by decide +kernel)
theorem zt315 : Cond.methodLink RX0 96 yX1_updateData ∈ zW := zm 315 (by decide +kernel) (by decide +kernel)
theorem zt316 : Cond.instanceMethod yX1_updateData ∈ zW := zm 316 (by decide +kernel) (by decide +kernel)
theorem zt317 : Cond.selects RX1 yX1_updateData yX1_updateData ∈ zW := zm 317 (by decide +kernel) (by decide +kernel)
theorem zt318 : Cond.code yX1_updateData cX1_updateData 1 none ∈ zW := zm 318 (by decide +kernel) (by decide +kernel)
theorem zt319 : Cond.methodLink RX0 102 yX1_giveInstruction ∈ zW := zm 319 (by decide +kernel) (by decide +kernel)
theorem zt320 : Cond.methodLink RX0 71 yX2_next ∈ zW := zm 320 (by decide +kernel) (by decide +kernel)
theorem zt321 : Cond.static yX2_next ∈ zW := zm 321 (by decide +kernel) (by decide +kernel)
theorem zt322 : Cond.code yX2_next cX2_next 2 (some .int) ∈ zW := zm 322 (by decide +kernel) (by decide +kernel)
theorem zt323 : Cond.methodLink RX2 9 yX2_isState ∈ zW := zm 323 (by decide +kernel) (by decide +kernel)
theorem zt324 : Cond.static yX2_isState ∈ zW := zm 324 (by decide +kernel) (by decide +kernel)
theorem zt325 : Cond.code yX2_isState cX2_isState 1 (some .boolean) ∈ zW := zm 325 (by decide +kernel) (by decide +kernel)
theorem zt326 : Cond.fieldLink RX2 13 "ScanChain$Controller" "NEXT_BY_MODE_0" "[I" ∈ zW := zm 326 (by decide +kernel) (by decide +kernel)
theorem zt328 : Cond.fieldLink RX2 17 "ScanChain$Controller" "NEXT_BY_MODE_1" "[I" ∈ zW := zm 328 (by decide +kernel) (by decide +kernel)
theorem zt330 : Cond.methodLink RL 37 yX6_move ∈ zW := zm 330 (by decide +kernel) (by decide +kernel)
theorem zt331 : Cond.instanceMethod yX6_move ∈ zW := zm 331 (by decide +kernel) (by decide +kernel)
theorem zt332 : Cond.selects RX6 yX6_move yX6_move ∈ zW := zm 332 (by decide +kernel) (by decide +kernel)
theorem zt333 : Cond.code yX6_move cX6_move 2 (some .int) ∈ zW := zm 333 (by decide +kernel) (by decide +kernel)
theorem zt334 : Cond.methodLink RX6 87 yX2_isState ∈ zW := zm 334 (by decide +kernel) (by decide +kernel)
theorem zt335 : Cond.methodLink RX6 92 yX4_goTo ∈ zW := zm 335 (by decide +kernel) (by decide +kernel)
theorem zt336 : Cond.static yX4_goTo ∈ zW := zm 336 (by decide +kernel) (by decide +kernel)
theorem zt337 : Cond.code yX4_goTo cX4_goTo 6 (some .int) ∈ zW := zm 337 (by decide +kernel) (by decide +kernel)
theorem zt338 : Cond.methodLink RX4 15 yX2_clocksBetween ∈ zW := zm 338 (by decide +kernel) (by decide +kernel)
theorem zt339 : Cond.static yX2_clocksBetween ∈ zW := zm 339 (by decide +kernel) (by decide +kernel)
theorem zt340 : Cond.code yX2_clocksBetween cX2_clocksBetween 4 (some .int) ∈ zW := zm 340 (by decide +kernel) (by decide +kernel)
theorem zt341 : Cond.methodLink RX2 20 yX2_nextOfAll ∈ zW := zm 341 (by decide +kernel) (by decide +kernel)
theorem zt342 : Cond.static yX2_nextOfAll ∈ zW := zm 342 (by decide +kernel) (by decide +kernel)
theorem zt343 : Cond.code yX2_nextOfAll cX2_nextOfAll 3 (some .int) ∈ zW := zm 343 (by decide +kernel) (by decide +kernel)
theorem zt344 : Cond.methodLink RX2 24 yX2_next ∈ zW := zm 344 (by decide +kernel) (by decide +kernel)
theorem zt345 : Cond.methodLink RX4 21 yX2_next ∈ zW := zm 345 (by decide +kernel) (by decide +kernel)
theorem zt346 : Cond.methodLink RX4 24 yX0_tick ∈ zW := zm 346 (by decide +kernel) (by decide +kernel)
theorem zt347 : Cond.methodLink RL 41 yX6_identify ∈ zW := zm 347 (by decide +kernel) (by decide +kernel)
theorem zt348 : Cond.instanceMethod yX6_identify ∈ zW := zm 348 (by decide +kernel) (by decide +kernel)
theorem zt349 : Cond.selects RX6 yX6_identify yX6_identify ∈ zW := zm 349 (by decide +kernel) (by decide +kernel)
theorem zt350 : Cond.code yX6_identify cX6_identify 1 (some .int) ∈ zW := zm 350 (by decide +kernel) (by decide +kernel)
theorem zt351 : Cond.methodLink RX6 98 yX4_readIdentities ∈ zW := zm 351 (by decide +kernel) (by decide +kernel)
theorem zt352 : Cond.static yX4_readIdentities ∈ zW := zm 352 (by decide +kernel) (by decide +kernel)
theorem zt353 : Cond.code yX4_readIdentities cX4_readIdentities 3 (some .int) ∈ zW := zm 353 (by decide +kernel) (by decide +kernel)
theorem zt354 : Cond.methodLink RX4 29 yX4_goTo ∈ zW := zm 354 (by decide +kernel) (by decide +kernel)
theorem zt355 : Cond.methodLink RX4 33 yX0_forgetIdentities ∈ zW := zm 355 (by decide +kernel) (by decide +kernel)
theorem zt356 : Cond.instanceMethod yX0_forgetIdentities ∈ zW := zm 356 (by decide +kernel) (by decide +kernel)
theorem zt357 : Cond.selects RX0 yX0_forgetIdentities yX0_forgetIdentities ∈ zW := zm 357 (by decide +kernel) (by decide +kernel)
theorem zt358 : Cond.code yX0_forgetIdentities cX0_forgetIdentities 1 none ∈ zW := zm 358 (by decide +kernel) (by decide +kernel)
theorem zt359 : Cond.methodLink RX4 36 yX4_readIdentity ∈ zW := zm 359 (by decide +kernel) (by decide +kernel)
theorem zt360 : Cond.static yX4_readIdentity ∈ zW := zm 360 (by decide +kernel) (by decide +kernel)
theorem zt361 : Cond.code yX4_readIdentity cX4_readIdentity 2 (some .int) ∈ zW := zm 361 (by decide +kernel) (by decide +kernel)
theorem zt363 : Cond.methodLink RX4 51 yX4_shiftThrough ∈ zW := zm 363 (by decide +kernel) (by decide +kernel)
theorem zt364 : Cond.static yX4_shiftThrough ∈ zW := zm 364 (by decide +kernel) (by decide +kernel)
theorem zt365 : Cond.code yX4_shiftThrough cX4_shiftThrough 7 (some .int) ∈ zW := zm 365 (by decide +kernel) (by decide +kernel)
theorem zt366 : Cond.methodLink RX4 40 yX0_keepIdentity ∈ zW := zm 366 (by decide +kernel) (by decide +kernel)
theorem zt367 : Cond.instanceMethod yX0_keepIdentity ∈ zW := zm 367 (by decide +kernel) (by decide +kernel)
theorem zt368 : Cond.selects RX0 yX0_keepIdentity yX0_keepIdentity ∈ zW := zm 368 (by decide +kernel) (by decide +kernel)
theorem zt369 : Cond.code yX0_keepIdentity cX0_keepIdentity 2 none ∈ zW := zm 369 (by decide +kernel) (by decide +kernel)
theorem zt370 : Cond.methodLink RL 46 yX6_load ∈ zW := zm 370 (by decide +kernel) (by decide +kernel)
theorem zt371 : Cond.instanceMethod yX6_load ∈ zW := zm 371 (by decide +kernel) (by decide +kernel)
theorem zt372 : Cond.selects RX6 yX6_load yX6_load ∈ zW := zm 372 (by decide +kernel) (by decide +kernel)
theorem zt373 : Cond.code yX6_load cX6_load 3 (some .int) ∈ zW := zm 373 (by decide +kernel) (by decide +kernel)
theorem zt374 : Cond.methodLink RX6 102 yX4_loadInstruction ∈ zW := zm 374 (by decide +kernel) (by decide +kernel)
theorem zt375 : Cond.static yX4_loadInstruction ∈ zW := zm 375 (by decide +kernel) (by decide +kernel)
theorem zt376 : Cond.code yX4_loadInstruction cX4_loadInstruction 6 none ∈ zW := zm 376 (by decide +kernel) (by decide +kernel)
theorem zt377 : Cond.methodLink RX6 106 yX1_dataBits ∈ zW := zm 377 (by decide +kernel) (by decide +kernel)
theorem zt378 : Cond.methodLink RL 50 yX6_exchange ∈ zW := zm 378 (by decide +kernel) (by decide +kernel)
theorem zt379 : Cond.instanceMethod yX6_exchange ∈ zW := zm 379 (by decide +kernel) (by decide +kernel)
theorem zt380 : Cond.selects RX6 yX6_exchange yX6_exchange ∈ zW := zm 380 (by decide +kernel) (by decide +kernel)
theorem zt381 : Cond.code yX6_exchange cX6_exchange 4 (some .int) ∈ zW := zm 381 (by decide +kernel) (by decide +kernel)
theorem zt382 : Cond.methodLink RX6 109 yX6_exchangeError ∈ zW := zm 382 (by decide +kernel) (by decide +kernel)
theorem zt384 : Cond.instanceMethod yX6_exchangeError ∈ zW := zm 384 (by decide +kernel) (by decide +kernel)
theorem zt385 : Cond.code yX6_exchangeError cX6_exchangeError 3 (some .int) ∈ zW := zm 385 (by decide +kernel) (by decide +kernel)
theorem zt386 : Cond.methodLink RX6 112 yX4_exchangeData ∈ zW := zm 386 (by decide +kernel) (by decide +kernel)
theorem zt387 : Cond.static yX4_exchangeData ∈ zW := zm 387 (by decide +kernel) (by decide +kernel)
theorem zt388 : Cond.code yX4_exchangeData cX4_exchangeData 7 (some .int) ∈ zW := zm 388 (by decide +kernel) (by decide +kernel)
theorem zt389 : Cond.methodLink RX4 67 yX1_dataBits ∈ zW := zm 389 (by decide +kernel) (by decide +kernel)
theorem zt390 : Cond.methodLink RL 54 yX6_append ∈ zW := zm 390 (by decide +kernel) (by decide +kernel)
theorem zt391 : Cond.instanceMethod yX6_append ∈ zW := zm 391 (by decide +kernel) (by decide +kernel)
theorem zt392 : Cond.selects RX6 yX6_append yX6_append ∈ zW := zm 392 (by decide +kernel) (by decide +kernel)
theorem zt393 : Cond.code yX6_append cX6_append 2 (some .int) ∈ zW := zm 393 (by decide +kernel) (by decide +kernel)
theorem zt394 : Cond.methodLink RX6 119 yX5_write ∈ zW := zm 394 (by decide +kernel) (by decide +kernel)
theorem zt395 : Cond.instanceMethod yX5_write ∈ zW := zm 395 (by decide +kernel) (by decide +kernel)
theorem zt396 : Cond.selects RX5 yX5_write yX5_write ∈ zW := zm 396 (by decide +kernel) (by decide +kernel)
theorem zt397 : Cond.code yX5_write cX5_write 2 (some .int) ∈ zW := zm 397 (by decide +kernel) (by decide +kernel)
theorem zt398 : Cond.methodLink RL 58 yX6_clearText ∈ zW := zm 398 (by decide +kernel) (by decide +kernel)
theorem zt399 : Cond.instanceMethod yX6_clearText ∈ zW := zm 399 (by decide +kernel) (by decide +kernel)
theorem zt400 : Cond.selects RX6 yX6_clearText yX6_clearText ∈ zW := zm 400 (by decide +kernel) (by decide +kernel)
theorem zt401 : Cond.code yX6_clearText cX6_clearText 1 (some .int) ∈ zW := zm 401 (by decide +kernel) (by decide +kernel)
theorem zt402 : Cond.methodLink RX6 122 yX5_wipe ∈ zW := zm 402 (by decide +kernel) (by decide +kernel)
theorem zt403 : Cond.instanceMethod yX5_wipe ∈ zW := zm 403 (by decide +kernel) (by decide +kernel)
theorem zt404 : Cond.selects RX5 yX5_wipe yX5_wipe ∈ zW := zm 404 (by decide +kernel) (by decide +kernel)
theorem zt405 : Cond.code yX5_wipe cX5_wipe 2 (some .int) ∈ zW := zm 405 (by decide +kernel) (by decide +kernel)
theorem zt406 : Cond.methodLink RL 62 yX6_fault ∈ zW := zm 406 (by decide +kernel) (by decide +kernel)
theorem zt407 : Cond.instanceMethod yX6_fault ∈ zW := zm 407 (by decide +kernel) (by decide +kernel)
theorem zt408 : Cond.selects RX6 yX6_fault yX6_fault ∈ zW := zm 408 (by decide +kernel) (by decide +kernel)
theorem zt409 : Cond.code yX6_fault cX6_fault 1 (some .int) ∈ zW := zm 409 (by decide +kernel) (by decide +kernel)
theorem zt410 : Cond.methodLink RX6 125 yX5_firstFault ∈ zW := zm 410 (by decide +kernel) (by decide +kernel)
theorem zt411 : Cond.instanceMethod yX5_firstFault ∈ zW := zm 411 (by decide +kernel) (by decide +kernel)
theorem zt412 : Cond.selects RX5 yX5_firstFault yX5_firstFault ∈ zW := zm 412 (by decide +kernel) (by decide +kernel)
theorem zt413 : Cond.code yX5_firstFault cX5_firstFault 5 (some .int) ∈ zW := zm 413 (by decide +kernel) (by decide +kernel)
theorem zt414 : Cond.methodLink RX5 19 yX5_hexValue ∈ zW := zm 414 (by decide +kernel) (by decide +kernel)
theorem zt415 : Cond.static yX5_hexValue ∈ zW := zm 415 (by decide +kernel) (by decide +kernel)
theorem zt416 : Cond.code yX5_hexValue cX5_hexValue 1 (some .int) ∈ zW := zm 416 (by decide +kernel) (by decide +kernel)
theorem zt417 : Cond.methodLink RX5 23 yX5_startsItem ∈ zW := zm 417 (by decide +kernel) (by decide +kernel)
theorem zt418 : Cond.static yX5_startsItem ∈ zW := zm 418 (by decide +kernel) (by decide +kernel)
theorem zt419 : Cond.code yX5_startsItem cX5_startsItem 1 (some .boolean) ∈ zW := zm 419 (by decide +kernel) (by decide +kernel)
theorem zt420 : Cond.methodLink RL 66 yX6_run ∈ zW := zm 420 (by decide +kernel) (by decide +kernel)
theorem zt421 : Cond.instanceMethod yX6_run ∈ zW := zm 421 (by decide +kernel) (by decide +kernel)
theorem zt422 : Cond.selects RX6 yX6_run yX6_run ∈ zW := zm 422 (by decide +kernel) (by decide +kernel)
theorem zt423 : Cond.code yX6_run cX6_run 2 (some .int) ∈ zW := zm 423 (by decide +kernel) (by decide +kernel)
theorem zt424 : Cond.methodLink RX6 128 yX4_carryOut ∈ zW := zm 424 (by decide +kernel) (by decide +kernel)
theorem zt425 : Cond.static yX4_carryOut ∈ zW := zm 425 (by decide +kernel) (by decide +kernel)
theorem zt426 : Cond.code yX4_carryOut cX4_carryOut 7 (some .int) ∈ zW := zm 426 (by decide +kernel) (by decide +kernel)
theorem zt427 : Cond.methodLink RX4 80 yX5_hexAt ∈ zW := zm 427 (by decide +kernel) (by decide +kernel)
theorem zt428 : Cond.instanceMethod yX5_hexAt ∈ zW := zm 428 (by decide +kernel) (by decide +kernel)
theorem zt429 : Cond.selects RX5 yX5_hexAt yX5_hexAt ∈ zW := zm 429 (by decide +kernel) (by decide +kernel)
theorem zt430 : Cond.code yX5_hexAt cX5_hexAt 2 (some .int) ∈ zW := zm 430 (by decide +kernel) (by decide +kernel)
theorem zt431 : Cond.methodLink RX4 83 yX4_clockItem ∈ zW := zm 431 (by decide +kernel) (by decide +kernel)
theorem zt432 : Cond.static yX4_clockItem ∈ zW := zm 432 (by decide +kernel) (by decide +kernel)
theorem zt433 : Cond.code yX4_clockItem cX4_clockItem 4 none ∈ zW := zm 433 (by decide +kernel) (by decide +kernel)
theorem zt434 : Cond.methodLink RL 70 yX6_undo ∈ zW := zm 434 (by decide +kernel) (by decide +kernel)
theorem zt435 : Cond.instanceMethod yX6_undo ∈ zW := zm 435 (by decide +kernel) (by decide +kernel)
theorem zt436 : Cond.selects RX6 yX6_undo yX6_undo ∈ zW := zm 436 (by decide +kernel) (by decide +kernel)
theorem zt437 : Cond.code yX6_undo cX6_undo 1 (some .int) ∈ zW := zm 437 (by decide +kernel) (by decide +kernel)
theorem zt438 : Cond.methodLink RX6 132 yX3_takeBack ∈ zW := zm 438 (by decide +kernel) (by decide +kernel)
theorem zt439 : Cond.instanceMethod yX3_takeBack ∈ zW := zm 439 (by decide +kernel) (by decide +kernel)
theorem zt440 : Cond.selects RX3 yX3_takeBack yX3_takeBack ∈ zW := zm 440 (by decide +kernel) (by decide +kernel)
theorem zt441 : Cond.code yX3_takeBack cX3_takeBack 2 (some .int) ∈ zW := zm 441 (by decide +kernel) (by decide +kernel)
theorem zt442 : Cond.methodLink RL 74 yX6_save ∈ zW := zm 442 (by decide +kernel) (by decide +kernel)
theorem zt443 : Cond.instanceMethod yX6_save ∈ zW := zm 443 (by decide +kernel) (by decide +kernel)
theorem zt444 : Cond.selects RX6 yX6_save yX6_save ∈ zW := zm 444 (by decide +kernel) (by decide +kernel)
theorem zt445 : Cond.code yX6_save cX6_save 1 (some .int) ∈ zW := zm 445 (by decide +kernel) (by decide +kernel)
theorem zt446 : Cond.methodLink RX6 135 yX0_becomeCopyOf ∈ zW := zm 446 (by decide +kernel) (by decide +kernel)
theorem zt447 : Cond.methodLink RL 78 yX6_restore ∈ zW := zm 447 (by decide +kernel) (by decide +kernel)
theorem zt448 : Cond.instanceMethod yX6_restore ∈ zW := zm 448 (by decide +kernel) (by decide +kernel)
theorem zt449 : Cond.selects RX6 yX6_restore yX6_restore ∈ zW := zm 449 (by decide +kernel) (by decide +kernel)
theorem zt450 : Cond.code yX6_restore cX6_restore 1 (some .int) ∈ zW := zm 450 (by decide +kernel) (by decide +kernel)
theorem zt451 : Cond.methodLink RL 82 yX6_chip ∈ zW := zm 451 (by decide +kernel) (by decide +kernel)
theorem zt452 : Cond.instanceMethod yX6_chip ∈ zW := zm 452 (by decide +kernel) (by decide +kernel)
theorem zt453 : Cond.selects RX6 yX6_chip yX6_chip ∈ zW := zm 453 (by decide +kernel) (by decide +kernel)
theorem zt454 : Cond.code yX6_chip cX6_chip 3 (some .int) ∈ zW := zm 454 (by decide +kernel) (by decide +kernel)
theorem zt455 : Cond.methodLink RX6 138 yX1_tell ∈ zW := zm 455 (by decide +kernel) (by decide +kernel)
theorem zt456 : Cond.instanceMethod yX1_tell ∈ zW := zm 456 (by decide +kernel) (by decide +kernel)
theorem zt457 : Cond.selects RX1 yX1_tell yX1_tell ∈ zW := zm 457 (by decide +kernel) (by decide +kernel)
theorem zt458 : Cond.code yX1_tell cX1_tell 2 (some .int) ∈ zW := zm 458 (by decide +kernel) (by decide +kernel)
theorem zt459 : Cond.methodLink RL 86 yX6_count ∈ zW := zm 459 (by decide +kernel) (by decide +kernel)
theorem zt460 : Cond.instanceMethod yX6_count ∈ zW := zm 460 (by decide +kernel) (by decide +kernel)
theorem zt461 : Cond.selects RX6 yX6_count yX6_count ∈ zW := zm 461 (by decide +kernel) (by decide +kernel)
theorem zt462 : Cond.code yX6_count cX6_count 2 (some .int) ∈ zW := zm 462 (by decide +kernel) (by decide +kernel)
theorem zt463 : Cond.methodLink RX6 147 yX0_sumOfCodeLengths ∈ zW := zm 463 (by decide +kernel) (by decide +kernel)
theorem zt464 : Cond.instanceMethod yX0_sumOfCodeLengths ∈ zW := zm 464 (by decide +kernel) (by decide +kernel)
theorem zt465 : Cond.selects RX0 yX0_sumOfCodeLengths yX0_sumOfCodeLengths ∈ zW := zm 465 (by decide +kernel) (by decide +kernel)
theorem zt466 : Cond.code yX0_sumOfCodeLengths cX0_sumOfCodeLengths 3 (some .int) ∈ zW := zm 466 (by decide +kernel) (by decide +kernel)
theorem zt467 : Cond.methodLink RX6 150 yX0_sumOfDataBits ∈ zW := zm 467 (by decide +kernel) (by decide +kernel)
theorem zt468 : Cond.instanceMethod yX0_sumOfDataBits ∈ zW := zm 468 (by decide +kernel) (by decide +kernel)
theorem zt469 : Cond.selects RX0 yX0_sumOfDataBits yX0_sumOfDataBits ∈ zW := zm 469 (by decide +kernel) (by decide +kernel)
theorem zt470 : Cond.code yX0_sumOfDataBits cX0_sumOfDataBits 3 (some .int) ∈ zW := zm 470 (by decide +kernel) (by decide +kernel)
theorem zt471 : Cond.methodLink RX0 59 yX1_dataBits ∈ zW := zm 471 (by decide +kernel) (by decide +kernel)
theorem zt472 : Cond.methodLink RL 90 yX6_found ∈ zW := zm 472 (by decide +kernel) (by decide +kernel)
theorem zt473 : Cond.instanceMethod yX6_found ∈ zW := zm 473 (by decide +kernel) (by decide +kernel)
theorem zt474 : Cond.selects RX6 yX6_found yX6_found ∈ zW := zm 474 (by decide +kernel) (by decide +kernel)
theorem zt475 : Cond.code yX6_found cX6_found 2 (some .int) ∈ zW := zm 475 (by decide +kernel) (by decide +kernel)
theorem zt476 : Cond.methodLink RL 94 yX6_distance ∈ zW := zm 476 (by decide +kernel) (by decide +kernel)
theorem zt477 : Cond.instanceMethod yX6_distance ∈ zW := zm 477 (by decide +kernel) (by decide +kernel)
theorem zt478 : Cond.selects RX6 yX6_distance yX6_distance ∈ zW := zm 478 (by decide +kernel) (by decide +kernel)
theorem zt479 : Cond.code yX6_distance cX6_distance 3 (some .int) ∈ zW := zm 479 (by decide +kernel) (by decide +kernel)
theorem zt480 : Cond.methodLink RX6 161 yX2_clocksBetween ∈ zW := zm 480 (by decide +kernel) (by decide +kernel)
theorem zt481 : Cond.methodLink RL 98 yX6_peek ∈ zW := zm 481 (by decide +kernel) (by decide +kernel)
theorem zt482 : Cond.instanceMethod yX6_peek ∈ zW := zm 482 (by decide +kernel) (by decide +kernel)
theorem zt483 : Cond.selects RX6 yX6_peek yX6_peek ∈ zW := zm 483 (by decide +kernel) (by decide +kernel)
theorem zt484 : Cond.code yX6_peek cX6_peek 2 (some .int) ∈ zW := zm 484 (by decide +kernel) (by decide +kernel)
theorem zt485 : Cond.methodLink RX6 164 yX0_outputWith ∈ zW := zm 485 (by decide +kernel) (by decide +kernel)
theorem zt486 : Cond.methodLink RL 102 yX6_ifIdentified ∈ zW := zm 486 (by decide +kernel) (by decide +kernel)
theorem zt487 : Cond.instanceMethod yX6_ifIdentified ∈ zW := zm 487 (by decide +kernel) (by decide +kernel)
theorem zt488 : Cond.selects RX6 yX6_ifIdentified yX6_ifIdentified ∈ zW := zm 488 (by decide +kernel) (by decide +kernel)
theorem zt489 : Cond.code yX6_ifIdentified cX6_ifIdentified 1 (some .int) ∈ zW := zm 489 (by decide +kernel) (by decide +kernel)
theorem zt490 : Cond.methodLink RL 106 yX6_ifExchanged ∈ zW := zm 490 (by decide +kernel) (by decide +kernel)
theorem zt491 : Cond.instanceMethod yX6_ifExchanged ∈ zW := zm 491 (by decide +kernel) (by decide +kernel)
theorem zt492 : Cond.selects RX6 yX6_ifExchanged yX6_ifExchanged ∈ zW := zm 492 (by decide +kernel) (by decide +kernel)
theorem zt493 : Cond.code yX6_ifExchanged cX6_ifExchanged 4 (some .int) ∈ zW := zm 493 (by decide +kernel) (by decide +kernel)
theorem zt494 : Cond.methodLink RL 110 yX6_bypassed ∈ zW := zm 494 (by decide +kernel) (by decide +kernel)
theorem zt495 : Cond.instanceMethod yX6_bypassed ∈ zW := zm 495 (by decide +kernel) (by decide +kernel)
theorem zt496 : Cond.selects RX6 yX6_bypassed yX6_bypassed ∈ zW := zm 496 (by decide +kernel) (by decide +kernel)
theorem zt497 : Cond.code yX6_bypassed cX6_bypassed 1 (some .float) ∈ zW := zm 497 (by decide +kernel) (by decide +kernel)
theorem zt498 : Cond.methodLink RX6 167 yX0_bypassedChips ∈ zW := zm 498 (by decide +kernel) (by decide +kernel)
theorem zt499 : Cond.instanceMethod yX0_bypassedChips ∈ zW := zm 499 (by decide +kernel) (by decide +kernel)
theorem zt500 : Cond.selects RX0 yX0_bypassedChips yX0_bypassedChips ∈ zW := zm 500 (by decide +kernel) (by decide +kernel)
theorem zt501 : Cond.code yX0_bypassedChips cX0_bypassedChips 3 (some .int) ∈ zW := zm 501 (by decide +kernel) (by decide +kernel)
theorem zt502 : Cond.methodLink RX0 52 yX1_selectsBypass ∈ zW := zm 502 (by decide +kernel) (by decide +kernel)
theorem zt503 : Cond.instanceMethod yX1_selectsBypass ∈ zW := zm 503 (by decide +kernel) (by decide +kernel)
theorem zt504 : Cond.selects RX1 yX1_selectsBypass yX1_selectsBypass ∈ zW := zm 504 (by decide +kernel) (by decide +kernel)
theorem zt505 : Cond.code yX1_selectsBypass cX1_selectsBypass 1 (some .boolean) ∈ zW := zm 505 (by decide +kernel) (by decide +kernel)
theorem zt506 : Cond.classLink RL 10 RX7 ∈ zW := zm 506 (by decide +kernel) (by decide +kernel)
theorem zt507 : Cond.instantiable RX7 9 ∈ zW := zm 507 (by decide +kernel) (by decide +kernel)
theorem zt508 : Cond.methodLink RL 12 yX7_init ∈ zW := zm 508 (by decide +kernel) (by decide +kernel)
theorem zt509 : Cond.instanceMethod yX7_init ∈ zW := zm 509 (by decide +kernel) (by decide +kernel)
theorem zt510 : Cond.code yX7_init cX7_init 1 none ∈ zW := zm 510 (by decide +kernel) (by decide +kernel)
theorem zt511 : Cond.methodLink RX7 1 objectInit ∈ zW := zm 511 (by decide +kernel) (by decide +kernel)
theorem zt512 : Cond.fieldLink RX7 7 "ScanChainModel" "z" "[I" ∈ zW := zm 512 (by decide +kernel) (by decide +kernel)
theorem zt513 : Cond.fieldLink RX7 13 "ScanChainModel" "spare" "[I" ∈ zW := zm 513 (by decide +kernel) (by decide +kernel)
theorem zt514 : Cond.fieldLink RX7 16 "ScanChainModel" "past" "[I" ∈ zW := zm 514 (by decide +kernel) (by decide +kernel)
theorem zt515 : Cond.fieldLink RX7 32 "ScanChainModel" "states" "I" ∈ zW := zm 515 (by decide +kernel) (by decide +kernel)
theorem zt516 : Cond.fieldLink RX7 19 "ScanChainModel" "kept" "[I" ∈ zW := zm 516 (by decide +kernel) (by decide +kernel)
theorem zt517 : Cond.fieldLink RX7 40 "ScanChainModel" "isKept" "Z" ∈ zW := zm 517 (by decide +kernel) (by decide +kernel)
theorem zt518 : Cond.fieldLink RX7 22 "ScanChainModel" "text" "[I" ∈ zW := zm 518 (by decide +kernel) (by decide +kernel)
theorem zt519 : Cond.fieldLink RX7 131 "ScanChainModel" "length" "I" ∈ zW := zm 519 (by decide +kernel) (by decide +kernel)
theorem zt520 : Cond.fieldLink RX7 25 "ScanChainModel" "far" "[I" ∈ zW := zm 520 (by decide +kernel) (by decide +kernel)
theorem zt540 : Cond.methodLink RL 73 yX7_undo ∈ zW := zm 540 (by decide +kernel) (by decide +kernel)
theorem zt541 : Cond.instanceMethod yX7_undo ∈ zW := zm 541 (by decide +kernel) (by decide +kernel)
theorem zt542 : Cond.selects RX7 yX7_undo yX7_undo ∈ zW := zm 542 (by decide +kernel) (by decide +kernel)
theorem zt543 : Cond.code yX7_undo cX7_undo 1 (some .int) ∈ zW := zm 543 (by decide +kernel) (by decide +kernel)
theorem zt544 : Cond.methodLink RX7 36 yX7_copyRow ∈ zW := zm 544 (by decide +kernel) (by decide +kernel)
theorem zt545 : Cond.static yX7_copyRow ∈ zW := zm 545 (by decide +kernel) (by decide +kernel)
theorem zt546 : Cond.code yX7_copyRow cX7_copyRow 5 none ∈ zW := zm 546 (by decide +kernel) (by decide +kernel)
theorem zt547 : Cond.methodLink RL 77 yX7_save ∈ zW := zm 547 (by decide +kernel) (by decide +kernel)
theorem zt548 : Cond.instanceMethod yX7_save ∈ zW := zm 548 (by decide +kernel) (by decide +kernel)
theorem zt549 : Cond.selects RX7 yX7_save yX7_save ∈ zW := zm 549 (by decide +kernel) (by decide +kernel)
theorem zt550 : Cond.code yX7_save cX7_save 1 (some .int) ∈ zW := zm 550 (by decide +kernel) (by decide +kernel)
theorem zt551 : Cond.methodLink RL 81 yX7_restore ∈ zW := zm 551 (by decide +kernel) (by decide +kernel)
theorem zt552 : Cond.instanceMethod yX7_restore ∈ zW := zm 552 (by decide +kernel) (by decide +kernel)
theorem zt553 : Cond.selects RX7 yX7_restore yX7_restore ∈ zW := zm 553 (by decide +kernel) (by decide +kernel)
theorem zt554 : Cond.code yX7_restore cX7_restore 1 (some .int) ∈ zW := zm 554 (by decide +kernel) (by decide +kernel)
theorem zt555 : Cond.methodLink RX7 44 yX7_record ∈ zW := zm 555 (by decide +kernel) (by decide +kernel)
theorem zt557 : Cond.instanceMethod yX7_record ∈ zW := zm 557 (by decide +kernel) (by decide +kernel)
theorem zt558 : Cond.code yX7_record cX7_record 2 none ∈ zW := zm 558 (by decide +kernel) (by decide +kernel)
theorem zt559 : Cond.methodLink RL 17 yX7_add ∈ zW := zm 559 (by decide +kernel) (by decide +kernel)
theorem zt560 : Cond.instanceMethod yX7_add ∈ zW := zm 560 (by decide +kernel) (by decide +kernel)
theorem zt561 : Cond.selects RX7 yX7_add yX7_add ∈ zW := zm 561 (by decide +kernel) (by decide +kernel)
theorem zt562 : Cond.code yX7_add cX7_add 7 (some .int) ∈ zW := zm 562 (by decide +kernel) (by decide +kernel)
theorem zt563 : Cond.methodLink RX7 28 yX7_in ∈ zW := zm 563 (by decide +kernel) (by decide +kernel)
theorem zt564 : Cond.static yX7_in ∈ zW := zm 564 (by decide +kernel) (by decide +kernel)
theorem zt565 : Cond.code yX7_in cX7_in 3 (some .boolean) ∈ zW := zm 565 (by decide +kernel) (by decide +kernel)
theorem zt566 : Cond.methodLink RX7 58 yX7_lay ∈ zW := zm 566 (by decide +kernel) (by decide +kernel)
theorem zt568 : Cond.instanceMethod yX7_lay ∈ zW := zm 568 (by decide +kernel) (by decide +kernel)
theorem zt569 : Cond.code yX7_lay cX7_lay 4 none ∈ zW := zm 569 (by decide +kernel) (by decide +kernel)
theorem zt570 : Cond.methodLink RX7 70 yX7_giveFirst ∈ zW := zm 570 (by decide +kernel) (by decide +kernel)
theorem zt572 : Cond.instanceMethod yX7_giveFirst ∈ zW := zm 572 (by decide +kernel) (by decide +kernel)
theorem zt573 : Cond.code yX7_giveFirst cX7_giveFirst 2 none ∈ zW := zm 573 (by decide +kernel) (by decide +kernel)
theorem zt574 : Cond.methodLink RX7 47 yX7_of ∈ zW := zm 574 (by decide +kernel) (by decide +kernel)
theorem zt576 : Cond.instanceMethod yX7_of ∈ zW := zm 576 (by decide +kernel) (by decide +kernel)
theorem zt577 : Cond.code yX7_of cX7_of 3 (some .int) ∈ zW := zm 577 (by decide +kernel) (by decide +kernel)
theorem zt578 : Cond.methodLink RX7 62 yX7_ones ∈ zW := zm 578 (by decide +kernel) (by decide +kernel)
theorem zt579 : Cond.static yX7_ones ∈ zW := zm 579 (by decide +kernel) (by decide +kernel)
theorem zt580 : Cond.code yX7_ones cX7_ones 1 (some .int) ∈ zW := zm 580 (by decide +kernel) (by decide +kernel)
theorem zt581 : Cond.methodLink RX7 66 yX7_give ∈ zW := zm 581 (by decide +kernel) (by decide +kernel)
theorem zt583 : Cond.instanceMethod yX7_give ∈ zW := zm 583 (by decide +kernel) (by decide +kernel)
theorem zt584 : Cond.code yX7_give cX7_give 3 none ∈ zW := zm 584 (by decide +kernel) (by decide +kernel)
theorem zt585 : Cond.methodLink RL 22 yX7_take ∈ zW := zm 585 (by decide +kernel) (by decide +kernel)
theorem zt586 : Cond.instanceMethod yX7_take ∈ zW := zm 586 (by decide +kernel) (by decide +kernel)
theorem zt587 : Cond.selects RX7 yX7_take yX7_take ∈ zW := zm 587 (by decide +kernel) (by decide +kernel)
theorem zt588 : Cond.code yX7_take cX7_take 4 (some .int) ∈ zW := zm 588 (by decide +kernel) (by decide +kernel)
theorem zt589 : Cond.methodLink RX7 74 yX7_isChip ∈ zW := zm 589 (by decide +kernel) (by decide +kernel)
theorem zt591 : Cond.instanceMethod yX7_isChip ∈ zW := zm 591 (by decide +kernel) (by decide +kernel)
theorem zt592 : Cond.code yX7_isChip cX7_isChip 2 (some .boolean) ∈ zW := zm 592 (by decide +kernel) (by decide +kernel)
theorem zt593 : Cond.methodLink RL 27 yX7_setPins ∈ zW := zm 593 (by decide +kernel) (by decide +kernel)
theorem zt594 : Cond.instanceMethod yX7_setPins ∈ zW := zm 594 (by decide +kernel) (by decide +kernel)
theorem zt595 : Cond.selects RX7 yX7_setPins yX7_setPins ∈ zW := zm 595 (by decide +kernel) (by decide +kernel)
theorem zt596 : Cond.code yX7_setPins cX7_setPins 4 (some .int) ∈ zW := zm 596 (by decide +kernel) (by decide +kernel)
theorem zt597 : Cond.methodLink RL 32 yX7_breakChip ∈ zW := zm 597 (by decide +kernel) (by decide +kernel)
theorem zt598 : Cond.instanceMethod yX7_breakChip ∈ zW := zm 598 (by decide +kernel) (by decide +kernel)
theorem zt599 : Cond.selects RX7 yX7_breakChip yX7_breakChip ∈ zW := zm 599 (by decide +kernel) (by decide +kernel)
theorem zt600 : Cond.code yX7_breakChip cX7_breakChip 3 (some .int) ∈ zW := zm 600 (by decide +kernel) (by decide +kernel)
theorem zt601 : Cond.methodLink RX7 77 yX7_sum ∈ zW := zm 601 (by decide +kernel) (by decide +kernel)
theorem zt603 : Cond.instanceMethod yX7_sum ∈ zW := zm 603 (by decide +kernel) (by decide +kernel)
theorem zt604 : Cond.code yX7_sum cX7_sum 4 (some .int) ∈ zW := zm 604 (by decide +kernel) (by decide +kernel)
theorem zt605 : Cond.methodLink RL 36 yX7_clock ∈ zW := zm 605 (by decide +kernel) (by decide +kernel)
theorem zt606 : Cond.instanceMethod yX7_clock ∈ zW := zm 606 (by decide +kernel) (by decide +kernel)
theorem zt607 : Cond.selects RX7 yX7_clock yX7_clock ∈ zW := zm 607 (by decide +kernel) (by decide +kernel)
theorem zt608 : Cond.code yX7_clock cX7_clock 3 (some .int) ∈ zW := zm 608 (by decide +kernel) (by decide +kernel)
theorem zt609 : Cond.methodLink RX7 106 yX7_clockNow ∈ zW := zm 609 (by decide +kernel) (by decide +kernel)
theorem zt611 : Cond.instanceMethod yX7_clockNow ∈ zW := zm 611 (by decide +kernel) (by decide +kernel)
theorem zt612 : Cond.code yX7_clockNow cX7_clockNow 5 (some .int) ∈ zW := zm 612 (by decide +kernel) (by decide +kernel)
theorem zt613 : Cond.methodLink RX7 94 yX7_output ∈ zW := zm 613 (by decide +kernel) (by decide +kernel)
theorem zt615 : Cond.instanceMethod yX7_output ∈ zW := zm 615 (by decide +kernel) (by decide +kernel)
theorem zt616 : Cond.code yX7_output cX7_output 2 (some .int) ∈ zW := zm 616 (by decide +kernel) (by decide +kernel)
theorem zt617 : Cond.methodLink RX7 84 yX7_isShifting ∈ zW := zm 617 (by decide +kernel) (by decide +kernel)
theorem zt619 : Cond.instanceMethod yX7_isShifting ∈ zW := zm 619 (by decide +kernel) (by decide +kernel)
theorem zt620 : Cond.code yX7_isShifting cX7_isShifting 1 (some .boolean) ∈ zW := zm 620 (by decide +kernel) (by decide +kernel)
theorem zt621 : Cond.methodLink RX7 88 yX7_outputOf ∈ zW := zm 621 (by decide +kernel) (by decide +kernel)
theorem zt623 : Cond.instanceMethod yX7_outputOf ∈ zW := zm 623 (by decide +kernel) (by decide +kernel)
theorem zt624 : Cond.code yX7_outputOf cX7_outputOf 2 (some .int) ∈ zW := zm 624 (by decide +kernel) (by decide +kernel)
theorem zt625 : Cond.methodLink RX7 80 yX7_shifted ∈ zW := zm 625 (by decide +kernel) (by decide +kernel)
theorem zt627 : Cond.instanceMethod yX7_shifted ∈ zW := zm 627 (by decide +kernel) (by decide +kernel)
theorem zt628 : Cond.code yX7_shifted cX7_shifted 1 (some .int) ∈ zW := zm 628 (by decide +kernel) (by decide +kernel)
theorem zt629 : Cond.methodLink RX7 97 yX7_shift ∈ zW := zm 629 (by decide +kernel) (by decide +kernel)
theorem zt631 : Cond.instanceMethod yX7_shift ∈ zW := zm 631 (by decide +kernel) (by decide +kernel)
theorem zt632 : Cond.code yX7_shift cX7_shift 6 none ∈ zW := zm 632 (by decide +kernel) (by decide +kernel)
theorem zt633 : Cond.methodLink RX7 91 yX7_bits ∈ zW := zm 633 (by decide +kernel) (by decide +kernel)
theorem zt635 : Cond.instanceMethod yX7_bits ∈ zW := zm 635 (by decide +kernel) (by decide +kernel)
theorem zt636 : Cond.code yX7_bits cX7_bits 2 (some .int) ∈ zW := zm 636 (by decide +kernel) (by decide +kernel)
theorem zt637 : Cond.methodLink RX7 51 yX7_selectsCells ∈ zW := zm 637 (by decide +kernel) (by decide +kernel)
theorem zt639 : Cond.instanceMethod yX7_selectsCells ∈ zW := zm 639 (by decide +kernel) (by decide +kernel)
theorem zt640 : Cond.code yX7_selectsCells cX7_selectsCells 2 (some .boolean) ∈ zW := zm 640 (by decide +kernel) (by decide +kernel)
theorem zt641 : Cond.methodLink RX7 55 yX7_selectsIdentity ∈ zW := zm 641 (by decide +kernel) (by decide +kernel)
theorem zt643 : Cond.instanceMethod yX7_selectsIdentity ∈ zW := zm 643 (by decide +kernel) (by decide +kernel)
theorem zt644 : Cond.code yX7_selectsIdentity cX7_selectsIdentity 2 (some .boolean) ∈ zW := zm 644 (by decide +kernel) (by decide +kernel)
theorem zt645 : Cond.methodLink RX7 100 yX7_work ∈ zW := zm 645 (by decide +kernel) (by decide +kernel)
theorem zt647 : Cond.instanceMethod yX7_work ∈ zW := zm 647 (by decide +kernel) (by decide +kernel)
theorem zt648 : Cond.code yX7_work cX7_work 2 none ∈ zW := zm 648 (by decide +kernel) (by decide +kernel)
theorem zt649 : Cond.methodLink RX7 103 yX7_next ∈ zW := zm 649 (by decide +kernel) (by decide +kernel)
theorem zt650 : Cond.static yX7_next ∈ zW := zm 650 (by decide +kernel) (by decide +kernel)
theorem zt651 : Cond.code yX7_next cX7_next 2 (some .int) ∈ zW := zm 651 (by decide +kernel) (by decide +kernel)
theorem zt652 : Cond.methodLink RL 40 yX7_move ∈ zW := zm 652 (by decide +kernel) (by decide +kernel)
theorem zt653 : Cond.instanceMethod yX7_move ∈ zW := zm 653 (by decide +kernel) (by decide +kernel)
theorem zt654 : Cond.selects RX7 yX7_move yX7_move ∈ zW := zm 654 (by decide +kernel) (by decide +kernel)
theorem zt655 : Cond.code yX7_move cX7_move 2 (some .int) ∈ zW := zm 655 (by decide +kernel) (by decide +kernel)
theorem zt656 : Cond.methodLink RX7 112 yX7_moveNow ∈ zW := zm 656 (by decide +kernel) (by decide +kernel)
theorem zt658 : Cond.instanceMethod yX7_moveNow ∈ zW := zm 658 (by decide +kernel) (by decide +kernel)
theorem zt659 : Cond.code yX7_moveNow cX7_moveNow 4 (some .int) ∈ zW := zm 659 (by decide +kernel) (by decide +kernel)
theorem zt660 : Cond.methodLink RX7 109 yX7_measure ∈ zW := zm 660 (by decide +kernel) (by decide +kernel)
theorem zt662 : Cond.instanceMethod yX7_measure ∈ zW := zm 662 (by decide +kernel) (by decide +kernel)
theorem zt663 : Cond.code yX7_measure cX7_measure 6 none ∈ zW := zm 663 (by decide +kernel) (by decide +kernel)
theorem zt664 : Cond.methodLink RL 45 yX7_identify ∈ zW := zm 664 (by decide +kernel) (by decide +kernel)
theorem zt665 : Cond.instanceMethod yX7_identify ∈ zW := zm 665 (by decide +kernel) (by decide +kernel)
theorem zt666 : Cond.selects RX7 yX7_identify yX7_identify ∈ zW := zm 666 (by decide +kernel) (by decide +kernel)
theorem zt667 : Cond.code yX7_identify cX7_identify 1 (some .int) ∈ zW := zm 667 (by decide +kernel) (by decide +kernel)
theorem zt668 : Cond.methodLink RX7 118 yX7_identifyNow ∈ zW := zm 668 (by decide +kernel) (by decide +kernel)
theorem zt670 : Cond.instanceMethod yX7_identifyNow ∈ zW := zm 670 (by decide +kernel) (by decide +kernel)
theorem zt671 : Cond.code yX7_identifyNow cX7_identifyNow 3 none ∈ zW := zm 671 (by decide +kernel) (by decide +kernel)
theorem zt672 : Cond.methodLink RX7 115 yX7_readOne ∈ zW := zm 672 (by decide +kernel) (by decide +kernel)
theorem zt674 : Cond.instanceMethod yX7_readOne ∈ zW := zm 674 (by decide +kernel) (by decide +kernel)
theorem zt675 : Cond.code yX7_readOne cX7_readOne 3 (some .int) ∈ zW := zm 675 (by decide +kernel) (by decide +kernel)
theorem zt676 : Cond.methodLink RL 49 yX7_load ∈ zW := zm 676 (by decide +kernel) (by decide +kernel)
theorem zt677 : Cond.instanceMethod yX7_load ∈ zW := zm 677 (by decide +kernel) (by decide +kernel)
theorem zt678 : Cond.selects RX7 yX7_load yX7_load ∈ zW := zm 678 (by decide +kernel) (by decide +kernel)
theorem zt679 : Cond.code yX7_load cX7_load 5 (some .int) ∈ zW := zm 679 (by decide +kernel) (by decide +kernel)
theorem zt680 : Cond.methodLink RX7 121 yX7_clockBits ∈ zW := zm 680 (by decide +kernel) (by decide +kernel)
theorem zt682 : Cond.instanceMethod yX7_clockBits ∈ zW := zm 682 (by decide +kernel) (by decide +kernel)
theorem zt683 : Cond.code yX7_clockBits cX7_clockBits 7 (some .int) ∈ zW := zm 683 (by decide +kernel) (by decide +kernel)
theorem zt684 : Cond.methodLink RL 53 yX7_exchange ∈ zW := zm 684 (by decide +kernel) (by decide +kernel)
theorem zt685 : Cond.instanceMethod yX7_exchange ∈ zW := zm 685 (by decide +kernel) (by decide +kernel)
theorem zt686 : Cond.selects RX7 yX7_exchange yX7_exchange ∈ zW := zm 686 (by decide +kernel) (by decide +kernel)
theorem zt687 : Cond.code yX7_exchange cX7_exchange 4 (some .int) ∈ zW := zm 687 (by decide +kernel) (by decide +kernel)
theorem zt688 : Cond.methodLink RX7 125 yX7_whyNotExchange ∈ zW := zm 688 (by decide +kernel) (by decide +kernel)
theorem zt690 : Cond.instanceMethod yX7_whyNotExchange ∈ zW := zm 690 (by decide +kernel) (by decide +kernel)
theorem zt691 : Cond.code yX7_whyNotExchange cX7_whyNotExchange 3 (some .int) ∈ zW := zm 691 (by decide +kernel) (by decide +kernel)
theorem zt692 : Cond.methodLink RX7 128 yX7_exchangeNow ∈ zW := zm 692 (by decide +kernel) (by decide +kernel)
theorem zt694 : Cond.instanceMethod yX7_exchangeNow ∈ zW := zm 694 (by decide +kernel) (by decide +kernel)
theorem zt695 : Cond.code yX7_exchangeNow cX7_exchangeNow 6 (some .int) ∈ zW := zm 695 (by decide +kernel) (by decide +kernel)
theorem zt696 : Cond.methodLink RL 57 yX7_append ∈ zW := zm 696 (by decide +kernel) (by decide +kernel)
theorem zt697 : Cond.instanceMethod yX7_append ∈ zW := zm 697 (by decide +kernel) (by decide +kernel)
theorem zt698 : Cond.selects RX7 yX7_append yX7_append ∈ zW := zm 698 (by decide +kernel) (by decide +kernel)
theorem zt699 : Cond.code yX7_append cX7_append 2 (some .int) ∈ zW := zm 699 (by decide +kernel) (by decide +kernel)
theorem zt700 : Cond.methodLink RL 61 yX7_clearText ∈ zW := zm 700 (by decide +kernel) (by decide +kernel)
theorem zt701 : Cond.instanceMethod yX7_clearText ∈ zW := zm 701 (by decide +kernel) (by decide +kernel)
theorem zt702 : Cond.selects RX7 yX7_clearText yX7_clearText ∈ zW := zm 702 (by decide +kernel) (by decide +kernel)
theorem zt703 : Cond.code yX7_clearText cX7_clearText 2 (some .int) ∈ zW := zm 703 (by decide +kernel) (by decide +kernel)
theorem zt704 : Cond.methodLink RL 65 yX7_fault ∈ zW := zm 704 (by decide +kernel) (by decide +kernel)
theorem zt705 : Cond.instanceMethod yX7_fault ∈ zW := zm 705 (by decide +kernel) (by decide +kernel)
theorem zt706 : Cond.selects RX7 yX7_fault yX7_fault ∈ zW := zm 706 (by decide +kernel) (by decide +kernel)
theorem zt707 : Cond.code yX7_fault cX7_fault 5 (some .int) ∈ zW := zm 707 (by decide +kernel) (by decide +kernel)
theorem zt708 : Cond.methodLink RX7 134 yX7_digit ∈ zW := zm 708 (by decide +kernel) (by decide +kernel)
theorem zt709 : Cond.static yX7_digit ∈ zW := zm 709 (by decide +kernel) (by decide +kernel)
theorem zt710 : Cond.code yX7_digit cX7_digit 1 (some .int) ∈ zW := zm 710 (by decide +kernel) (by decide +kernel)
theorem zt711 : Cond.methodLink RL 69 yX7_run ∈ zW := zm 711 (by decide +kernel) (by decide +kernel)
theorem zt712 : Cond.instanceMethod yX7_run ∈ zW := zm 712 (by decide +kernel) (by decide +kernel)
theorem zt713 : Cond.selects RX7 yX7_run yX7_run ∈ zW := zm 713 (by decide +kernel) (by decide +kernel)
theorem zt714 : Cond.code yX7_run cX7_run 8 (some .int) ∈ zW := zm 714 (by decide +kernel) (by decide +kernel)
theorem zt715 : Cond.methodLink RX7 137 yX7_fault ∈ zW := zm 715 (by decide +kernel) (by decide +kernel)
theorem zt716 : Cond.methodLink RL 85 yX7_chip ∈ zW := zm 716 (by decide +kernel) (by decide +kernel)
theorem zt717 : Cond.instanceMethod yX7_chip ∈ zW := zm 717 (by decide +kernel) (by decide +kernel)
theorem zt718 : Cond.selects RX7 yX7_chip yX7_chip ∈ zW := zm 718 (by decide +kernel) (by decide +kernel)
theorem zt719 : Cond.code yX7_chip cX7_chip 3 (some .int) ∈ zW := zm 719 (by decide +kernel) (by decide +kernel)
theorem zt720 : Cond.methodLink RL 89 yX7_count ∈ zW := zm 720 (by decide +kernel) (by decide +kernel)
theorem zt721 : Cond.instanceMethod yX7_count ∈ zW := zm 721 (by decide +kernel) (by decide +kernel)
theorem zt722 : Cond.selects RX7 yX7_count yX7_count ∈ zW := zm 722 (by decide +kernel) (by decide +kernel)
theorem zt723 : Cond.code yX7_count cX7_count 2 (some .int) ∈ zW := zm 723 (by decide +kernel) (by decide +kernel)
theorem zt724 : Cond.methodLink RX7 140 yX7_allBits ∈ zW := zm 724 (by decide +kernel) (by decide +kernel)
theorem zt726 : Cond.instanceMethod yX7_allBits ∈ zW := zm 726 (by decide +kernel) (by decide +kernel)
theorem zt727 : Cond.code yX7_allBits cX7_allBits 3 (some .int) ∈ zW := zm 727 (by decide +kernel) (by decide +kernel)
theorem zt728 : Cond.methodLink RL 93 yX7_found ∈ zW := zm 728 (by decide +kernel) (by decide +kernel)
theorem zt729 : Cond.instanceMethod yX7_found ∈ zW := zm 729 (by decide +kernel) (by decide +kernel)
theorem zt730 : Cond.selects RX7 yX7_found yX7_found ∈ zW := zm 730 (by decide +kernel) (by decide +kernel)
theorem zt731 : Cond.code yX7_found cX7_found 2 (some .int) ∈ zW := zm 731 (by decide +kernel) (by decide +kernel)
theorem zt732 : Cond.methodLink RL 97 yX7_distance ∈ zW := zm 732 (by decide +kernel) (by decide +kernel)
theorem zt733 : Cond.instanceMethod yX7_distance ∈ zW := zm 733 (by decide +kernel) (by decide +kernel)
theorem zt734 : Cond.selects RX7 yX7_distance yX7_distance ∈ zW := zm 734 (by decide +kernel) (by decide +kernel)
theorem zt735 : Cond.code yX7_distance cX7_distance 3 (some .int) ∈ zW := zm 735 (by decide +kernel) (by decide +kernel)
theorem zt736 : Cond.methodLink RL 101 yX7_peek ∈ zW := zm 736 (by decide +kernel) (by decide +kernel)
theorem zt737 : Cond.instanceMethod yX7_peek ∈ zW := zm 737 (by decide +kernel) (by decide +kernel)
theorem zt738 : Cond.selects RX7 yX7_peek yX7_peek ∈ zW := zm 738 (by decide +kernel) (by decide +kernel)
theorem zt739 : Cond.code yX7_peek cX7_peek 2 (some .int) ∈ zW := zm 739 (by decide +kernel) (by decide +kernel)
theorem zt740 : Cond.methodLink RL 105 yX7_ifIdentified ∈ zW := zm 740 (by decide +kernel) (by decide +kernel)
theorem zt741 : Cond.instanceMethod yX7_ifIdentified ∈ zW := zm 741 (by decide +kernel) (by decide +kernel)
theorem zt742 : Cond.selects RX7 yX7_ifIdentified yX7_ifIdentified ∈ zW := zm 742 (by decide +kernel) (by decide +kernel)
theorem zt743 : Cond.code yX7_ifIdentified cX7_ifIdentified 2 (some .int) ∈ zW := zm 743 (by decide +kernel) (by decide +kernel)
theorem zt744 : Cond.methodLink RL 109 yX7_ifExchanged ∈ zW := zm 744 (by decide +kernel) (by decide +kernel)
theorem zt745 : Cond.instanceMethod yX7_ifExchanged ∈ zW := zm 745 (by decide +kernel) (by decide +kernel)
theorem zt746 : Cond.selects RX7 yX7_ifExchanged yX7_ifExchanged ∈ zW := zm 746 (by decide +kernel) (by decide +kernel)
theorem zt747 : Cond.code yX7_ifExchanged cX7_ifExchanged 5 (some .int) ∈ zW := zm 747 (by decide +kernel) (by decide +kernel)
theorem zt748 : Cond.methodLink RL 114 yX7_bypassed ∈ zW := zm 748 (by decide +kernel) (by decide +kernel)
theorem zt749 : Cond.instanceMethod yX7_bypassed ∈ zW := zm 749 (by decide +kernel) (by decide +kernel)
theorem zt750 : Cond.selects RX7 yX7_bypassed yX7_bypassed ∈ zW := zm 750 (by decide +kernel) (by decide +kernel)
theorem zt751 : Cond.code yX7_bypassed cX7_bypassed 4 (some .float) ∈ zW := zm 751 (by decide +kernel) (by decide +kernel)
theorem zinX0 : ∀ w ∈ wsX00, w ∈ zW := zWr _ [111, 113, 115, 117, 119, 121] (by decide +kernel) (by decide +kernel)
theorem zinX1 : ∀ w ∈ wsX10, w ∈ zW := zWr _ [76, 78, 80, 82, 84, 86, 88, 90, 92] (by decide +kernel) (by decide +kernel)
theorem zinX3 : ∀ w ∈ wsX30, w ∈ zW := zWr _ [137, 139] (by decide +kernel) (by decide +kernel)
theorem zinX5 : ∀ w ∈ wsX50, w ∈ zW := zWr _ [153, 155] (by decide +kernel) (by decide +kernel)
theorem zinX6 : ∀ w ∈ wsX60, w ∈ zW := zWr _ [165, 167, 169, 171, 173, 175] (by decide +kernel) (by decide +kernel)
theorem zinX7 : ∀ w ∈ wsX70, w ∈ zW := zWr _ [521, 523, 525, 527, 529, 531, 533, 535, 537] (by decide +kernel) (by decide +kernel)
theorem zNest_in : zNest = [57, 62, 63, 65, 70, 71, 74, 96, 97, 99, 100, 102, 103, 105, 107, 109, 110, 136, 149, 151, 152, 216, 362].filterMap (fun i => lw_tbl[i]?) := by decide +kernel
theorem ndX6_init : yX6_init.cls ≠ "java/lang/invoke/MethodHandle" ∧ yX6_init.cls ≠ "java/lang/invoke/VarHandle" ∧ (parseMethodDescriptor yX6_init.desc).map (fun d => d.parameters.length) = some 0 := by decide +kernel
theorem npX6_init : plainName yX6_init.cls = true := by decide +kernel
theorem ndX6_add : yX6_add.cls ≠ "java/lang/invoke/MethodHandle" ∧ yX6_add.cls ≠ "java/lang/invoke/VarHandle" ∧ (parseMethodDescriptor yX6_add.desc).map (fun d => d.parameters.length) = some 3 := by decide +kernel
theorem npX6_add : plainName yX6_add.cls = true := by decide +kernel
theorem ndX6_allOnes : yX6_allOnes.cls ≠ "java/lang/invoke/MethodHandle" ∧ yX6_allOnes.cls ≠ "java/lang/invoke/VarHandle" ∧ (parseMethodDescriptor yX6_allOnes.desc).map (fun d => d.parameters.length) = some 1 := by decide +kernel
theorem npX6_allOnes : plainName yX6_allOnes.cls = true := by decide +kernel
theorem ndX6_append : yX6_append.cls ≠ "java/lang/invoke/MethodHandle" ∧ yX6_append.cls ≠ "java/lang/invoke/VarHandle" ∧ (parseMethodDescriptor yX6_append.desc).map (fun d => d.parameters.length) = some 1 := by decide +kernel
theorem npX6_append : plainName yX6_append.cls = true := by decide +kernel
theorem ndX6_breakChip : yX6_breakChip.cls ≠ "java/lang/invoke/MethodHandle" ∧ yX6_breakChip.cls ≠ "java/lang/invoke/VarHandle" ∧ (parseMethodDescriptor yX6_breakChip.desc).map (fun d => d.parameters.length) = some 2 := by decide +kernel
theorem npX6_breakChip : plainName yX6_breakChip.cls = true := by decide +kernel
theorem ndX6_bypassed : yX6_bypassed.cls ≠ "java/lang/invoke/MethodHandle" ∧ yX6_bypassed.cls ≠ "java/lang/invoke/VarHandle" ∧ (parseMethodDescriptor yX6_bypassed.desc).map (fun d => d.parameters.length) = some 0 := by decide +kernel
theorem npX6_bypassed : plainName yX6_bypassed.cls = true := by decide +kernel
theorem ndX6_chip : yX6_chip.cls ≠ "java/lang/invoke/MethodHandle" ∧ yX6_chip.cls ≠ "java/lang/invoke/VarHandle" ∧ (parseMethodDescriptor yX6_chip.desc).map (fun d => d.parameters.length) = some 2 := by decide +kernel
theorem npX6_chip : plainName yX6_chip.cls = true := by decide +kernel
theorem ndX6_clearText : yX6_clearText.cls ≠ "java/lang/invoke/MethodHandle" ∧ yX6_clearText.cls ≠ "java/lang/invoke/VarHandle" ∧ (parseMethodDescriptor yX6_clearText.desc).map (fun d => d.parameters.length) = some 0 := by decide +kernel
theorem npX6_clearText : plainName yX6_clearText.cls = true := by decide +kernel
theorem ndX6_clock : yX6_clock.cls ≠ "java/lang/invoke/MethodHandle" ∧ yX6_clock.cls ≠ "java/lang/invoke/VarHandle" ∧ (parseMethodDescriptor yX6_clock.desc).map (fun d => d.parameters.length) = some 2 := by decide +kernel
theorem npX6_clock : plainName yX6_clock.cls = true := by decide +kernel
theorem ndX6_count : yX6_count.cls ≠ "java/lang/invoke/MethodHandle" ∧ yX6_count.cls ≠ "java/lang/invoke/VarHandle" ∧ (parseMethodDescriptor yX6_count.desc).map (fun d => d.parameters.length) = some 1 := by decide +kernel
theorem npX6_count : plainName yX6_count.cls = true := by decide +kernel
theorem ndX6_distance : yX6_distance.cls ≠ "java/lang/invoke/MethodHandle" ∧ yX6_distance.cls ≠ "java/lang/invoke/VarHandle" ∧ (parseMethodDescriptor yX6_distance.desc).map (fun d => d.parameters.length) = some 2 := by decide +kernel
theorem npX6_distance : plainName yX6_distance.cls = true := by decide +kernel
theorem ndX6_exchange : yX6_exchange.cls ≠ "java/lang/invoke/MethodHandle" ∧ yX6_exchange.cls ≠ "java/lang/invoke/VarHandle" ∧ (parseMethodDescriptor yX6_exchange.desc).map (fun d => d.parameters.length) = some 2 := by decide +kernel
theorem npX6_exchange : plainName yX6_exchange.cls = true := by decide +kernel
theorem ndX6_exchangeError : yX6_exchangeError.cls ≠ "java/lang/invoke/MethodHandle" ∧ yX6_exchangeError.cls ≠ "java/lang/invoke/VarHandle" ∧ (parseMethodDescriptor yX6_exchangeError.desc).map (fun d => d.parameters.length) = some 2 := by decide +kernel
theorem npX6_exchangeError : plainName yX6_exchangeError.cls = true := by decide +kernel
theorem ndX6_fault : yX6_fault.cls ≠ "java/lang/invoke/MethodHandle" ∧ yX6_fault.cls ≠ "java/lang/invoke/VarHandle" ∧ (parseMethodDescriptor yX6_fault.desc).map (fun d => d.parameters.length) = some 0 := by decide +kernel
theorem npX6_fault : plainName yX6_fault.cls = true := by decide +kernel
theorem ndX6_found : yX6_found.cls ≠ "java/lang/invoke/MethodHandle" ∧ yX6_found.cls ≠ "java/lang/invoke/VarHandle" ∧ (parseMethodDescriptor yX6_found.desc).map (fun d => d.parameters.length) = some 1 := by decide +kernel
theorem npX6_found : plainName yX6_found.cls = true := by decide +kernel
theorem ndX6_identify : yX6_identify.cls ≠ "java/lang/invoke/MethodHandle" ∧ yX6_identify.cls ≠ "java/lang/invoke/VarHandle" ∧ (parseMethodDescriptor yX6_identify.desc).map (fun d => d.parameters.length) = some 0 := by decide +kernel
theorem npX6_identify : plainName yX6_identify.cls = true := by decide +kernel
theorem ndX6_ifExchanged : yX6_ifExchanged.cls ≠ "java/lang/invoke/MethodHandle" ∧ yX6_ifExchanged.cls ≠ "java/lang/invoke/VarHandle" ∧ (parseMethodDescriptor yX6_ifExchanged.desc).map (fun d => d.parameters.length) = some 2 := by decide +kernel
theorem npX6_ifExchanged : plainName yX6_ifExchanged.cls = true := by decide +kernel
theorem ndX6_ifIdentified : yX6_ifIdentified.cls ≠ "java/lang/invoke/MethodHandle" ∧ yX6_ifIdentified.cls ≠ "java/lang/invoke/VarHandle" ∧ (parseMethodDescriptor yX6_ifIdentified.desc).map (fun d => d.parameters.length) = some 0 := by decide +kernel
theorem npX6_ifIdentified : plainName yX6_ifIdentified.cls = true := by decide +kernel
theorem ndX6_isIdentity : yX6_isIdentity.cls ≠ "java/lang/invoke/MethodHandle" ∧ yX6_isIdentity.cls ≠ "java/lang/invoke/VarHandle" ∧ (parseMethodDescriptor yX6_isIdentity.desc).map (fun d => d.parameters.length) = some 1 := by decide +kernel
theorem npX6_isIdentity : plainName yX6_isIdentity.cls = true := by decide +kernel
theorem ndX6_isWithin : yX6_isWithin.cls ≠ "java/lang/invoke/MethodHandle" ∧ yX6_isWithin.cls ≠ "java/lang/invoke/VarHandle" ∧ (parseMethodDescriptor yX6_isWithin.desc).map (fun d => d.parameters.length) = some 3 := by decide +kernel
theorem npX6_isWithin : plainName yX6_isWithin.cls = true := by decide +kernel
theorem ndX6_load : yX6_load.cls ≠ "java/lang/invoke/MethodHandle" ∧ yX6_load.cls ≠ "java/lang/invoke/VarHandle" ∧ (parseMethodDescriptor yX6_load.desc).map (fun d => d.parameters.length) = some 2 := by decide +kernel
theorem npX6_load : plainName yX6_load.cls = true := by decide +kernel
theorem ndX6_move : yX6_move.cls ≠ "java/lang/invoke/MethodHandle" ∧ yX6_move.cls ≠ "java/lang/invoke/VarHandle" ∧ (parseMethodDescriptor yX6_move.desc).map (fun d => d.parameters.length) = some 1 := by decide +kernel
theorem npX6_move : plainName yX6_move.cls = true := by decide +kernel
theorem ndX6_peek : yX6_peek.cls ≠ "java/lang/invoke/MethodHandle" ∧ yX6_peek.cls ≠ "java/lang/invoke/VarHandle" ∧ (parseMethodDescriptor yX6_peek.desc).map (fun d => d.parameters.length) = some 1 := by decide +kernel
theorem npX6_peek : plainName yX6_peek.cls = true := by decide +kernel
theorem ndX6_restore : yX6_restore.cls ≠ "java/lang/invoke/MethodHandle" ∧ yX6_restore.cls ≠ "java/lang/invoke/VarHandle" ∧ (parseMethodDescriptor yX6_restore.desc).map (fun d => d.parameters.length) = some 0 := by decide +kernel
theorem npX6_restore : plainName yX6_restore.cls = true := by decide +kernel
theorem ndX6_run : yX6_run.cls ≠ "java/lang/invoke/MethodHandle" ∧ yX6_run.cls ≠ "java/lang/invoke/VarHandle" ∧ (parseMethodDescriptor yX6_run.desc).map (fun d => d.parameters.length) = some 0 := by decide +kernel
theorem npX6_run : plainName yX6_run.cls = true := by decide +kernel
theorem ndX6_save : yX6_save.cls ≠ "java/lang/invoke/MethodHandle" ∧ yX6_save.cls ≠ "java/lang/invoke/VarHandle" ∧ (parseMethodDescriptor yX6_save.desc).map (fun d => d.parameters.length) = some 0 := by decide +kernel
theorem npX6_save : plainName yX6_save.cls = true := by decide +kernel
theorem ndX6_setPins : yX6_setPins.cls ≠ "java/lang/invoke/MethodHandle" ∧ yX6_setPins.cls ≠ "java/lang/invoke/VarHandle" ∧ (parseMethodDescriptor yX6_setPins.desc).map (fun d => d.parameters.length) = some 2 := by decide +kernel
theorem npX6_setPins : plainName yX6_setPins.cls = true := by decide +kernel
theorem ndX6_take : yX6_take.cls ≠ "java/lang/invoke/MethodHandle" ∧ yX6_take.cls ≠ "java/lang/invoke/VarHandle" ∧ (parseMethodDescriptor yX6_take.desc).map (fun d => d.parameters.length) = some 1 := by decide +kernel
theorem npX6_take : plainName yX6_take.cls = true := by decide +kernel
theorem ndX6_undo : yX6_undo.cls ≠ "java/lang/invoke/MethodHandle" ∧ yX6_undo.cls ≠ "java/lang/invoke/VarHandle" ∧ (parseMethodDescriptor yX6_undo.desc).map (fun d => d.parameters.length) = some 0 := by decide +kernel
theorem npX6_undo : plainName yX6_undo.cls = true := by decide +kernel
theorem ndX0_init : yX0_init.cls ≠ "java/lang/invoke/MethodHandle" ∧ yX0_init.cls ≠ "java/lang/invoke/VarHandle" ∧ (parseMethodDescriptor yX0_init.desc).map (fun d => d.parameters.length) = some 0 := by decide +kernel
theorem npX0_init : plainName yX0_init.cls = true := by decide +kernel
theorem ndX0_becomeCopyOf : yX0_becomeCopyOf.cls ≠ "java/lang/invoke/MethodHandle" ∧ yX0_becomeCopyOf.cls ≠ "java/lang/invoke/VarHandle" ∧ (parseMethodDescriptor yX0_becomeCopyOf.desc).map (fun d => d.parameters.length) = some 1 := by decide +kernel
theorem npX0_becomeCopyOf : plainName yX0_becomeCopyOf.cls = true := by decide +kernel
theorem ndX0_brokenChips : yX0_brokenChips.cls ≠ "java/lang/invoke/MethodHandle" ∧ yX0_brokenChips.cls ≠ "java/lang/invoke/VarHandle" ∧ (parseMethodDescriptor yX0_brokenChips.desc).map (fun d => d.parameters.length) = some 0 := by decide +kernel
theorem npX0_brokenChips : plainName yX0_brokenChips.cls = true := by decide +kernel
theorem ndX0_bypassedChips : yX0_bypassedChips.cls ≠ "java/lang/invoke/MethodHandle" ∧ yX0_bypassedChips.cls ≠ "java/lang/invoke/VarHandle" ∧ (parseMethodDescriptor yX0_bypassedChips.desc).map (fun d => d.parameters.length) = some 0 := by decide +kernel
theorem npX0_bypassedChips : plainName yX0_bypassedChips.cls = true := by decide +kernel
theorem ndX0_forgetIdentities : yX0_forgetIdentities.cls ≠ "java/lang/invoke/MethodHandle" ∧ yX0_forgetIdentities.cls ≠ "java/lang/invoke/VarHandle" ∧ (parseMethodDescriptor yX0_forgetIdentities.desc).map (fun d => d.parameters.length) = some 0 := by decide +kernel
theorem npX0_forgetIdentities : plainName yX0_forgetIdentities.cls = true := by decide +kernel
theorem ndX0_has : yX0_has.cls ≠ "java/lang/invoke/MethodHandle" ∧ yX0_has.cls ≠ "java/lang/invoke/VarHandle" ∧ (parseMethodDescriptor yX0_has.desc).map (fun d => d.parameters.length) = some 1 := by decide +kernel
theorem npX0_has : plainName yX0_has.cls = true := by decide +kernel
theorem ndX0_keepIdentity : yX0_keepIdentity.cls ≠ "java/lang/invoke/MethodHandle" ∧ yX0_keepIdentity.cls ≠ "java/lang/invoke/VarHandle" ∧ (parseMethodDescriptor yX0_keepIdentity.desc).map (fun d => d.parameters.length) = some 1 := by decide +kernel
theorem npX0_keepIdentity : plainName yX0_keepIdentity.cls = true := by decide +kernel
theorem ndX0_outputWith : yX0_outputWith.cls ≠ "java/lang/invoke/MethodHandle" ∧ yX0_outputWith.cls ≠ "java/lang/invoke/VarHandle" ∧ (parseMethodDescriptor yX0_outputWith.desc).map (fun d => d.parameters.length) = some 1 := by decide +kernel
theorem npX0_outputWith : plainName yX0_outputWith.cls = true := by decide +kernel
theorem ndX0_putBehind : yX0_putBehind.cls ≠ "java/lang/invoke/MethodHandle" ∧ yX0_putBehind.cls ≠ "java/lang/invoke/VarHandle" ∧ (parseMethodDescriptor yX0_putBehind.desc).map (fun d => d.parameters.length) = some 3 := by decide +kernel
theorem npX0_putBehind : plainName yX0_putBehind.cls = true := by decide +kernel
theorem ndX0_shiftAllCodes : yX0_shiftAllCodes.cls ≠ "java/lang/invoke/MethodHandle" ∧ yX0_shiftAllCodes.cls ≠ "java/lang/invoke/VarHandle" ∧ (parseMethodDescriptor yX0_shiftAllCodes.desc).map (fun d => d.parameters.length) = some 1 := by decide +kernel
theorem npX0_shiftAllCodes : plainName yX0_shiftAllCodes.cls = true := by decide +kernel
theorem ndX0_shiftAllData : yX0_shiftAllData.cls ≠ "java/lang/invoke/MethodHandle" ∧ yX0_shiftAllData.cls ≠ "java/lang/invoke/VarHandle" ∧ (parseMethodDescriptor yX0_shiftAllData.desc).map (fun d => d.parameters.length) = some 1 := by decide +kernel
theorem npX0_shiftAllData : plainName yX0_shiftAllData.cls = true := by decide +kernel
theorem ndX0_sumOfCodeLengths : yX0_sumOfCodeLengths.cls ≠ "java/lang/invoke/MethodHandle" ∧ yX0_sumOfCodeLengths.cls ≠ "java/lang/invoke/VarHandle" ∧ (parseMethodDescriptor yX0_sumOfCodeLengths.desc).map (fun d => d.parameters.length) = some 0 := by decide +kernel
theorem npX0_sumOfCodeLengths : plainName yX0_sumOfCodeLengths.cls = true := by decide +kernel
theorem ndX0_sumOfDataBits : yX0_sumOfDataBits.cls ≠ "java/lang/invoke/MethodHandle" ∧ yX0_sumOfDataBits.cls ≠ "java/lang/invoke/VarHandle" ∧ (parseMethodDescriptor yX0_sumOfDataBits.desc).map (fun d => d.parameters.length) = some 0 := by decide +kernel
theorem npX0_sumOfDataBits : plainName yX0_sumOfDataBits.cls = true := by decide +kernel
theorem ndX0_takeOut : yX0_takeOut.cls ≠ "java/lang/invoke/MethodHandle" ∧ yX0_takeOut.cls ≠ "java/lang/invoke/VarHandle" ∧ (parseMethodDescriptor yX0_takeOut.desc).map (fun d => d.parameters.length) = some 1 := by decide +kernel
theorem npX0_takeOut : plainName yX0_takeOut.cls = true := by decide +kernel
theorem ndX0_tick : yX0_tick.cls ≠ "java/lang/invoke/MethodHandle" ∧ yX0_tick.cls ≠ "java/lang/invoke/VarHandle" ∧ (parseMethodDescriptor yX0_tick.desc).map (fun d => d.parameters.length) = some 2 := by decide +kernel
theorem npX0_tick : plainName yX0_tick.cls = true := by decide +kernel
theorem ndX0_work : yX0_work.cls ≠ "java/lang/invoke/MethodHandle" ∧ yX0_work.cls ≠ "java/lang/invoke/VarHandle" ∧ (parseMethodDescriptor yX0_work.desc).map (fun d => d.parameters.length) = some 1 := by decide +kernel
theorem npX0_work : plainName yX0_work.cls = true := by decide +kernel
theorem ndX0_workOf : yX0_workOf.cls ≠ "java/lang/invoke/MethodHandle" ∧ yX0_workOf.cls ≠ "java/lang/invoke/VarHandle" ∧ (parseMethodDescriptor yX0_workOf.desc).map (fun d => d.parameters.length) = some 1 := by decide +kernel
theorem npX0_workOf : plainName yX0_workOf.cls = true := by decide +kernel
theorem ndX1_init : yX1_init.cls ≠ "java/lang/invoke/MethodHandle" ∧ yX1_init.cls ≠ "java/lang/invoke/VarHandle" ∧ (parseMethodDescriptor yX1_init.desc).map (fun d => d.parameters.length) = some 0 := by decide +kernel
theorem npX1_init : plainName yX1_init.cls = true := by decide +kernel
theorem ndX1_beNew : yX1_beNew.cls ≠ "java/lang/invoke/MethodHandle" ∧ yX1_beNew.cls ≠ "java/lang/invoke/VarHandle" ∧ (parseMethodDescriptor yX1_beNew.desc).map (fun d => d.parameters.length) = some 3 := by decide +kernel
theorem npX1_beNew : plainName yX1_beNew.cls = true := by decide +kernel
theorem ndX1_becomeCopyOf : yX1_becomeCopyOf.cls ≠ "java/lang/invoke/MethodHandle" ∧ yX1_becomeCopyOf.cls ≠ "java/lang/invoke/VarHandle" ∧ (parseMethodDescriptor yX1_becomeCopyOf.desc).map (fun d => d.parameters.length) = some 1 := by decide +kernel
theorem npX1_becomeCopyOf : plainName yX1_becomeCopyOf.cls = true := by decide +kernel
theorem ndX1_captureData : yX1_captureData.cls ≠ "java/lang/invoke/MethodHandle" ∧ yX1_captureData.cls ≠ "java/lang/invoke/VarHandle" ∧ (parseMethodDescriptor yX1_captureData.desc).map (fun d => d.parameters.length) = some 0 := by decide +kernel
theorem npX1_captureData : plainName yX1_captureData.cls = true := by decide +kernel
theorem ndX1_changePins : yX1_changePins.cls ≠ "java/lang/invoke/MethodHandle" ∧ yX1_changePins.cls ≠ "java/lang/invoke/VarHandle" ∧ (parseMethodDescriptor yX1_changePins.desc).map (fun d => d.parameters.length) = some 1 := by decide +kernel
theorem npX1_changePins : plainName yX1_changePins.cls = true := by decide +kernel
theorem ndX1_codeOutput : yX1_codeOutput.cls ≠ "java/lang/invoke/MethodHandle" ∧ yX1_codeOutput.cls ≠ "java/lang/invoke/VarHandle" ∧ (parseMethodDescriptor yX1_codeOutput.desc).map (fun d => d.parameters.length) = some 0 := by decide +kernel
theorem npX1_codeOutput : plainName yX1_codeOutput.cls = true := by decide +kernel
theorem ndX1_dataBits : yX1_dataBits.cls ≠ "java/lang/invoke/MethodHandle" ∧ yX1_dataBits.cls ≠ "java/lang/invoke/VarHandle" ∧ (parseMethodDescriptor yX1_dataBits.desc).map (fun d => d.parameters.length) = some 0 := by decide +kernel
theorem npX1_dataBits : plainName yX1_dataBits.cls = true := by decide +kernel
theorem ndX1_dataOutput : yX1_dataOutput.cls ≠ "java/lang/invoke/MethodHandle" ∧ yX1_dataOutput.cls ≠ "java/lang/invoke/VarHandle" ∧ (parseMethodDescriptor yX1_dataOutput.desc).map (fun d => d.parameters.length) = some 0 := by decide +kernel
theorem npX1_dataOutput : plainName yX1_dataOutput.cls = true := by decide +kernel
theorem ndX1_giveFirstInstruction : yX1_giveFirstInstruction.cls ≠ "java/lang/invoke/MethodHandle" ∧ yX1_giveFirstInstruction.cls ≠ "java/lang/invoke/VarHandle" ∧ (parseMethodDescriptor yX1_giveFirstInstruction.desc).map (fun d => d.parameters.length) = some 0 := by decide +kernel
theorem npX1_giveFirstInstruction : plainName yX1_giveFirstInstruction.cls = true := by decide +kernel
theorem ndX1_giveInstruction : yX1_giveInstruction.cls ≠ "java/lang/invoke/MethodHandle" ∧ yX1_giveInstruction.cls ≠ "java/lang/invoke/VarHandle" ∧ (parseMethodDescriptor yX1_giveInstruction.desc).map (fun d => d.parameters.length) = some 1 := by decide +kernel
theorem npX1_giveInstruction : plainName yX1_giveInstruction.cls = true := by decide +kernel
theorem ndX1_selectsBypass : yX1_selectsBypass.cls ≠ "java/lang/invoke/MethodHandle" ∧ yX1_selectsBypass.cls ≠ "java/lang/invoke/VarHandle" ∧ (parseMethodDescriptor yX1_selectsBypass.desc).map (fun d => d.parameters.length) = some 0 := by decide +kernel
theorem npX1_selectsBypass : plainName yX1_selectsBypass.cls = true := by decide +kernel
theorem ndX1_selectsCells : yX1_selectsCells.cls ≠ "java/lang/invoke/MethodHandle" ∧ yX1_selectsCells.cls ≠ "java/lang/invoke/VarHandle" ∧ (parseMethodDescriptor yX1_selectsCells.desc).map (fun d => d.parameters.length) = some 0 := by decide +kernel
theorem npX1_selectsCells : plainName yX1_selectsCells.cls = true := by decide +kernel
theorem ndX1_selectsIdentity : yX1_selectsIdentity.cls ≠ "java/lang/invoke/MethodHandle" ∧ yX1_selectsIdentity.cls ≠ "java/lang/invoke/VarHandle" ∧ (parseMethodDescriptor yX1_selectsIdentity.desc).map (fun d => d.parameters.length) = some 0 := by decide +kernel
theorem npX1_selectsIdentity : plainName yX1_selectsIdentity.cls = true := by decide +kernel
theorem ndX1_shiftCode : yX1_shiftCode.cls ≠ "java/lang/invoke/MethodHandle" ∧ yX1_shiftCode.cls ≠ "java/lang/invoke/VarHandle" ∧ (parseMethodDescriptor yX1_shiftCode.desc).map (fun d => d.parameters.length) = some 1 := by decide +kernel
theorem npX1_shiftCode : plainName yX1_shiftCode.cls = true := by decide +kernel
theorem ndX1_shiftData : yX1_shiftData.cls ≠ "java/lang/invoke/MethodHandle" ∧ yX1_shiftData.cls ≠ "java/lang/invoke/VarHandle" ∧ (parseMethodDescriptor yX1_shiftData.desc).map (fun d => d.parameters.length) = some 1 := by decide +kernel
theorem npX1_shiftData : plainName yX1_shiftData.cls = true := by decide +kernel
theorem ndX1_shifted : yX1_shifted.cls ≠ "java/lang/invoke/MethodHandle" ∧ yX1_shifted.cls ≠ "java/lang/invoke/VarHandle" ∧ (parseMethodDescriptor yX1_shifted.desc).map (fun d => d.parameters.length) = some 3 := by decide +kernel
theorem npX1_shifted : plainName yX1_shifted.cls = true := by decide +kernel
theorem ndX1_tell : yX1_tell.cls ≠ "java/lang/invoke/MethodHandle" ∧ yX1_tell.cls ≠ "java/lang/invoke/VarHandle" ∧ (parseMethodDescriptor yX1_tell.desc).map (fun d => d.parameters.length) = some 1 := by decide +kernel
theorem npX1_tell : plainName yX1_tell.cls = true := by decide +kernel
theorem ndX1_updateData : yX1_updateData.cls ≠ "java/lang/invoke/MethodHandle" ∧ yX1_updateData.cls ≠ "java/lang/invoke/VarHandle" ∧ (parseMethodDescriptor yX1_updateData.desc).map (fun d => d.parameters.length) = some 0 := by decide +kernel
theorem npX1_updateData : plainName yX1_updateData.cls = true := by decide +kernel
theorem ndX2_clocksBetween : yX2_clocksBetween.cls ≠ "java/lang/invoke/MethodHandle" ∧ yX2_clocksBetween.cls ≠ "java/lang/invoke/VarHandle" ∧ (parseMethodDescriptor yX2_clocksBetween.desc).map (fun d => d.parameters.length) = some 2 := by decide +kernel
theorem npX2_clocksBetween : plainName yX2_clocksBetween.cls = true := by decide +kernel
theorem ndX2_isState : yX2_isState.cls ≠ "java/lang/invoke/MethodHandle" ∧ yX2_isState.cls ≠ "java/lang/invoke/VarHandle" ∧ (parseMethodDescriptor yX2_isState.desc).map (fun d => d.parameters.length) = some 1 := by decide +kernel
theorem npX2_isState : plainName yX2_isState.cls = true := by decide +kernel
theorem ndX2_next : yX2_next.cls ≠ "java/lang/invoke/MethodHandle" ∧ yX2_next.cls ≠ "java/lang/invoke/VarHandle" ∧ (parseMethodDescriptor yX2_next.desc).map (fun d => d.parameters.length) = some 2 := by decide +kernel
theorem npX2_next : plainName yX2_next.cls = true := by decide +kernel
theorem ndX2_nextOfAll : yX2_nextOfAll.cls ≠ "java/lang/invoke/MethodHandle" ∧ yX2_nextOfAll.cls ≠ "java/lang/invoke/VarHandle" ∧ (parseMethodDescriptor yX2_nextOfAll.desc).map (fun d => d.parameters.length) = some 1 := by decide +kernel
theorem npX2_nextOfAll : plainName yX2_nextOfAll.cls = true := by decide +kernel
theorem ndX3_init : yX3_init.cls ≠ "java/lang/invoke/MethodHandle" ∧ yX3_init.cls ≠ "java/lang/invoke/VarHandle" ∧ (parseMethodDescriptor yX3_init.desc).map (fun d => d.parameters.length) = some 0 := by decide +kernel
theorem npX3_init : plainName yX3_init.cls = true := by decide +kernel
theorem ndX3_dropOldest : yX3_dropOldest.cls ≠ "java/lang/invoke/MethodHandle" ∧ yX3_dropOldest.cls ≠ "java/lang/invoke/VarHandle" ∧ (parseMethodDescriptor yX3_dropOldest.desc).map (fun d => d.parameters.length) = some 0 := by decide +kernel
theorem npX3_dropOldest : plainName yX3_dropOldest.cls = true := by decide +kernel
theorem ndX3_record : yX3_record.cls ≠ "java/lang/invoke/MethodHandle" ∧ yX3_record.cls ≠ "java/lang/invoke/VarHandle" ∧ (parseMethodDescriptor yX3_record.desc).map (fun d => d.parameters.length) = some 1 := by decide +kernel
theorem npX3_record : plainName yX3_record.cls = true := by decide +kernel
theorem ndX3_takeBack : yX3_takeBack.cls ≠ "java/lang/invoke/MethodHandle" ∧ yX3_takeBack.cls ≠ "java/lang/invoke/VarHandle" ∧ (parseMethodDescriptor yX3_takeBack.desc).map (fun d => d.parameters.length) = some 1 := by decide +kernel
theorem npX3_takeBack : plainName yX3_takeBack.cls = true := by decide +kernel
theorem ndX4_carryOut : yX4_carryOut.cls ≠ "java/lang/invoke/MethodHandle" ∧ yX4_carryOut.cls ≠ "java/lang/invoke/VarHandle" ∧ (parseMethodDescriptor yX4_carryOut.desc).map (fun d => d.parameters.length) = some 2 := by decide +kernel
theorem npX4_carryOut : plainName yX4_carryOut.cls = true := by decide +kernel
theorem ndX4_clockItem : yX4_clockItem.cls ≠ "java/lang/invoke/MethodHandle" ∧ yX4_clockItem.cls ≠ "java/lang/invoke/VarHandle" ∧ (parseMethodDescriptor yX4_clockItem.desc).map (fun d => d.parameters.length) = some 2 := by decide +kernel
theorem npX4_clockItem : plainName yX4_clockItem.cls = true := by decide +kernel
theorem ndX4_exchangeData : yX4_exchangeData.cls ≠ "java/lang/invoke/MethodHandle" ∧ yX4_exchangeData.cls ≠ "java/lang/invoke/VarHandle" ∧ (parseMethodDescriptor yX4_exchangeData.desc).map (fun d => d.parameters.length) = some 3 := by decide +kernel
theorem npX4_exchangeData : plainName yX4_exchangeData.cls = true := by decide +kernel
theorem ndX4_goTo : yX4_goTo.cls ≠ "java/lang/invoke/MethodHandle" ∧ yX4_goTo.cls ≠ "java/lang/invoke/VarHandle" ∧ (parseMethodDescriptor yX4_goTo.desc).map (fun d => d.parameters.length) = some 2 := by decide +kernel
theorem npX4_goTo : plainName yX4_goTo.cls = true := by decide +kernel
theorem ndX4_loadInstruction : yX4_loadInstruction.cls ≠ "java/lang/invoke/MethodHandle" ∧ yX4_loadInstruction.cls ≠ "java/lang/invoke/VarHandle" ∧ (parseMethodDescriptor yX4_loadInstruction.desc).map (fun d => d.parameters.length) = some 3 := by decide +kernel
theorem npX4_loadInstruction : plainName yX4_loadInstruction.cls = true := by decide +kernel
theorem ndX4_readIdentities : yX4_readIdentities.cls ≠ "java/lang/invoke/MethodHandle" ∧ yX4_readIdentities.cls ≠ "java/lang/invoke/VarHandle" ∧ (parseMethodDescriptor yX4_readIdentities.desc).map (fun d => d.parameters.length) = some 1 := by decide +kernel
theorem npX4_readIdentities : plainName yX4_readIdentities.cls = true := by decide +kernel
theorem ndX4_readIdentity : yX4_readIdentity.cls ≠ "java/lang/invoke/MethodHandle" ∧ yX4_readIdentity.cls ≠ "java/lang/invoke/VarHandle" ∧ (parseMethodDescriptor yX4_readIdentity.desc).map (fun d => d.parameters.length) = some 1 := by decide +kernel
theorem npX4_readIdentity : plainName yX4_readIdentity.cls = true := by decide +kernel
theorem ndX4_shiftThrough : yX4_shiftThrough.cls ≠ "java/lang/invoke/MethodHandle" ∧ yX4_shiftThrough.cls ≠ "java/lang/invoke/VarHandle" ∧ (parseMethodDescriptor yX4_shiftThrough.desc).map (fun d => d.parameters.length) = some 4 := by decide +kernel
theorem npX4_shiftThrough : plainName yX4_shiftThrough.cls = true := by decide +kernel
theorem ndX5_init : yX5_init.cls ≠ "java/lang/invoke/MethodHandle" ∧ yX5_init.cls ≠ "java/lang/invoke/VarHandle" ∧ (parseMethodDescriptor yX5_init.desc).map (fun d => d.parameters.length) = some 0 := by decide +kernel
theorem npX5_init : plainName yX5_init.cls = true := by decide +kernel
theorem ndX5_firstFault : yX5_firstFault.cls ≠ "java/lang/invoke/MethodHandle" ∧ yX5_firstFault.cls ≠ "java/lang/invoke/VarHandle" ∧ (parseMethodDescriptor yX5_firstFault.desc).map (fun d => d.parameters.length) = some 0 := by decide +kernel
theorem npX5_firstFault : plainName yX5_firstFault.cls = true := by decide +kernel
theorem ndX5_hexAt : yX5_hexAt.cls ≠ "java/lang/invoke/MethodHandle" ∧ yX5_hexAt.cls ≠ "java/lang/invoke/VarHandle" ∧ (parseMethodDescriptor yX5_hexAt.desc).map (fun d => d.parameters.length) = some 1 := by decide +kernel
theorem npX5_hexAt : plainName yX5_hexAt.cls = true := by decide +kernel
theorem ndX5_hexValue : yX5_hexValue.cls ≠ "java/lang/invoke/MethodHandle" ∧ yX5_hexValue.cls ≠ "java/lang/invoke/VarHandle" ∧ (parseMethodDescriptor yX5_hexValue.desc).map (fun d => d.parameters.length) = some 1 := by decide +kernel
theorem npX5_hexValue : plainName yX5_hexValue.cls = true := by decide +kernel
theorem ndX5_startsItem : yX5_startsItem.cls ≠ "java/lang/invoke/MethodHandle" ∧ yX5_startsItem.cls ≠ "java/lang/invoke/VarHandle" ∧ (parseMethodDescriptor yX5_startsItem.desc).map (fun d => d.parameters.length) = some 1 := by decide +kernel
theorem npX5_startsItem : plainName yX5_startsItem.cls = true := by decide +kernel
theorem ndX5_wipe : yX5_wipe.cls ≠ "java/lang/invoke/MethodHandle" ∧ yX5_wipe.cls ≠ "java/lang/invoke/VarHandle" ∧ (parseMethodDescriptor yX5_wipe.desc).map (fun d => d.parameters.length) = some 0 := by decide +kernel
theorem npX5_wipe : plainName yX5_wipe.cls = true := by decide +kernel
theorem ndX5_write : yX5_write.cls ≠ "java/lang/invoke/MethodHandle" ∧ yX5_write.cls ≠ "java/lang/invoke/VarHandle" ∧ (parseMethodDescriptor yX5_write.desc).map (fun d => d.parameters.length) = some 1 := by decide +kernel
theorem npX5_write : plainName yX5_write.cls = true := by decide +kernel
theorem ndX7_init : yX7_init.cls ≠ "java/lang/invoke/MethodHandle" ∧ yX7_init.cls ≠ "java/lang/invoke/VarHandle" ∧ (parseMethodDescriptor yX7_init.desc).map (fun d => d.parameters.length) = some 0 := by decide +kernel
theorem npX7_init : plainName yX7_init.cls = true := by decide +kernel
theorem ndX7_add : yX7_add.cls ≠ "java/lang/invoke/MethodHandle" ∧ yX7_add.cls ≠ "java/lang/invoke/VarHandle" ∧ (parseMethodDescriptor yX7_add.desc).map (fun d => d.parameters.length) = some 3 := by decide +kernel
theorem npX7_add : plainName yX7_add.cls = true := by decide +kernel
theorem ndX7_allBits : yX7_allBits.cls ≠ "java/lang/invoke/MethodHandle" ∧ yX7_allBits.cls ≠ "java/lang/invoke/VarHandle" ∧ (parseMethodDescriptor yX7_allBits.desc).map (fun d => d.parameters.length) = some 0 := by decide +kernel
theorem npX7_allBits : plainName yX7_allBits.cls = true := by decide +kernel
theorem ndX7_append : yX7_append.cls ≠ "java/lang/invoke/MethodHandle" ∧ yX7_append.cls ≠ "java/lang/invoke/VarHandle" ∧ (parseMethodDescriptor yX7_append.desc).map (fun d => d.parameters.length) = some 1 := by decide +kernel
theorem npX7_append : plainName yX7_append.cls = true := by decide +kernel
theorem ndX7_bits : yX7_bits.cls ≠ "java/lang/invoke/MethodHandle" ∧ yX7_bits.cls ≠ "java/lang/invoke/VarHandle" ∧ (parseMethodDescriptor yX7_bits.desc).map (fun d => d.parameters.length) = some 1 := by decide +kernel
theorem npX7_bits : plainName yX7_bits.cls = true := by decide +kernel
theorem ndX7_breakChip : yX7_breakChip.cls ≠ "java/lang/invoke/MethodHandle" ∧ yX7_breakChip.cls ≠ "java/lang/invoke/VarHandle" ∧ (parseMethodDescriptor yX7_breakChip.desc).map (fun d => d.parameters.length) = some 2 := by decide +kernel
theorem npX7_breakChip : plainName yX7_breakChip.cls = true := by decide +kernel
theorem ndX7_bypassed : yX7_bypassed.cls ≠ "java/lang/invoke/MethodHandle" ∧ yX7_bypassed.cls ≠ "java/lang/invoke/VarHandle" ∧ (parseMethodDescriptor yX7_bypassed.desc).map (fun d => d.parameters.length) = some 0 := by decide +kernel
theorem npX7_bypassed : plainName yX7_bypassed.cls = true := by decide +kernel
theorem ndX7_chip : yX7_chip.cls ≠ "java/lang/invoke/MethodHandle" ∧ yX7_chip.cls ≠ "java/lang/invoke/VarHandle" ∧ (parseMethodDescriptor yX7_chip.desc).map (fun d => d.parameters.length) = some 2 := by decide +kernel
theorem npX7_chip : plainName yX7_chip.cls = true := by decide +kernel
theorem ndX7_clearText : yX7_clearText.cls ≠ "java/lang/invoke/MethodHandle" ∧ yX7_clearText.cls ≠ "java/lang/invoke/VarHandle" ∧ (parseMethodDescriptor yX7_clearText.desc).map (fun d => d.parameters.length) = some 0 := by decide +kernel
theorem npX7_clearText : plainName yX7_clearText.cls = true := by decide +kernel
theorem ndX7_clock : yX7_clock.cls ≠ "java/lang/invoke/MethodHandle" ∧ yX7_clock.cls ≠ "java/lang/invoke/VarHandle" ∧ (parseMethodDescriptor yX7_clock.desc).map (fun d => d.parameters.length) = some 2 := by decide +kernel
theorem npX7_clock : plainName yX7_clock.cls = true := by decide +kernel
theorem ndX7_clockBits : yX7_clockBits.cls ≠ "java/lang/invoke/MethodHandle" ∧ yX7_clockBits.cls ≠ "java/lang/invoke/VarHandle" ∧ (parseMethodDescriptor yX7_clockBits.desc).map (fun d => d.parameters.length) = some 3 := by decide +kernel
theorem npX7_clockBits : plainName yX7_clockBits.cls = true := by decide +kernel
theorem ndX7_clockNow : yX7_clockNow.cls ≠ "java/lang/invoke/MethodHandle" ∧ yX7_clockNow.cls ≠ "java/lang/invoke/VarHandle" ∧ (parseMethodDescriptor yX7_clockNow.desc).map (fun d => d.parameters.length) = some 2 := by decide +kernel
theorem npX7_clockNow : plainName yX7_clockNow.cls = true := by decide +kernel
theorem ndX7_copyRow : yX7_copyRow.cls ≠ "java/lang/invoke/MethodHandle" ∧ yX7_copyRow.cls ≠ "java/lang/invoke/VarHandle" ∧ (parseMethodDescriptor yX7_copyRow.desc).map (fun d => d.parameters.length) = some 4 := by decide +kernel
theorem npX7_copyRow : plainName yX7_copyRow.cls = true := by decide +kernel
theorem ndX7_count : yX7_count.cls ≠ "java/lang/invoke/MethodHandle" ∧ yX7_count.cls ≠ "java/lang/invoke/VarHandle" ∧ (parseMethodDescriptor yX7_count.desc).map (fun d => d.parameters.length) = some 1 := by decide +kernel
theorem npX7_count : plainName yX7_count.cls = true := by decide +kernel
theorem ndX7_digit : yX7_digit.cls ≠ "java/lang/invoke/MethodHandle" ∧ yX7_digit.cls ≠ "java/lang/invoke/VarHandle" ∧ (parseMethodDescriptor yX7_digit.desc).map (fun d => d.parameters.length) = some 1 := by decide +kernel
theorem npX7_digit : plainName yX7_digit.cls = true := by decide +kernel
theorem ndX7_distance : yX7_distance.cls ≠ "java/lang/invoke/MethodHandle" ∧ yX7_distance.cls ≠ "java/lang/invoke/VarHandle" ∧ (parseMethodDescriptor yX7_distance.desc).map (fun d => d.parameters.length) = some 2 := by decide +kernel
theorem npX7_distance : plainName yX7_distance.cls = true := by decide +kernel
theorem ndX7_exchange : yX7_exchange.cls ≠ "java/lang/invoke/MethodHandle" ∧ yX7_exchange.cls ≠ "java/lang/invoke/VarHandle" ∧ (parseMethodDescriptor yX7_exchange.desc).map (fun d => d.parameters.length) = some 2 := by decide +kernel
theorem npX7_exchange : plainName yX7_exchange.cls = true := by decide +kernel
theorem ndX7_exchangeNow : yX7_exchangeNow.cls ≠ "java/lang/invoke/MethodHandle" ∧ yX7_exchangeNow.cls ≠ "java/lang/invoke/VarHandle" ∧ (parseMethodDescriptor yX7_exchangeNow.desc).map (fun d => d.parameters.length) = some 2 := by decide +kernel
theorem npX7_exchangeNow : plainName yX7_exchangeNow.cls = true := by decide +kernel
theorem ndX7_fault : yX7_fault.cls ≠ "java/lang/invoke/MethodHandle" ∧ yX7_fault.cls ≠ "java/lang/invoke/VarHandle" ∧ (parseMethodDescriptor yX7_fault.desc).map (fun d => d.parameters.length) = some 0 := by decide +kernel
theorem npX7_fault : plainName yX7_fault.cls = true := by decide +kernel
theorem ndX7_found : yX7_found.cls ≠ "java/lang/invoke/MethodHandle" ∧ yX7_found.cls ≠ "java/lang/invoke/VarHandle" ∧ (parseMethodDescriptor yX7_found.desc).map (fun d => d.parameters.length) = some 1 := by decide +kernel
theorem npX7_found : plainName yX7_found.cls = true := by decide +kernel
theorem ndX7_give : yX7_give.cls ≠ "java/lang/invoke/MethodHandle" ∧ yX7_give.cls ≠ "java/lang/invoke/VarHandle" ∧ (parseMethodDescriptor yX7_give.desc).map (fun d => d.parameters.length) = some 2 := by decide +kernel
theorem npX7_give : plainName yX7_give.cls = true := by decide +kernel
theorem ndX7_giveFirst : yX7_giveFirst.cls ≠ "java/lang/invoke/MethodHandle" ∧ yX7_giveFirst.cls ≠ "java/lang/invoke/VarHandle" ∧ (parseMethodDescriptor yX7_giveFirst.desc).map (fun d => d.parameters.length) = some 1 := by decide +kernel
theorem npX7_giveFirst : plainName yX7_giveFirst.cls = true := by decide +kernel
theorem ndX7_identify : yX7_identify.cls ≠ "java/lang/invoke/MethodHandle" ∧ yX7_identify.cls ≠ "java/lang/invoke/VarHandle" ∧ (parseMethodDescriptor yX7_identify.desc).map (fun d => d.parameters.length) = some 0 := by decide +kernel
theorem npX7_identify : plainName yX7_identify.cls = true := by decide +kernel
theorem ndX7_identifyNow : yX7_identifyNow.cls ≠ "java/lang/invoke/MethodHandle" ∧ yX7_identifyNow.cls ≠ "java/lang/invoke/VarHandle" ∧ (parseMethodDescriptor yX7_identifyNow.desc).map (fun d => d.parameters.length) = some 0 := by decide +kernel
theorem npX7_identifyNow : plainName yX7_identifyNow.cls = true := by decide +kernel
theorem ndX7_ifExchanged : yX7_ifExchanged.cls ≠ "java/lang/invoke/MethodHandle" ∧ yX7_ifExchanged.cls ≠ "java/lang/invoke/VarHandle" ∧ (parseMethodDescriptor yX7_ifExchanged.desc).map (fun d => d.parameters.length) = some 2 := by decide +kernel
theorem npX7_ifExchanged : plainName yX7_ifExchanged.cls = true := by decide +kernel
theorem ndX7_ifIdentified : yX7_ifIdentified.cls ≠ "java/lang/invoke/MethodHandle" ∧ yX7_ifIdentified.cls ≠ "java/lang/invoke/VarHandle" ∧ (parseMethodDescriptor yX7_ifIdentified.desc).map (fun d => d.parameters.length) = some 0 := by decide +kernel
theorem npX7_ifIdentified : plainName yX7_ifIdentified.cls = true := by decide +kernel
theorem ndX7_in : yX7_in.cls ≠ "java/lang/invoke/MethodHandle" ∧ yX7_in.cls ≠ "java/lang/invoke/VarHandle" ∧ (parseMethodDescriptor yX7_in.desc).map (fun d => d.parameters.length) = some 3 := by decide +kernel
theorem npX7_in : plainName yX7_in.cls = true := by decide +kernel
theorem ndX7_isChip : yX7_isChip.cls ≠ "java/lang/invoke/MethodHandle" ∧ yX7_isChip.cls ≠ "java/lang/invoke/VarHandle" ∧ (parseMethodDescriptor yX7_isChip.desc).map (fun d => d.parameters.length) = some 1 := by decide +kernel
theorem npX7_isChip : plainName yX7_isChip.cls = true := by decide +kernel
theorem ndX7_isShifting : yX7_isShifting.cls ≠ "java/lang/invoke/MethodHandle" ∧ yX7_isShifting.cls ≠ "java/lang/invoke/VarHandle" ∧ (parseMethodDescriptor yX7_isShifting.desc).map (fun d => d.parameters.length) = some 0 := by decide +kernel
theorem npX7_isShifting : plainName yX7_isShifting.cls = true := by decide +kernel
theorem ndX7_lay : yX7_lay.cls ≠ "java/lang/invoke/MethodHandle" ∧ yX7_lay.cls ≠ "java/lang/invoke/VarHandle" ∧ (parseMethodDescriptor yX7_lay.desc).map (fun d => d.parameters.length) = some 3 := by decide +kernel
theorem npX7_lay : plainName yX7_lay.cls = true := by decide +kernel
theorem ndX7_load : yX7_load.cls ≠ "java/lang/invoke/MethodHandle" ∧ yX7_load.cls ≠ "java/lang/invoke/VarHandle" ∧ (parseMethodDescriptor yX7_load.desc).map (fun d => d.parameters.length) = some 2 := by decide +kernel
theorem npX7_load : plainName yX7_load.cls = true := by decide +kernel
theorem ndX7_measure : yX7_measure.cls ≠ "java/lang/invoke/MethodHandle" ∧ yX7_measure.cls ≠ "java/lang/invoke/VarHandle" ∧ (parseMethodDescriptor yX7_measure.desc).map (fun d => d.parameters.length) = some 1 := by decide +kernel
theorem npX7_measure : plainName yX7_measure.cls = true := by decide +kernel
theorem ndX7_move : yX7_move.cls ≠ "java/lang/invoke/MethodHandle" ∧ yX7_move.cls ≠ "java/lang/invoke/VarHandle" ∧ (parseMethodDescriptor yX7_move.desc).map (fun d => d.parameters.length) = some 1 := by decide +kernel
theorem npX7_move : plainName yX7_move.cls = true := by decide +kernel
theorem ndX7_moveNow : yX7_moveNow.cls ≠ "java/lang/invoke/MethodHandle" ∧ yX7_moveNow.cls ≠ "java/lang/invoke/VarHandle" ∧ (parseMethodDescriptor yX7_moveNow.desc).map (fun d => d.parameters.length) = some 1 := by decide +kernel
theorem npX7_moveNow : plainName yX7_moveNow.cls = true := by decide +kernel
theorem ndX7_next : yX7_next.cls ≠ "java/lang/invoke/MethodHandle" ∧ yX7_next.cls ≠ "java/lang/invoke/VarHandle" ∧ (parseMethodDescriptor yX7_next.desc).map (fun d => d.parameters.length) = some 2 := by decide +kernel
theorem npX7_next : plainName yX7_next.cls = true := by decide +kernel
theorem ndX7_of : yX7_of.cls ≠ "java/lang/invoke/MethodHandle" ∧ yX7_of.cls ≠ "java/lang/invoke/VarHandle" ∧ (parseMethodDescriptor yX7_of.desc).map (fun d => d.parameters.length) = some 2 := by decide +kernel
theorem npX7_of : plainName yX7_of.cls = true := by decide +kernel
theorem ndX7_ones : yX7_ones.cls ≠ "java/lang/invoke/MethodHandle" ∧ yX7_ones.cls ≠ "java/lang/invoke/VarHandle" ∧ (parseMethodDescriptor yX7_ones.desc).map (fun d => d.parameters.length) = some 1 := by decide +kernel
theorem npX7_ones : plainName yX7_ones.cls = true := by decide +kernel
theorem ndX7_output : yX7_output.cls ≠ "java/lang/invoke/MethodHandle" ∧ yX7_output.cls ≠ "java/lang/invoke/VarHandle" ∧ (parseMethodDescriptor yX7_output.desc).map (fun d => d.parameters.length) = some 1 := by decide +kernel
theorem npX7_output : plainName yX7_output.cls = true := by decide +kernel
theorem ndX7_outputOf : yX7_outputOf.cls ≠ "java/lang/invoke/MethodHandle" ∧ yX7_outputOf.cls ≠ "java/lang/invoke/VarHandle" ∧ (parseMethodDescriptor yX7_outputOf.desc).map (fun d => d.parameters.length) = some 1 := by decide +kernel
theorem npX7_outputOf : plainName yX7_outputOf.cls = true := by decide +kernel
theorem ndX7_peek : yX7_peek.cls ≠ "java/lang/invoke/MethodHandle" ∧ yX7_peek.cls ≠ "java/lang/invoke/VarHandle" ∧ (parseMethodDescriptor yX7_peek.desc).map (fun d => d.parameters.length) = some 1 := by decide +kernel
theorem npX7_peek : plainName yX7_peek.cls = true := by decide +kernel
theorem ndX7_readOne : yX7_readOne.cls ≠ "java/lang/invoke/MethodHandle" ∧ yX7_readOne.cls ≠ "java/lang/invoke/VarHandle" ∧ (parseMethodDescriptor yX7_readOne.desc).map (fun d => d.parameters.length) = some 0 := by decide +kernel
theorem npX7_readOne : plainName yX7_readOne.cls = true := by decide +kernel
theorem ndX7_record : yX7_record.cls ≠ "java/lang/invoke/MethodHandle" ∧ yX7_record.cls ≠ "java/lang/invoke/VarHandle" ∧ (parseMethodDescriptor yX7_record.desc).map (fun d => d.parameters.length) = some 0 := by decide +kernel
theorem npX7_record : plainName yX7_record.cls = true := by decide +kernel
theorem ndX7_restore : yX7_restore.cls ≠ "java/lang/invoke/MethodHandle" ∧ yX7_restore.cls ≠ "java/lang/invoke/VarHandle" ∧ (parseMethodDescriptor yX7_restore.desc).map (fun d => d.parameters.length) = some 0 := by decide +kernel
theorem npX7_restore : plainName yX7_restore.cls = true := by decide +kernel
theorem ndX7_run : yX7_run.cls ≠ "java/lang/invoke/MethodHandle" ∧ yX7_run.cls ≠ "java/lang/invoke/VarHandle" ∧ (parseMethodDescriptor yX7_run.desc).map (fun d => d.parameters.length) = some 0 := by decide +kernel
theorem npX7_run : plainName yX7_run.cls = true := by decide +kernel
theorem ndX7_save : yX7_save.cls ≠ "java/lang/invoke/MethodHandle" ∧ yX7_save.cls ≠ "java/lang/invoke/VarHandle" ∧ (parseMethodDescriptor yX7_save.desc).map (fun d => d.parameters.length) = some 0 := by decide +kernel
theorem npX7_save : plainName yX7_save.cls = true := by decide +kernel
theorem ndX7_selectsCells : yX7_selectsCells.cls ≠ "java/lang/invoke/MethodHandle" ∧ yX7_selectsCells.cls ≠ "java/lang/invoke/VarHandle" ∧ (parseMethodDescriptor yX7_selectsCells.desc).map (fun d => d.parameters.length) = some 1 := by decide +kernel
theorem npX7_selectsCells : plainName yX7_selectsCells.cls = true := by decide +kernel
theorem ndX7_selectsIdentity : yX7_selectsIdentity.cls ≠ "java/lang/invoke/MethodHandle" ∧ yX7_selectsIdentity.cls ≠ "java/lang/invoke/VarHandle" ∧ (parseMethodDescriptor yX7_selectsIdentity.desc).map (fun d => d.parameters.length) = some 1 := by decide +kernel
theorem npX7_selectsIdentity : plainName yX7_selectsIdentity.cls = true := by decide +kernel
theorem ndX7_setPins : yX7_setPins.cls ≠ "java/lang/invoke/MethodHandle" ∧ yX7_setPins.cls ≠ "java/lang/invoke/VarHandle" ∧ (parseMethodDescriptor yX7_setPins.desc).map (fun d => d.parameters.length) = some 2 := by decide +kernel
theorem npX7_setPins : plainName yX7_setPins.cls = true := by decide +kernel
theorem ndX7_shift : yX7_shift.cls ≠ "java/lang/invoke/MethodHandle" ∧ yX7_shift.cls ≠ "java/lang/invoke/VarHandle" ∧ (parseMethodDescriptor yX7_shift.desc).map (fun d => d.parameters.length) = some 1 := by decide +kernel
theorem npX7_shift : plainName yX7_shift.cls = true := by decide +kernel
theorem ndX7_shifted : yX7_shifted.cls ≠ "java/lang/invoke/MethodHandle" ∧ yX7_shifted.cls ≠ "java/lang/invoke/VarHandle" ∧ (parseMethodDescriptor yX7_shifted.desc).map (fun d => d.parameters.length) = some 0 := by decide +kernel
theorem npX7_shifted : plainName yX7_shifted.cls = true := by decide +kernel
theorem ndX7_sum : yX7_sum.cls ≠ "java/lang/invoke/MethodHandle" ∧ yX7_sum.cls ≠ "java/lang/invoke/VarHandle" ∧ (parseMethodDescriptor yX7_sum.desc).map (fun d => d.parameters.length) = some 1 := by decide +kernel
theorem npX7_sum : plainName yX7_sum.cls = true := by decide +kernel
theorem ndX7_take : yX7_take.cls ≠ "java/lang/invoke/MethodHandle" ∧ yX7_take.cls ≠ "java/lang/invoke/VarHandle" ∧ (parseMethodDescriptor yX7_take.desc).map (fun d => d.parameters.length) = some 1 := by decide +kernel
theorem npX7_take : plainName yX7_take.cls = true := by decide +kernel
theorem ndX7_undo : yX7_undo.cls ≠ "java/lang/invoke/MethodHandle" ∧ yX7_undo.cls ≠ "java/lang/invoke/VarHandle" ∧ (parseMethodDescriptor yX7_undo.desc).map (fun d => d.parameters.length) = some 0 := by decide +kernel
theorem npX7_undo : plainName yX7_undo.cls = true := by decide +kernel
theorem ndX7_whyNotExchange : yX7_whyNotExchange.cls ≠ "java/lang/invoke/MethodHandle" ∧ yX7_whyNotExchange.cls ≠ "java/lang/invoke/VarHandle" ∧ (parseMethodDescriptor yX7_whyNotExchange.desc).map (fun d => d.parameters.length) = some 2 := by decide +kernel
theorem npX7_whyNotExchange : plainName yX7_whyNotExchange.cls = true := by decide +kernel
theorem ndX7_work : yX7_work.cls ≠ "java/lang/invoke/MethodHandle" ∧ yX7_work.cls ≠ "java/lang/invoke/VarHandle" ∧ (parseMethodDescriptor yX7_work.desc).map (fun d => d.parameters.length) = some 1 := by decide +kernel
theorem npX7_work : plainName yX7_work.cls = true := by decide +kernel
theorem gV_L_13 : GoodIn zW (wsV RL 13 RX6 yX6_add (zws yX6_add cX6_add 4 (some .int))) := zGV zt178 zt179 zt180 zt32 zt181
theorem gS_X6_40 : GoodIn zW (va_wsS RX6 40 yX6_isWithin (zws yX6_isWithin cX6_isWithin 3 (some .boolean))) := zGS zt182 zt183 zt32 zt184
theorem gS_X6_44 : GoodIn zW (va_wsS RX6 44 yX6_isIdentity (zws yX6_isIdentity cX6_isIdentity 1 (some .boolean))) := zGS zt185 zt186 zt32 zt187
theorem gV_X6_52 : GoodIn zW (wsV RX6 52 RX3 yX3_record (zws yX3_record cX3_record 2 none)) := zGV zt188 zt189 zt190 zt35 zt191
theorem gV_X3_22 : GoodIn zW (wsV RX3 22 RX3 yX3_dropOldest (zws yX3_dropOldest cX3_dropOldest 3 none)) := zGV zt192 zt194 zt0 zt35 zt195
theorem gV_X3_25 : GoodIn zW (wsV RX3 25 RX0 yX0_becomeCopyOf (zws yX0_becomeCopyOf cX0_becomeCopyOf 3 none)) := zGV zt196 zt197 zt198 zt33 zt199
theorem gV_X0_37 : GoodIn zW (wsV RX0 37 RX1 yX1_becomeCopyOf (zws yX1_becomeCopyOf cX1_becomeCopyOf 2 none)) := zGV zt200 zt201 zt202 zt34 zt203
theorem gV_X6_56 : GoodIn zW (wsV RX6 56 RX0 yX0_putBehind (zws yX0_putBehind cX0_putBehind 5 (some .int))) := zGV zt204 zt205 zt206 zt33 zt207
theorem gV_X0_41 : GoodIn zW (wsV RX0 41 RX1 yX1_beNew (zws yX1_beNew cX1_beNew 4 none)) := zGV zt208 zt209 zt210 zt34 zt211
theorem gV_X1_34 : GoodIn zW (wsV RX1 34 RX1 yX1_giveFirstInstruction (zws yX1_giveFirstInstruction cX1_giveFirstInstruction 1 none)) := zGV zt212 zt213 zt214 zt34 zt215
theorem gV_X1_54 : GoodIn zW (wsV RX1 54 RX1 yX1_giveInstruction (zws yX1_giveInstruction cX1_giveInstruction 2 none)) := zGV zt219 zt220 zt221 zt34 zt222
theorem gV_L_18 : GoodIn zW (wsV RL 18 RX6 yX6_take (zws yX6_take cX6_take 2 (some .int))) := zGV zt223 zt224 zt225 zt32 zt226
theorem gV_X6_60 : GoodIn zW (wsV RX6 60 RX0 yX0_has (zws yX0_has cX0_has 2 (some .boolean))) := zGV zt227 zt228 zt229 zt33 zt230
theorem gV_X6_63 : GoodIn zW (wsV RX6 63 RX0 yX0_takeOut (zws yX0_takeOut cX0_takeOut 4 (some .int))) := zGV zt231 zt232 zt233 zt33 zt234
theorem gV_L_23 : GoodIn zW (wsV RL 23 RX6 yX6_setPins (zws yX6_setPins cX6_setPins 3 (some .int))) := zGV zt235 zt236 zt237 zt32 zt238
theorem gV_X6_71 : GoodIn zW (wsV RX6 71 RX1 yX1_changePins (zws yX1_changePins cX1_changePins 3 (some .int))) := zGV zt239 zt240 zt241 zt34 zt242
theorem gV_L_28 : GoodIn zW (wsV RL 28 RX6 yX6_breakChip (zws yX6_breakChip cX6_breakChip 3 (some .int))) := zGV zt243 zt244 zt245 zt32 zt246
theorem gV_X6_79 : GoodIn zW (wsV RX6 79 RX0 yX0_brokenChips (zws yX0_brokenChips cX0_brokenChips 3 (some .int))) := zGV zt247 zt248 zt249 zt33 zt250
theorem gV_L_33 : GoodIn zW (wsV RL 33 RX6 yX6_clock (zws yX6_clock cX6_clock 3 (some .int))) := zGV zt251 zt252 zt253 zt32 zt254
theorem gV_X6_83 : GoodIn zW (wsV RX6 83 RX0 yX0_tick (zws yX0_tick cX0_tick 4 (some .int))) := zGV zt255 zt256 zt257 zt33 zt258
theorem gV_X0_63 : GoodIn zW (wsV RX0 63 RX0 yX0_outputWith (zws yX0_outputWith cX0_outputWith 3 (some .int))) := zGV zt259 zt260 zt261 zt33 zt262
theorem gV_X0_75 : GoodIn zW (wsV RX0 75 RX1 yX1_dataOutput (zws yX1_dataOutput cX1_dataOutput 1 (some .int))) := zGV zt263 zt264 zt265 zt34 zt266
theorem gV_X0_78 : GoodIn zW (wsV RX0 78 RX1 yX1_codeOutput (zws yX1_codeOutput cX1_codeOutput 1 (some .int))) := zGV zt267 zt268 zt269 zt34 zt270
theorem gV_X0_67 : GoodIn zW (wsV RX0 67 RX0 yX0_work (zws yX0_work cX0_work 3 none)) := zGV zt271 zt273 zt1 zt33 zt274
theorem gV_X0_81 : GoodIn zW (wsV RX0 81 RX0 yX0_shiftAllData (zws yX0_shiftAllData cX0_shiftAllData 5 none)) := zGV zt275 zt277 zt2 zt33 zt278
theorem gV_X0_105 : GoodIn zW (wsV RX0 105 RX1 yX1_shiftData (zws yX1_shiftData cX1_shiftData 2 none)) := zGV zt279 zt280 zt281 zt34 zt282
theorem gV_X1_58 : GoodIn zW (wsV RX1 58 RX1 yX1_dataBits (zws yX1_dataBits cX1_dataBits 1 (some .int))) := zGV zt283 zt284 zt285 zt34 zt286
theorem gV_X1_47 : GoodIn zW (wsV RX1 47 RX1 yX1_selectsCells (zws yX1_selectsCells cX1_selectsCells 1 (some .boolean))) := zGV zt287 zt288 zt289 zt34 zt290
theorem gV_X1_51 : GoodIn zW (wsV RX1 51 RX1 yX1_selectsIdentity (zws yX1_selectsIdentity cX1_selectsIdentity 1 (some .boolean))) := zGV zt291 zt292 zt293 zt34 zt294
theorem gS_X1_62 : GoodIn zW (va_wsS RX1 62 yX1_shifted (zws yX1_shifted cX1_shifted 3 (some .int))) := zGS zt295 zt296 zt34 zt297
theorem gV_X0_84 : GoodIn zW (wsV RX0 84 RX0 yX0_shiftAllCodes (zws yX0_shiftAllCodes cX0_shiftAllCodes 5 none)) := zGV zt298 zt300 zt3 zt33 zt301
theorem gV_X0_108 : GoodIn zW (wsV RX0 108 RX1 yX1_shiftCode (zws yX1_shiftCode cX1_shiftCode 2 none)) := zGV zt302 zt303 zt304 zt34 zt305
theorem gV_X0_87 : GoodIn zW (wsV RX0 87 RX0 yX0_workOf (zws yX0_workOf cX0_workOf 2 none)) := zGV zt306 zt308 zt4 zt33 zt309
theorem gV_X0_90 : GoodIn zW (wsV RX0 90 RX1 yX1_giveFirstInstruction (zws yX1_giveFirstInstruction cX1_giveFirstInstruction 1 none)) := zGV zt310 zt213 zt214 zt34 zt215
theorem gV_X0_93 : GoodIn zW (wsV RX0 93 RX1 yX1_captureData (zws yX1_captureData cX1_captureData 1 none)) := zGV zt311 zt312 zt313 zt34 zt314
theorem gV_X0_96 : GoodIn zW (wsV RX0 96 RX1 yX1_updateData (zws yX1_updateData cX1_updateData 1 none)) := zGV zt315 zt316 zt317 zt34 zt318
theorem gV_X0_102 : GoodIn zW (wsV RX0 102 RX1 yX1_giveInstruction (zws yX1_giveInstruction cX1_giveInstruction 2 none)) := zGV zt319 zt220 zt221 zt34 zt222
theorem gS_X0_71 : GoodIn zW (va_wsS RX0 71 yX2_next (zws yX2_next cX2_next 2 (some .int))) := zGS zt320 zt321 zt38 zt322
theorem gS_X2_9 : GoodIn zW (va_wsS RX2 9 yX2_isState (zws yX2_isState cX2_isState 1 (some .boolean))) := zGS zt323 zt324 zt38 zt325
theorem gV_L_37 : GoodIn zW (wsV RL 37 RX6 yX6_move (zws yX6_move cX6_move 2 (some .int))) := zGV zt330 zt331 zt332 zt32 zt333
theorem gS_X6_87 : GoodIn zW (va_wsS RX6 87 yX2_isState (zws yX2_isState cX2_isState 1 (some .boolean))) := zGS zt334 zt324 zt38 zt325
theorem gS_X6_92 : GoodIn zW (va_wsS RX6 92 yX4_goTo (zws yX4_goTo cX4_goTo 6 (some .int))) := zGS zt335 zt336 zt39 zt337
theorem gS_X4_15 : GoodIn zW (va_wsS RX4 15 yX2_clocksBetween (zws yX2_clocksBetween cX2_clocksBetween 4 (some .int))) := zGS zt338 zt339 zt38 zt340
theorem gS_X2_20 : GoodIn zW (va_wsS RX2 20 yX2_nextOfAll (zws yX2_nextOfAll cX2_nextOfAll 3 (some .int))) := zGS zt341 zt342 zt38 zt343
theorem gS_X2_24 : GoodIn zW (va_wsS RX2 24 yX2_next (zws yX2_next cX2_next 2 (some .int))) := zGS zt344 zt321 zt38 zt322
theorem gS_X4_21 : GoodIn zW (va_wsS RX4 21 yX2_next (zws yX2_next cX2_next 2 (some .int))) := zGS zt345 zt321 zt38 zt322
theorem gV_X4_24 : GoodIn zW (wsV RX4 24 RX0 yX0_tick (zws yX0_tick cX0_tick 4 (some .int))) := zGV zt346 zt256 zt257 zt33 zt258
theorem gV_L_41 : GoodIn zW (wsV RL 41 RX6 yX6_identify (zws yX6_identify cX6_identify 1 (some .int))) := zGV zt347 zt348 zt349 zt32 zt350
theorem gS_X6_98 : GoodIn zW (va_wsS RX6 98 yX4_readIdentities (zws yX4_readIdentities cX4_readIdentities 3 (some .int))) := zGS zt351 zt352 zt39 zt353
theorem gS_X4_29 : GoodIn zW (va_wsS RX4 29 yX4_goTo (zws yX4_goTo cX4_goTo 6 (some .int))) := zGS zt354 zt336 zt39 zt337
theorem gV_X4_33 : GoodIn zW (wsV RX4 33 RX0 yX0_forgetIdentities (zws yX0_forgetIdentities cX0_forgetIdentities 1 none)) := zGV zt355 zt356 zt357 zt33 zt358
theorem gS_X4_36 : GoodIn zW (va_wsS RX4 36 yX4_readIdentity (zws yX4_readIdentity cX4_readIdentity 2 (some .int))) := zGS zt359 zt360 zt39 zt361
theorem gS_X4_51 : GoodIn zW (va_wsS RX4 51 yX4_shiftThrough (zws yX4_shiftThrough cX4_shiftThrough 7 (some .int))) := zGS zt363 zt364 zt39 zt365
theorem gV_X4_40 : GoodIn zW (wsV RX4 40 RX0 yX0_keepIdentity (zws yX0_keepIdentity cX0_keepIdentity 2 none)) := zGV zt366 zt367 zt368 zt33 zt369
theorem gV_L_46 : GoodIn zW (wsV RL 46 RX6 yX6_load (zws yX6_load cX6_load 3 (some .int))) := zGV zt370 zt371 zt372 zt32 zt373
theorem gS_X6_102 : GoodIn zW (va_wsS RX6 102 yX4_loadInstruction (zws yX4_loadInstruction cX4_loadInstruction 6 none)) := zGS zt374 zt375 zt39 zt376
theorem gV_X6_106 : GoodIn zW (wsV RX6 106 RX1 yX1_dataBits (zws yX1_dataBits cX1_dataBits 1 (some .int))) := zGV zt377 zt284 zt285 zt34 zt286
theorem gV_L_50 : GoodIn zW (wsV RL 50 RX6 yX6_exchange (zws yX6_exchange cX6_exchange 4 (some .int))) := zGV zt378 zt379 zt380 zt32 zt381
theorem gV_X6_109 : GoodIn zW (wsV RX6 109 RX6 yX6_exchangeError (zws yX6_exchangeError cX6_exchangeError 3 (some .int))) := zGV zt382 zt384 zt5 zt32 zt385
theorem gS_X6_112 : GoodIn zW (va_wsS RX6 112 yX4_exchangeData (zws yX4_exchangeData cX4_exchangeData 7 (some .int))) := zGS zt386 zt387 zt39 zt388
theorem gV_X4_67 : GoodIn zW (wsV RX4 67 RX1 yX1_dataBits (zws yX1_dataBits cX1_dataBits 1 (some .int))) := zGV zt389 zt284 zt285 zt34 zt286
theorem gV_L_54 : GoodIn zW (wsV RL 54 RX6 yX6_append (zws yX6_append cX6_append 2 (some .int))) := zGV zt390 zt391 zt392 zt32 zt393
theorem gV_X6_119 : GoodIn zW (wsV RX6 119 RX5 yX5_write (zws yX5_write cX5_write 2 (some .int))) := zGV zt394 zt395 zt396 zt36 zt397
theorem gV_L_58 : GoodIn zW (wsV RL 58 RX6 yX6_clearText (zws yX6_clearText cX6_clearText 1 (some .int))) := zGV zt398 zt399 zt400 zt32 zt401
theorem gV_X6_122 : GoodIn zW (wsV RX6 122 RX5 yX5_wipe (zws yX5_wipe cX5_wipe 2 (some .int))) := zGV zt402 zt403 zt404 zt36 zt405
theorem gV_L_62 : GoodIn zW (wsV RL 62 RX6 yX6_fault (zws yX6_fault cX6_fault 1 (some .int))) := zGV zt406 zt407 zt408 zt32 zt409
theorem gV_X6_125 : GoodIn zW (wsV RX6 125 RX5 yX5_firstFault (zws yX5_firstFault cX5_firstFault 5 (some .int))) := zGV zt410 zt411 zt412 zt36 zt413
theorem gS_X5_19 : GoodIn zW (va_wsS RX5 19 yX5_hexValue (zws yX5_hexValue cX5_hexValue 1 (some .int))) := zGS zt414 zt415 zt36 zt416
theorem gS_X5_23 : GoodIn zW (va_wsS RX5 23 yX5_startsItem (zws yX5_startsItem cX5_startsItem 1 (some .boolean))) := zGS zt417 zt418 zt36 zt419
theorem gV_L_66 : GoodIn zW (wsV RL 66 RX6 yX6_run (zws yX6_run cX6_run 2 (some .int))) := zGV zt420 zt421 zt422 zt32 zt423
theorem gS_X6_128 : GoodIn zW (va_wsS RX6 128 yX4_carryOut (zws yX4_carryOut cX4_carryOut 7 (some .int))) := zGS zt424 zt425 zt39 zt426
theorem gV_X4_80 : GoodIn zW (wsV RX4 80 RX5 yX5_hexAt (zws yX5_hexAt cX5_hexAt 2 (some .int))) := zGV zt427 zt428 zt429 zt36 zt430
theorem gS_X4_83 : GoodIn zW (va_wsS RX4 83 yX4_clockItem (zws yX4_clockItem cX4_clockItem 4 none)) := zGS zt431 zt432 zt39 zt433
theorem gV_L_70 : GoodIn zW (wsV RL 70 RX6 yX6_undo (zws yX6_undo cX6_undo 1 (some .int))) := zGV zt434 zt435 zt436 zt32 zt437
theorem gV_X6_132 : GoodIn zW (wsV RX6 132 RX3 yX3_takeBack (zws yX3_takeBack cX3_takeBack 2 (some .int))) := zGV zt438 zt439 zt440 zt35 zt441
theorem gV_L_74 : GoodIn zW (wsV RL 74 RX6 yX6_save (zws yX6_save cX6_save 1 (some .int))) := zGV zt442 zt443 zt444 zt32 zt445
theorem gV_X6_135 : GoodIn zW (wsV RX6 135 RX0 yX0_becomeCopyOf (zws yX0_becomeCopyOf cX0_becomeCopyOf 3 none)) := zGV zt446 zt197 zt198 zt33 zt199
theorem gV_L_78 : GoodIn zW (wsV RL 78 RX6 yX6_restore (zws yX6_restore cX6_restore 1 (some .int))) := zGV zt447 zt448 zt449 zt32 zt450
theorem gV_L_82 : GoodIn zW (wsV RL 82 RX6 yX6_chip (zws yX6_chip cX6_chip 3 (some .int))) := zGV zt451 zt452 zt453 zt32 zt454
theorem gV_X6_138 : GoodIn zW (wsV RX6 138 RX1 yX1_tell (zws yX1_tell cX1_tell 2 (some .int))) := zGV zt455 zt456 zt457 zt34 zt458
theorem gV_L_86 : GoodIn zW (wsV RL 86 RX6 yX6_count (zws yX6_count cX6_count 2 (some .int))) := zGV zt459 zt460 zt461 zt32 zt462
theorem gV_X6_147 : GoodIn zW (wsV RX6 147 RX0 yX0_sumOfCodeLengths (zws yX0_sumOfCodeLengths cX0_sumOfCodeLengths 3 (some .int))) := zGV zt463 zt464 zt465 zt33 zt466
theorem gV_X6_150 : GoodIn zW (wsV RX6 150 RX0 yX0_sumOfDataBits (zws yX0_sumOfDataBits cX0_sumOfDataBits 3 (some .int))) := zGV zt467 zt468 zt469 zt33 zt470
theorem gV_X0_59 : GoodIn zW (wsV RX0 59 RX1 yX1_dataBits (zws yX1_dataBits cX1_dataBits 1 (some .int))) := zGV zt471 zt284 zt285 zt34 zt286
theorem gV_L_90 : GoodIn zW (wsV RL 90 RX6 yX6_found (zws yX6_found cX6_found 2 (some .int))) := zGV zt472 zt473 zt474 zt32 zt475
theorem gV_L_94 : GoodIn zW (wsV RL 94 RX6 yX6_distance (zws yX6_distance cX6_distance 3 (some .int))) := zGV zt476 zt477 zt478 zt32 zt479
theorem gS_X6_161 : GoodIn zW (va_wsS RX6 161 yX2_clocksBetween (zws yX2_clocksBetween cX2_clocksBetween 4 (some .int))) := zGS zt480 zt339 zt38 zt340
theorem gV_L_98 : GoodIn zW (wsV RL 98 RX6 yX6_peek (zws yX6_peek cX6_peek 2 (some .int))) := zGV zt481 zt482 zt483 zt32 zt484
theorem gV_X6_164 : GoodIn zW (wsV RX6 164 RX0 yX0_outputWith (zws yX0_outputWith cX0_outputWith 3 (some .int))) := zGV zt485 zt260 zt261 zt33 zt262
theorem gV_L_102 : GoodIn zW (wsV RL 102 RX6 yX6_ifIdentified (zws yX6_ifIdentified cX6_ifIdentified 1 (some .int))) := zGV zt486 zt487 zt488 zt32 zt489
theorem gV_L_106 : GoodIn zW (wsV RL 106 RX6 yX6_ifExchanged (zws yX6_ifExchanged cX6_ifExchanged 4 (some .int))) := zGV zt490 zt491 zt492 zt32 zt493
theorem gV_L_110 : GoodIn zW (wsV RL 110 RX6 yX6_bypassed (zws yX6_bypassed cX6_bypassed 1 (some .float))) := zGV zt494 zt495 zt496 zt32 zt497
theorem gV_X6_167 : GoodIn zW (wsV RX6 167 RX0 yX0_bypassedChips (zws yX0_bypassedChips cX0_bypassedChips 3 (some .int))) := zGV zt498 zt499 zt500 zt33 zt501
theorem gV_X0_52 : GoodIn zW (wsV RX0 52 RX1 yX1_selectsBypass (zws yX1_selectsBypass cX1_selectsBypass 1 (some .boolean))) := zGV zt502 zt503 zt504 zt34 zt505
theorem gV_L_73 : GoodIn zW (wsV RL 73 RX7 yX7_undo (zws yX7_undo cX7_undo 1 (some .int))) := zGV zt540 zt541 zt542 zt37 zt543
theorem gS_X7_36 : GoodIn zW (va_wsS RX7 36 yX7_copyRow (zws yX7_copyRow cX7_copyRow 5 none)) := zGS zt544 zt545 zt37 zt546
theorem gV_L_77 : GoodIn zW (wsV RL 77 RX7 yX7_save (zws yX7_save cX7_save 1 (some .int))) := zGV zt547 zt548 zt549 zt37 zt550
theorem gV_L_81 : GoodIn zW (wsV RL 81 RX7 yX7_restore (zws yX7_restore cX7_restore 1 (some .int))) := zGV zt551 zt552 zt553 zt37 zt554
theorem gV_X7_44 : GoodIn zW (wsV RX7 44 RX7 yX7_record (zws yX7_record cX7_record 2 none)) := zGV zt555 zt557 zt6 zt37 zt558
theorem gV_L_17 : GoodIn zW (wsV RL 17 RX7 yX7_add (zws yX7_add cX7_add 7 (some .int))) := zGV zt559 zt560 zt561 zt37 zt562
theorem gS_X7_28 : GoodIn zW (va_wsS RX7 28 yX7_in (zws yX7_in cX7_in 3 (some .boolean))) := zGS zt563 zt564 zt37 zt565
theorem gV_X7_58 : GoodIn zW (wsV RX7 58 RX7 yX7_lay (zws yX7_lay cX7_lay 4 none)) := zGV zt566 zt568 zt7 zt37 zt569
theorem gV_X7_70 : GoodIn zW (wsV RX7 70 RX7 yX7_giveFirst (zws yX7_giveFirst cX7_giveFirst 2 none)) := zGV zt570 zt572 zt8 zt37 zt573
theorem gV_X7_47 : GoodIn zW (wsV RX7 47 RX7 yX7_of (zws yX7_of cX7_of 3 (some .int))) := zGV zt574 zt576 zt9 zt37 zt577
theorem gS_X7_62 : GoodIn zW (va_wsS RX7 62 yX7_ones (zws yX7_ones cX7_ones 1 (some .int))) := zGS zt578 zt579 zt37 zt580
theorem gV_X7_66 : GoodIn zW (wsV RX7 66 RX7 yX7_give (zws yX7_give cX7_give 3 none)) := zGV zt581 zt583 zt10 zt37 zt584
theorem gV_L_22 : GoodIn zW (wsV RL 22 RX7 yX7_take (zws yX7_take cX7_take 4 (some .int))) := zGV zt585 zt586 zt587 zt37 zt588
theorem gV_X7_74 : GoodIn zW (wsV RX7 74 RX7 yX7_isChip (zws yX7_isChip cX7_isChip 2 (some .boolean))) := zGV zt589 zt591 zt11 zt37 zt592
theorem gV_L_27 : GoodIn zW (wsV RL 27 RX7 yX7_setPins (zws yX7_setPins cX7_setPins 4 (some .int))) := zGV zt593 zt594 zt595 zt37 zt596
theorem gV_L_32 : GoodIn zW (wsV RL 32 RX7 yX7_breakChip (zws yX7_breakChip cX7_breakChip 3 (some .int))) := zGV zt597 zt598 zt599 zt37 zt600
theorem gV_X7_77 : GoodIn zW (wsV RX7 77 RX7 yX7_sum (zws yX7_sum cX7_sum 4 (some .int))) := zGV zt601 zt603 zt12 zt37 zt604
theorem gV_L_36 : GoodIn zW (wsV RL 36 RX7 yX7_clock (zws yX7_clock cX7_clock 3 (some .int))) := zGV zt605 zt606 zt607 zt37 zt608
theorem gV_X7_106 : GoodIn zW (wsV RX7 106 RX7 yX7_clockNow (zws yX7_clockNow cX7_clockNow 5 (some .int))) := zGV zt609 zt611 zt13 zt37 zt612
theorem gV_X7_94 : GoodIn zW (wsV RX7 94 RX7 yX7_output (zws yX7_output cX7_output 2 (some .int))) := zGV zt613 zt615 zt14 zt37 zt616
theorem gV_X7_84 : GoodIn zW (wsV RX7 84 RX7 yX7_isShifting (zws yX7_isShifting cX7_isShifting 1 (some .boolean))) := zGV zt617 zt619 zt15 zt37 zt620
theorem gV_X7_88 : GoodIn zW (wsV RX7 88 RX7 yX7_outputOf (zws yX7_outputOf cX7_outputOf 2 (some .int))) := zGV zt621 zt623 zt16 zt37 zt624
theorem gV_X7_80 : GoodIn zW (wsV RX7 80 RX7 yX7_shifted (zws yX7_shifted cX7_shifted 1 (some .int))) := zGV zt625 zt627 zt17 zt37 zt628
theorem gV_X7_97 : GoodIn zW (wsV RX7 97 RX7 yX7_shift (zws yX7_shift cX7_shift 6 none)) := zGV zt629 zt631 zt18 zt37 zt632
theorem gV_X7_91 : GoodIn zW (wsV RX7 91 RX7 yX7_bits (zws yX7_bits cX7_bits 2 (some .int))) := zGV zt633 zt635 zt19 zt37 zt636
theorem gV_X7_51 : GoodIn zW (wsV RX7 51 RX7 yX7_selectsCells (zws yX7_selectsCells cX7_selectsCells 2 (some .boolean))) := zGV zt637 zt639 zt20 zt37 zt640
theorem gV_X7_55 : GoodIn zW (wsV RX7 55 RX7 yX7_selectsIdentity (zws yX7_selectsIdentity cX7_selectsIdentity 2 (some .boolean))) := zGV zt641 zt643 zt21 zt37 zt644
theorem gV_X7_100 : GoodIn zW (wsV RX7 100 RX7 yX7_work (zws yX7_work cX7_work 2 none)) := zGV zt645 zt647 zt22 zt37 zt648
theorem gS_X7_103 : GoodIn zW (va_wsS RX7 103 yX7_next (zws yX7_next cX7_next 2 (some .int))) := zGS zt649 zt650 zt37 zt651
theorem gV_L_40 : GoodIn zW (wsV RL 40 RX7 yX7_move (zws yX7_move cX7_move 2 (some .int))) := zGV zt652 zt653 zt654 zt37 zt655
theorem gV_X7_112 : GoodIn zW (wsV RX7 112 RX7 yX7_moveNow (zws yX7_moveNow cX7_moveNow 4 (some .int))) := zGV zt656 zt658 zt23 zt37 zt659
theorem gV_X7_109 : GoodIn zW (wsV RX7 109 RX7 yX7_measure (zws yX7_measure cX7_measure 6 none)) := zGV zt660 zt662 zt24 zt37 zt663
theorem gV_L_45 : GoodIn zW (wsV RL 45 RX7 yX7_identify (zws yX7_identify cX7_identify 1 (some .int))) := zGV zt664 zt665 zt666 zt37 zt667
theorem gV_X7_118 : GoodIn zW (wsV RX7 118 RX7 yX7_identifyNow (zws yX7_identifyNow cX7_identifyNow 3 none)) := zGV zt668 zt670 zt25 zt37 zt671
theorem gV_X7_115 : GoodIn zW (wsV RX7 115 RX7 yX7_readOne (zws yX7_readOne cX7_readOne 3 (some .int))) := zGV zt672 zt674 zt26 zt37 zt675
theorem gV_L_49 : GoodIn zW (wsV RL 49 RX7 yX7_load (zws yX7_load cX7_load 5 (some .int))) := zGV zt676 zt677 zt678 zt37 zt679
theorem gV_X7_121 : GoodIn zW (wsV RX7 121 RX7 yX7_clockBits (zws yX7_clockBits cX7_clockBits 7 (some .int))) := zGV zt680 zt682 zt27 zt37 zt683
theorem gV_L_53 : GoodIn zW (wsV RL 53 RX7 yX7_exchange (zws yX7_exchange cX7_exchange 4 (some .int))) := zGV zt684 zt685 zt686 zt37 zt687
theorem gV_X7_125 : GoodIn zW (wsV RX7 125 RX7 yX7_whyNotExchange (zws yX7_whyNotExchange cX7_whyNotExchange 3 (some .int))) := zGV zt688 zt690 zt28 zt37 zt691
theorem gV_X7_128 : GoodIn zW (wsV RX7 128 RX7 yX7_exchangeNow (zws yX7_exchangeNow cX7_exchangeNow 6 (some .int))) := zGV zt692 zt694 zt29 zt37 zt695
theorem gV_L_57 : GoodIn zW (wsV RL 57 RX7 yX7_append (zws yX7_append cX7_append 2 (some .int))) := zGV zt696 zt697 zt698 zt37 zt699
theorem gV_L_61 : GoodIn zW (wsV RL 61 RX7 yX7_clearText (zws yX7_clearText cX7_clearText 2 (some .int))) := zGV zt700 zt701 zt702 zt37 zt703
theorem gV_L_65 : GoodIn zW (wsV RL 65 RX7 yX7_fault (zws yX7_fault cX7_fault 5 (some .int))) := zGV zt704 zt705 zt706 zt37 zt707
theorem gS_X7_134 : GoodIn zW (va_wsS RX7 134 yX7_digit (zws yX7_digit cX7_digit 1 (some .int))) := zGS zt708 zt709 zt37 zt710
theorem gV_L_69 : GoodIn zW (wsV RL 69 RX7 yX7_run (zws yX7_run cX7_run 8 (some .int))) := zGV zt711 zt712 zt713 zt37 zt714
theorem gV_X7_137 : GoodIn zW (wsV RX7 137 RX7 yX7_fault (zws yX7_fault cX7_fault 5 (some .int))) := zGV zt715 zt705 zt706 zt37 zt707
theorem gV_L_85 : GoodIn zW (wsV RL 85 RX7 yX7_chip (zws yX7_chip cX7_chip 3 (some .int))) := zGV zt716 zt717 zt718 zt37 zt719
theorem gV_L_89 : GoodIn zW (wsV RL 89 RX7 yX7_count (zws yX7_count cX7_count 2 (some .int))) := zGV zt720 zt721 zt722 zt37 zt723
theorem gV_X7_140 : GoodIn zW (wsV RX7 140 RX7 yX7_allBits (zws yX7_allBits cX7_allBits 3 (some .int))) := zGV zt724 zt726 zt30 zt37 zt727
theorem gV_L_93 : GoodIn zW (wsV RL 93 RX7 yX7_found (zws yX7_found cX7_found 2 (some .int))) := zGV zt728 zt729 zt730 zt37 zt731
theorem gV_L_97 : GoodIn zW (wsV RL 97 RX7 yX7_distance (zws yX7_distance cX7_distance 3 (some .int))) := zGV zt732 zt733 zt734 zt37 zt735
theorem gV_L_101 : GoodIn zW (wsV RL 101 RX7 yX7_peek (zws yX7_peek cX7_peek 2 (some .int))) := zGV zt736 zt737 zt738 zt37 zt739
theorem gV_L_105 : GoodIn zW (wsV RL 105 RX7 yX7_ifIdentified (zws yX7_ifIdentified cX7_ifIdentified 2 (some .int))) := zGV zt740 zt741 zt742 zt37 zt743
theorem gV_L_109 : GoodIn zW (wsV RL 109 RX7 yX7_ifExchanged (zws yX7_ifExchanged cX7_ifExchanged 5 (some .int))) := zGV zt744 zt745 zt746 zt37 zt747
theorem gV_L_114 : GoodIn zW (wsV RL 114 RX7 yX7_bypassed (zws yX7_bypassed cX7_bypassed 4 (some .float))) := zGV zt748 zt749 zt750 zt37 zt751
theorem fl_X1_9 {p s m args meth c cc nL own G} (cx : Cx p s m args meth c cc nL own G) : zFL s args RX1 9 "ScanChain$Chip" "codeLength" "I" := Or.inl (cx.1.2.2.2.2 _ zt61)
theorem fl_X1_15 {p s m args meth c cc nL own G} (cx : Cx p s m args meth c cc nL own G) : zFL s args RX1 15 "ScanChain$Chip" "identity" "I" := Or.inl (cx.1.2.2.2.2 _ zt64)
theorem fl_X1_18 {p s m args meth c cc nL own G} (cx : Cx p s m args meth c cc nL own G) : zFL s args RX1 18 "ScanChain$Chip" "cells" "I" := Or.inl (cx.1.2.2.2.2 _ zt66)
theorem fl_X1_21 {p s m args meth c cc nL own G} (cx : Cx p s m args meth c cc nL own G) : zFL s args RX1 21 "ScanChain$Chip" "pins" "I" := Or.inl (cx.1.2.2.2.2 _ zt67)
theorem fl_X1_24 {p s m args meth c cc nL own G} (cx : Cx p s m args meth c cc nL own G) : zFL s args RX1 24 "ScanChain$Chip" "outputs" "I" := Or.inl (cx.1.2.2.2.2 _ zt68)
theorem fl_X1_27 {p s m args meth c cc nL own G} (cx : Cx p s m args meth c cc nL own G) : zFL s args RX1 27 "ScanChain$Chip" "isBroken" "Z" := Or.inl (cx.1.2.2.2.2 _ zt69)
theorem fl_X1_37 {p s m args meth c cc nL own G} (cx : Cx p s m args meth c cc nL own G) : zFL s args RX1 37 "ScanChain$Chip" "instruction" "I" := Or.inl (cx.1.2.2.2.2 _ zt72)
theorem fl_X1_31 {p s m args meth c cc nL own G} (cx : Cx p s m args meth c cc nL own G) : zFL s args RX1 31 "ScanChain$Chip" "codeRegister" "I" := Or.inl (cx.1.2.2.2.2 _ zt73)
theorem fl_X1_40 {p s m args meth c cc nL own G} (cx : Cx p s m args meth c cc nL own G) : zFL s args RX1 40 "ScanChain$Chip" "dataRegister" "I" := Or.inl (cx.1.2.2.2.2 _ zt75)
theorem fl_X0_11 {p s m args meth c cc nL own G} (cx : Cx p s m args meth c cc nL own G) : zFL s args RX0 11 "ScanChain$Chain" "chips" "[LScanChain$Chip;" := Or.inl (cx.1.2.2.2.2 _ zt95)
theorem fl_X0_18 {p s m args meth c cc nL own G} (cx : Cx p s m args meth c cc nL own G) : zFL s args RX0 18 "ScanChain$Chain" "size" "I" := Or.inl (cx.1.2.2.2.2 _ zt98)
theorem fl_X0_24 {p s m args meth c cc nL own G} (cx : Cx p s m args meth c cc nL own G) : zFL s args RX0 24 "ScanChain$Chain" "state" "I" := Or.inl (cx.1.2.2.2.2 _ zt101)
theorem fl_X0_27 {p s m args meth c cc nL own G} (cx : Cx p s m args meth c cc nL own G) : zFL s args RX0 27 "ScanChain$Chain" "clocks" "I" := Or.inl (cx.1.2.2.2.2 _ zt104)
theorem fl_X0_30 {p s m args meth c cc nL own G} (cx : Cx p s m args meth c cc nL own G) : zFL s args RX0 30 "ScanChain$Chain" "identities" "[I" := Or.inl (cx.1.2.2.2.2 _ zt106)
theorem fl_X0_34 {p s m args meth c cc nL own G} (cx : Cx p s m args meth c cc nL own G) : zFL s args RX0 34 "ScanChain$Chain" "identityCount" "I" := Or.inl (cx.1.2.2.2.2 _ zt108)
theorem fl_X3_11 {p s m args meth c cc nL own G} (cx : Cx p s m args meth c cc nL own G) : zFL s args RX3 11 "ScanChain$History" "records" "[LScanChain$Chain;" := Or.inl (cx.1.2.2.2.2 _ zt134)
theorem fl_X3_18 {p s m args meth c cc nL own G} (cx : Cx p s m args meth c cc nL own G) : zFL s args RX3 18 "ScanChain$History" "size" "I" := Or.inl (cx.1.2.2.2.2 _ zt135)
theorem fl_X5_9 {p s m args meth c cc nL own G} (cx : Cx p s m args meth c cc nL own G) : zFL s args RX5 9 "ScanChain$Script" "characters" "[C" := Or.inl (cx.1.2.2.2.2 _ zt148)
theorem fl_X5_15 {p s m args meth c cc nL own G} (cx : Cx p s m args meth c cc nL own G) : zFL s args RX5 15 "ScanChain$Script" "length" "I" := Or.inl (cx.1.2.2.2.2 _ zt150)
theorem fl_X6_10 {p s m args meth c cc nL own G} (cx : Cx p s m args meth c cc nL own G) : zFL s args RX6 10 "ScanChain" "chain" "LScanChain$Chain;" := Or.inl (cx.1.2.2.2.2 _ zt159)
theorem fl_X6_16 {p s m args meth c cc nL own G} (cx : Cx p s m args meth c cc nL own G) : zFL s args RX6 16 "ScanChain" "trial" "LScanChain$Chain;" := Or.inl (cx.1.2.2.2.2 _ zt160)
theorem fl_X6_19 {p s m args meth c cc nL own G} (cx : Cx p s m args meth c cc nL own G) : zFL s args RX6 19 "ScanChain" "snapshot" "LScanChain$Chain;" := Or.inl (cx.1.2.2.2.2 _ zt161)
theorem fl_X6_22 {p s m args meth c cc nL own G} (cx : Cx p s m args meth c cc nL own G) : zFL s args RX6 22 "ScanChain" "hasSnapshot" "Z" := Or.inl (cx.1.2.2.2.2 _ zt162)
theorem fl_X6_29 {p s m args meth c cc nL own G} (cx : Cx p s m args meth c cc nL own G) : zFL s args RX6 29 "ScanChain" "history" "LScanChain$History;" := Or.inl (cx.1.2.2.2.2 _ zt163)
theorem fl_X6_36 {p s m args meth c cc nL own G} (cx : Cx p s m args meth c cc nL own G) : zFL s args RX6 36 "ScanChain" "script" "LScanChain$Script;" := Or.inl (cx.1.2.2.2.2 _ zt164)
theorem fl_X2_13 {p s m args meth c cc nL own G} (cx : Cx p s m args meth c cc nL own G) : zFL s args RX2 13 "ScanChain$Controller" "NEXT_BY_MODE_0" "[I" := Or.inl (cx.1.2.2.2.2 _ zt326)
theorem fl_X2_17 {p s m args meth c cc nL own G} (cx : Cx p s m args meth c cc nL own G) : zFL s args RX2 17 "ScanChain$Controller" "NEXT_BY_MODE_1" "[I" := Or.inl (cx.1.2.2.2.2 _ zt328)
theorem fl_X7_7 {p s m args meth c cc nL own G} (cx : Cx p s m args meth c cc nL own G) : zFL s args RX7 7 "ScanChainModel" "z" "[I" := Or.inl (cx.1.2.2.2.2 _ zt512)
theorem fl_X7_13 {p s m args meth c cc nL own G} (cx : Cx p s m args meth c cc nL own G) : zFL s args RX7 13 "ScanChainModel" "spare" "[I" := Or.inl (cx.1.2.2.2.2 _ zt513)
theorem fl_X7_16 {p s m args meth c cc nL own G} (cx : Cx p s m args meth c cc nL own G) : zFL s args RX7 16 "ScanChainModel" "past" "[I" := Or.inl (cx.1.2.2.2.2 _ zt514)
theorem fl_X7_32 {p s m args meth c cc nL own G} (cx : Cx p s m args meth c cc nL own G) : zFL s args RX7 32 "ScanChainModel" "states" "I" := Or.inl (cx.1.2.2.2.2 _ zt515)
theorem fl_X7_19 {p s m args meth c cc nL own G} (cx : Cx p s m args meth c cc nL own G) : zFL s args RX7 19 "ScanChainModel" "kept" "[I" := Or.inl (cx.1.2.2.2.2 _ zt516)
theorem fl_X7_40 {p s m args meth c cc nL own G} (cx : Cx p s m args meth c cc nL own G) : zFL s args RX7 40 "ScanChainModel" "isKept" "Z" := Or.inl (cx.1.2.2.2.2 _ zt517)
theorem fl_X7_22 {p s m args meth c cc nL own G} (cx : Cx p s m args meth c cc nL own G) : zFL s args RX7 22 "ScanChainModel" "text" "[I" := Or.inl (cx.1.2.2.2.2 _ zt518)
theorem fl_X7_131 {p s m args meth c cc nL own G} (cx : Cx p s m args meth c cc nL own G) : zFL s args RX7 131 "ScanChainModel" "length" "I" := Or.inl (cx.1.2.2.2.2 _ zt519)
theorem fl_X7_25 {p s m args meth c cc nL own G} (cx : Cx p s m args meth c cc nL own G) : zFL s args RX7 25 "ScanChainModel" "far" "[I" := Or.inl (cx.1.2.2.2.2 _ zt520)
theorem ml_X0_17 {p s m args meth c cc nL own G} (cx : Cx p s m args meth c cc nL own G) : va_Nw (.methodLinkNest RX0 17 yX1_init "ScanChain") s := cx.2.1.2.1 _ (List.mem_of_getElem? (i := 0) rfl)
theorem fl_X4_62 {p s m args meth c cc nL own G} (cx : Cx p s m args meth c cc nL own G) : zFL s args RX4 62 "ScanChain$Chip" "codeLength" "I" := Or.inr ⟨_, va_Nw.use rfl (cx.2.1.2.1 _ (List.mem_of_getElem? (i := 1) rfl))⟩
theorem fl_X0_56 {p s m args meth c cc nL own G} (cx : Cx p s m args meth c cc nL own G) : zFL s args RX0 56 "ScanChain$Chip" "codeLength" "I" := Or.inr ⟨_, va_Nw.use rfl (cx.2.1.2.1 _ (List.mem_of_getElem? (i := 2) rfl))⟩
theorem fl_X0_45 {p s m args meth c cc nL own G} (cx : Cx p s m args meth c cc nL own G) : zFL s args RX0 45 "ScanChain$Chip" "identity" "I" := Or.inr ⟨_, va_Nw.use rfl (cx.2.1.2.1 _ (List.mem_of_getElem? (i := 3) rfl))⟩
theorem fl_X6_76 {p s m args meth c cc nL own G} (cx : Cx p s m args meth c cc nL own G) : zFL s args RX6 76 "ScanChain$Chip" "isBroken" "Z" := Or.inr ⟨_, va_Nw.use rfl (cx.2.1.2.1 _ (List.mem_of_getElem? (i := 4) rfl))⟩
theorem fl_X0_48 {p s m args meth c cc nL own G} (cx : Cx p s m args meth c cc nL own G) : zFL s args RX0 48 "ScanChain$Chip" "isBroken" "Z" := Or.inr ⟨_, va_Nw.use rfl (cx.2.1.2.1 _ (List.mem_of_getElem? (i := 5) rfl))⟩
theorem fl_X0_99 {p s m args meth c cc nL own G} (cx : Cx p s m args meth c cc nL own G) : zFL s args RX0 99 "ScanChain$Chip" "codeRegister" "I" := Or.inr ⟨_, va_Nw.use rfl (cx.2.1.2.1 _ (List.mem_of_getElem? (i := 6) rfl))⟩
theorem fl_X6_67 {p s m args meth c cc nL own G} (cx : Cx p s m args meth c cc nL own G) : zFL s args RX6 67 "ScanChain$Chain" "chips" "[LScanChain$Chip;" := Or.inr ⟨_, va_Nw.use rfl (cx.2.1.2.1 _ (List.mem_of_getElem? (i := 7) rfl))⟩
theorem fl_X4_58 {p s m args meth c cc nL own G} (cx : Cx p s m args meth c cc nL own G) : zFL s args RX4 58 "ScanChain$Chain" "chips" "[LScanChain$Chip;" := Or.inr ⟨_, va_Nw.use rfl (cx.2.1.2.1 _ (List.mem_of_getElem? (i := 8) rfl))⟩
theorem fl_X6_48 {p s m args meth c cc nL own G} (cx : Cx p s m args meth c cc nL own G) : zFL s args RX6 48 "ScanChain$Chain" "size" "I" := Or.inr ⟨_, va_Nw.use rfl (cx.2.1.2.1 _ (List.mem_of_getElem? (i := 9) rfl))⟩
theorem fl_X4_55 {p s m args meth c cc nL own G} (cx : Cx p s m args meth c cc nL own G) : zFL s args RX4 55 "ScanChain$Chain" "size" "I" := Or.inr ⟨_, va_Nw.use rfl (cx.2.1.2.1 _ (List.mem_of_getElem? (i := 10) rfl))⟩
theorem fl_X4_9 {p s m args meth c cc nL own G} (cx : Cx p s m args meth c cc nL own G) : zFL s args RX4 9 "ScanChain$Chain" "state" "I" := Or.inr ⟨_, va_Nw.use rfl (cx.2.1.2.1 _ (List.mem_of_getElem? (i := 11) rfl))⟩
theorem fl_X6_141 {p s m args meth c cc nL own G} (cx : Cx p s m args meth c cc nL own G) : zFL s args RX6 141 "ScanChain$Chain" "state" "I" := Or.inr ⟨_, va_Nw.use rfl (cx.2.1.2.1 _ (List.mem_of_getElem? (i := 12) rfl))⟩
theorem fl_X6_144 {p s m args meth c cc nL own G} (cx : Cx p s m args meth c cc nL own G) : zFL s args RX6 144 "ScanChain$Chain" "clocks" "I" := Or.inr ⟨_, va_Nw.use rfl (cx.2.1.2.1 _ (List.mem_of_getElem? (i := 13) rfl))⟩
theorem fl_X6_157 {p s m args meth c cc nL own G} (cx : Cx p s m args meth c cc nL own G) : zFL s args RX6 157 "ScanChain$Chain" "identities" "[I" := Or.inr ⟨_, va_Nw.use rfl (cx.2.1.2.1 _ (List.mem_of_getElem? (i := 14) rfl))⟩
theorem fl_X4_44 {p s m args meth c cc nL own G} (cx : Cx p s m args meth c cc nL own G) : zFL s args RX4 44 "ScanChain$Chain" "identityCount" "I" := Or.inr ⟨_, va_Nw.use rfl (cx.2.1.2.1 _ (List.mem_of_getElem? (i := 15) rfl))⟩
theorem fl_X6_153 {p s m args meth c cc nL own G} (cx : Cx p s m args meth c cc nL own G) : zFL s args RX6 153 "ScanChain$Chain" "identityCount" "I" := Or.inr ⟨_, va_Nw.use rfl (cx.2.1.2.1 _ (List.mem_of_getElem? (i := 16) rfl))⟩
theorem fl_X6_156 {p s m args meth c cc nL own G} (cx : Cx p s m args meth c cc nL own G) : zFL s args RX6 156 "ScanChain$History" "size" "I" := Or.inr ⟨_, va_Nw.use rfl (cx.2.1.2.1 _ (List.mem_of_getElem? (i := 17) rfl))⟩
theorem fl_X4_76 {p s m args meth c cc nL own G} (cx : Cx p s m args meth c cc nL own G) : zFL s args RX4 76 "ScanChain$Script" "characters" "[C" := Or.inr ⟨_, va_Nw.use rfl (cx.2.1.2.1 _ (List.mem_of_getElem? (i := 18) rfl))⟩
theorem fl_X4_71 {p s m args meth c cc nL own G} (cx : Cx p s m args meth c cc nL own G) : zFL s args RX4 71 "ScanChain$Script" "length" "I" := Or.inr ⟨_, va_Nw.use rfl (cx.2.1.2.1 _ (List.mem_of_getElem? (i := 19) rfl))⟩
theorem fl_X6_116 {p s m args meth c cc nL own G} (cx : Cx p s m args meth c cc nL own G) : zFL s args RX6 116 "ScanChain$Script" "length" "I" := Or.inr ⟨_, va_Nw.use rfl (cx.2.1.2.1 _ (List.mem_of_getElem? (i := 20) rfl))⟩
theorem ml_X1_43 {p s m args meth c cc nL own G} (cx : Cx p s m args meth c cc nL own G) : va_Nw (.methodLinkNest RX1 43 yX6_allOnes "ScanChain") s := cx.2.1.2.1 _ (List.mem_of_getElem? (i := 21) rfl)
theorem ml_X4_47 {p s m args meth c cc nL own G} (cx : Cx p s m args meth c cc nL own G) : va_Nw (.methodLinkNest RX4 47 yX6_allOnes "ScanChain") s := cx.2.1.2.1 _ (List.mem_of_getElem? (i := 22) rfl)
end
section
def hset (h : zH) (i j : Nat) (x : va_E) : zH := fun i' j' => if i' = i ∧ j' = j then x else h i' j'
theorem HW.one {G : zG} {n i j : Nat} {h : zH} {H : Heap} {x : va_E} (hW : HW G n h H) (hok : zok i j) (hn : zix i j < n) (hp : h i j = x) : va_P G.1 vwCl [(zad G i j, x)] H := by
  intro k q hk
  cases k with
  | zero =>
    simp at hk
    subst hk
    rw [← hp]
    exact hW.2 i j hok hn
  | succ k => simp at hk
theorem HW.set {G : zG} {n i j : Nat} {h h' : zH} {H H1 : Heap} {x : va_E} (hW : HW G n h H) (hok : zok i j) (hn : zix i j < n) (z : H1.size = H.size) (he : va_at G.1 vwCl (zad G i j, x) H1) (oq : ∀ q : Nat, q ≠ zad G i j → H1[q]? = H[q]?) (hh : ∀ i' j', zok i' j' → zix i' j' < n → h' i' j' = hset h i j x i' j') : HW G n h' H1 := by
  refine ⟨z.trans hW.1, fun i' j' hok' hn' => ?_⟩
  rw [hh i' j' hok' hn']
  unfold hset
  by_cases hc : i' = i ∧ j' = j
  · rw [if_pos hc]
    obtain ⟨rfl, rfl⟩ := hc
    exact he
  · rw [if_neg hc]
    refine (hW.2 i' j' hok' hn').kept (oq _ fun e => hc ?_)
    exact zix_inj hok' hok (Nat.add_left_cancel e)
theorem HW.conv {G : zG} {n : Nat} {h h' : zH} {H : Heap} (hW : HW G n h H) (hh : ∀ i j, zok i j → zix i j < n → h' i j = h i j) : HW G n h' H :=
  ⟨hW.1, fun i j h1 h2 => by rw [hh i j h1 h2]; exact hW.2 i j h1 h2⟩
theorem lo1_set {ls : List (Option Value)} {i : Nat} {v : Value} (h : lo1 ls = true) (hv : v.category = 1) : lo1 (ls.set i (some v)) = true := by
  unfold lo1 at h ⊢
  rw [List.all_eq_true] at h ⊢
  intro o ho
  rcases List.mem_or_eq_of_mem_set ho with h1 | h1
  · exact h o h1
  · subst h1
    simp [hv]
section ZJ
variable {p : Program} {l : Launch} {e : Env} {R : Room} {s : State} {m : MethodId} {args : Array Value} {below : List Frame} {meth : Method} {c : Code} {cc : ByteArray} {nL : Nat} {own : String} {G : zG} {Q : State → Prop} {cells slots n : Nat} {h h' : zH} {pc : Nat} {ls ls' : List (Option Value)} {st rest : List Value}
theorem x_conv (hh : ∀ i j, zok i j → zix i j < n → h' i j = h i j) (kk : Xh p l e R s m args below meth c nL G Q cells slots n h' pc ls st) : Xh p l e R s m args below meth c nL G Q cells slots n h pc ls st :=
  fun H locs lsA hW hS hl h1 => kk H locs lsA (hW.conv hh) hS hl h1
theorem x_as (hh : h' = h) (kk : Xh p l e R s m args below meth c nL G Q cells slots n h' pc ls st) : Xh p l e R s m args below meth c nL G Q cells slots n h pc ls st := hh ▸ kk
/-- fewer locals are known -/
theorem x_ls (hs : lo1 ls' = true) (hm : ∀ q ∈ lo 0 ls', q ∈ lo 0 ls) (kk : Xh p l e R s m args below meth c nL G Q cells slots n h pc ls' st) : Xh p l e R s m args below meth c nL G Q cells slots n h pc ls st :=
  fun H locs lsA hW hS hl _ => kk H locs lsA hW hS (lo_sub hl hm) hs
theorem x_iconst (cx : Cx p s m args meth c cc nL own G) {k : Int} {v : Int32} (d : decode cc pc = .ok (.iconst k, 1)) (hv : Int32.ofInt k = v) (kk : Xh p l e R s m args below meth c nL G Q cells slots n h (pc + 1) ls (.int v :: st)) : Xh p l e R s m args below meth c nL G Q cells slots n h pc ls (st) := fun H locs lsA hW hS hl h1 => lv_iconst cx.1.1 cx.1.2.1 d hv (kk H locs lsA hW hS hl h1)
theorem x_bipush (cx : Cx p s m args meth c cc nL own G) {k : Int} {v : Int32} (d : decode cc pc = .ok (.bipush k, 2)) (hv : (Int8.ofInt k).toInt32 = v) (kk : Xh p l e R s m args below meth c nL G Q cells slots n h (pc + 2) ls (.int v :: st)) : Xh p l e R s m args below meth c nL G Q cells slots n h pc ls (st) := fun H locs lsA hW hS hl h1 => lv_bipush cx.1.1 cx.1.2.1 d hv (kk H locs lsA hW hS hl h1)
theorem x_sipush (cx : Cx p s m args meth c cc nL own G) {k : Int} {v : Int32} (d : decode cc pc = .ok (.sipush k, 3)) (hv : (Int16.ofInt k).toInt32 = v) (kk : Xh p l e R s m args below meth c nL G Q cells slots n h (pc + 3) ls (.int v :: st)) : Xh p l e R s m args below meth c nL G Q cells slots n h pc ls (st) := fun H locs lsA hW hS hl h1 => lv_sipush cx.1.1 cx.1.2.1 d hv (kk H locs lsA hW hS hl h1)
theorem x_iload_n (cx : Cx p s m args meth c cc nL own G) {k : Fin 4} {i : Nat} {x : Int32} (d : decode cc pc = .ok (.iload_n k, 1)) (hi : (k : Nat) = i) (hv : ls[i]? = some (some (.int x))) (kk : Xh p l e R s m args below meth c nL G Q cells slots n h (pc + 1) ls (.int x :: st)) : Xh p l e R s m args below meth c nL G Q cells slots n h pc ls (st) := fun H locs lsA hW hS hl h1 => lv_iload_n cx.1.1 cx.1.2.1 d hi (lo_at hl hv) (kk H locs lsA hW hS hl h1)
theorem x_iload (cx : Cx p s m args meth c cc nL own G) {i : Nat} {x : Int32} (d : decode cc pc = .ok (.iload i, 2)) (hv : ls[i]? = some (some (.int x))) (kk : Xh p l e R s m args below meth c nL G Q cells slots n h (pc + 2) ls (.int x :: st)) : Xh p l e R s m args below meth c nL G Q cells slots n h pc ls (st) := fun H locs lsA hW hS hl h1 => lv_iload cx.1.1 cx.1.2.1 d (lo_at hl hv) (kk H locs lsA hW hS hl h1)
theorem x_aload_n (cx : Cx p s m args meth c cc nL own G) {k : Fin 4} {i : Nat} {x : Nat} (d : decode cc pc = .ok (.aload_n k, 1)) (hi : (k : Nat) = i) (hv : ls[i]? = some (some (.ref x))) (kk : Xh p l e R s m args below meth c nL G Q cells slots n h (pc + 1) ls (.ref x :: st)) : Xh p l e R s m args below meth c nL G Q cells slots n h pc ls (st) := fun H locs lsA hW hS hl h1 => lv_aload_n cx.1.1 cx.1.2.1 d hi (lo_at hl hv) (kk H locs lsA hW hS hl h1)
theorem x_aload (cx : Cx p s m args meth c cc nL own G) {i : Nat} {x : Nat} (d : decode cc pc = .ok (.aload i, 2)) (hv : ls[i]? = some (some (.ref x))) (kk : Xh p l e R s m args below meth c nL G Q cells slots n h (pc + 2) ls (.ref x :: st)) : Xh p l e R s m args below meth c nL G Q cells slots n h pc ls (st) := fun H locs lsA hW hS hl h1 => lv_aload cx.1.1 cx.1.2.1 d (lo_at hl hv) (kk H locs lsA hW hS hl h1)
theorem x_istore_n (cx : Cx p s m args meth c cc nL own G) {k : Fin 4} {i : Nat} {x : Int32} (d : decode cc pc = .ok (.istore_n k, 1)) (hi : (k : Nat) = i) (hn : i < nL) (hls : ls.set i (some (.int x)) = ls') (kk : Xh p l e R s m args below meth c nL G Q cells slots n h (pc + 1) ls' st) : Xh p l e R s m args below meth c nL G Q cells slots n h pc ls (.int x :: st) := fun H locs lsA hW hS hl h1 => lv_istore_n cx.1.1 cx.1.2.1 d hi hl hn rfl (fun lsB hB => kk H locs lsB hW hS (lo_sub hB (lo_put h1 hls)) (hls ▸ lo1_set h1 rfl))
theorem x_istore (cx : Cx p s m args meth c cc nL own G) {i : Nat} {x : Int32} (d : decode cc pc = .ok (.istore i, 2)) (hn : i < nL) (hls : ls.set i (some (.int x)) = ls') (kk : Xh p l e R s m args below meth c nL G Q cells slots n h (pc + 2) ls' st) : Xh p l e R s m args below meth c nL G Q cells slots n h pc ls (.int x :: st) := fun H locs lsA hW hS hl h1 => lv_istore cx.1.1 cx.1.2.1 d hl hn rfl (fun lsB hB => kk H locs lsB hW hS (lo_sub hB (lo_put h1 hls)) (hls ▸ lo1_set h1 rfl))
theorem x_astore_n (cx : Cx p s m args meth c cc nL own G) {k : Fin 4} {i : Nat} {x : Nat} (d : decode cc pc = .ok (.astore_n k, 1)) (hi : (k : Nat) = i) (hn : i < nL) (hls : ls.set i (some (.ref x)) = ls') (kk : Xh p l e R s m args below meth c nL G Q cells slots n h (pc + 1) ls' st) : Xh p l e R s m args below meth c nL G Q cells slots n h pc ls (.ref x :: st) := fun H locs lsA hW hS hl h1 => lv_astore_n cx.1.1 cx.1.2.1 d hi hl hn rfl (fun lsB hB => kk H locs lsB hW hS (lo_sub hB (lo_put h1 hls)) (hls ▸ lo1_set h1 rfl))
theorem x_astore (cx : Cx p s m args meth c cc nL own G) {i : Nat} {x : Nat} (d : decode cc pc = .ok (.astore i, 2)) (hn : i < nL) (hls : ls.set i (some (.ref x)) = ls') (kk : Xh p l e R s m args below meth c nL G Q cells slots n h (pc + 2) ls' st) : Xh p l e R s m args below meth c nL G Q cells slots n h pc ls (.ref x :: st) := fun H locs lsA hW hS hl h1 => lv_astore cx.1.1 cx.1.2.1 d hl hn rfl (fun lsB hB => kk H locs lsB hW hS (lo_sub hB (lo_put h1 hls)) (hls ▸ lo1_set h1 rfl))
theorem x_fstore_n (cx : Cx p s m args meth c cc nL own G) {k : Fin 4} {i : Nat} {x : UInt32} (d : decode cc pc = .ok (.fstore_n k, 1)) (hi : (k : Nat) = i) (hn : i < nL) (hls : ls.set i (some (.float x)) = ls') (kk : Xh p l e R s m args below meth c nL G Q cells slots n h (pc + 1) ls' st) : Xh p l e R s m args below meth c nL G Q cells slots n h pc ls (.float x :: st) := fun H locs lsA hW hS hl h1 => lv_fstore_n cx.1.1 cx.1.2.1 d hi hl hn rfl (fun lsB hB => kk H locs lsB hW hS (lo_sub hB (lo_put h1 hls)) (hls ▸ lo1_set h1 rfl))
theorem x_fstore (cx : Cx p s m args meth c cc nL own G) {i : Nat} {x : UInt32} (d : decode cc pc = .ok (.fstore i, 2)) (hn : i < nL) (hls : ls.set i (some (.float x)) = ls') (kk : Xh p l e R s m args below meth c nL G Q cells slots n h (pc + 2) ls' st) : Xh p l e R s m args below meth c nL G Q cells slots n h pc ls (.float x :: st) := fun H locs lsA hW hS hl h1 => lv_fstore cx.1.1 cx.1.2.1 d hl hn rfl (fun lsB hB => kk H locs lsB hW hS (lo_sub hB (lo_put h1 hls)) (hls ▸ lo1_set h1 rfl))
theorem x_fload_n (cx : Cx p s m args meth c cc nL own G) {k : Fin 4} {i : Nat} {x : UInt32} (d : decode cc pc = .ok (.fload_n k, 1)) (hi : (k : Nat) = i) (hv : ls[i]? = some (some (.float x))) (kk : Xh p l e R s m args below meth c nL G Q cells slots n h (pc + 1) ls (.float x :: st)) : Xh p l e R s m args below meth c nL G Q cells slots n h pc ls (st) := fun H locs lsA hW hS hl h1 => lv_fload_n cx.1.1 cx.1.2.1 d hi (lo_at hl hv) (kk H locs lsA hW hS hl h1)
theorem x_iinc (cx : Cx p s m args meth c cc nL own G) {i : Nat} {k : Int} {x v : Int32} (d : decode cc pc = .ok (.iinc i k, 3)) (hv : ls[i]? = some (some (.int x))) (hx : x + Int32.ofInt k = v) (hn : i < nL) (hls : ls.set i (some (.int v)) = ls') (kk : Xh p l e R s m args below meth c nL G Q cells slots n h (pc + 3) ls' st) : Xh p l e R s m args below meth c nL G Q cells slots n h pc ls st := by
  intro H locs lsA hW hS hl h1
  obtain ⟨q, hq⟩ := List.getElem?_of_mem (show (i, Value.int x) ∈ lo 0 ls by simpa using lo_mem ls 0 i hv)
  exact lv_iinc cx.1.1 cx.1.2.1 d hl hq hx hn rfl (fun lsB hB => kk H locs lsB hW hS (lo_sub hB (lo_put h1 hls)) (hls ▸ lo1_set h1 rfl))
theorem x_iadd (cx : Cx p s m args meth c cc nL own G) {x y : Int32} (d : decode cc pc = .ok (.iadd, 1)) (kk : Xh p l e R s m args below meth c nL G Q cells slots n h (pc + 1) ls (.int (x + y) :: st)) : Xh p l e R s m args below meth c nL G Q cells slots n h pc ls (.int y :: .int x :: st) := fun H locs lsA hW hS hl h1 => lv_iadd cx.1.1 cx.1.2.1 d (kk H locs lsA hW hS hl h1)
theorem x_isub (cx : Cx p s m args meth c cc nL own G) {x y : Int32} (d : decode cc pc = .ok (.isub, 1)) (kk : Xh p l e R s m args below meth c nL G Q cells slots n h (pc + 1) ls (.int (x - y) :: st)) : Xh p l e R s m args below meth c nL G Q cells slots n h pc ls (.int y :: .int x :: st) := fun H locs lsA hW hS hl h1 => lv_isub cx.1.1 cx.1.2.1 d (kk H locs lsA hW hS hl h1)
theorem x_imul (cx : Cx p s m args meth c cc nL own G) {x y : Int32} (d : decode cc pc = .ok (.imul, 1)) (kk : Xh p l e R s m args below meth c nL G Q cells slots n h (pc + 1) ls (.int (x * y) :: st)) : Xh p l e R s m args below meth c nL G Q cells slots n h pc ls (.int y :: .int x :: st) := fun H locs lsA hW hS hl h1 => lv_imul cx.1.1 cx.1.2.1 d (kk H locs lsA hW hS hl h1)
theorem x_iand (cx : Cx p s m args meth c cc nL own G) {x y : Int32} (d : decode cc pc = .ok (.iand, 1)) (kk : Xh p l e R s m args below meth c nL G Q cells slots n h (pc + 1) ls (.int (x &&& y) :: st)) : Xh p l e R s m args below meth c nL G Q cells slots n h pc ls (.int y :: .int x :: st) := fun H locs lsA hW hS hl h1 => lv_iand cx.1.1 cx.1.2.1 d (kk H locs lsA hW hS hl h1)
theorem x_ior (cx : Cx p s m args meth c cc nL own G) {x y : Int32} (d : decode cc pc = .ok (.ior, 1)) (kk : Xh p l e R s m args below meth c nL G Q cells slots n h (pc + 1) ls (.int (x ||| y) :: st)) : Xh p l e R s m args below meth c nL G Q cells slots n h pc ls (.int y :: .int x :: st) := fun H locs lsA hW hS hl h1 => lv_ior cx.1.1 cx.1.2.1 d (kk H locs lsA hW hS hl h1)
theorem x_ishl (cx : Cx p s m args meth c cc nL own G) {x y : Int32} (d : decode cc pc = .ok (.ishl, 1)) (kk : Xh p l e R s m args below meth c nL G Q cells slots n h (pc + 1) ls (.int (x <<< (y &&& 31)) :: st)) : Xh p l e R s m args below meth c nL G Q cells slots n h pc ls (.int y :: .int x :: st) := fun H locs lsA hW hS hl h1 => lv_ishl cx.1.1 cx.1.2.1 d (kk H locs lsA hW hS hl h1)
theorem x_ishr (cx : Cx p s m args meth c cc nL own G) {x y : Int32} (d : decode cc pc = .ok (.ishr, 1)) (kk : Xh p l e R s m args below meth c nL G Q cells slots n h (pc + 1) ls (.int (x >>> (y &&& 31)) :: st)) : Xh p l e R s m args below meth c nL G Q cells slots n h pc ls (.int y :: .int x :: st) := fun H locs lsA hW hS hl h1 => lv_ishr cx.1.1 cx.1.2.1 d (kk H locs lsA hW hS hl h1)
theorem x_irem (cx : Cx p s m args meth c cc nL own G) {x y : Int32} (d : decode cc pc = .ok (.irem, 1)) (hne : ¬ y = 0) (kk : Xh p l e R s m args below meth c nL G Q cells slots n h (pc + 1) ls (.int (x - x / y * y) :: st)) : Xh p l e R s m args below meth c nL G Q cells slots n h pc ls (.int y :: .int x :: st) := fun H locs lsA hW hS hl h1 => lv_irem cx.1.1 cx.1.2.1 d hne (kk H locs lsA hW hS hl h1)
theorem x_i2c (cx : Cx p s m args meth c cc nL own G) {x v : Int32} (d : decode cc pc = .ok (.i2c, 1)) (hv : (x.toUInt32 % 65536).toInt32 = v) (kk : Xh p l e R s m args below meth c nL G Q cells slots n h (pc + 1) ls (.int v :: st)) : Xh p l e R s m args below meth c nL G Q cells slots n h pc ls (.int x :: st) := fun H locs lsA hW hS hl h1 => lv_i2c cx.1.1 cx.1.2.1 d hv (kk H locs lsA hW hS hl h1)
theorem x_i2f (cx : Cx p s m args meth c cc nL own G) {x : Int32} (d : decode cc pc = .ok (.i2f, 1)) (kk : Xh p l e R s m args below meth c nL G Q cells slots n h (pc + 1) ls (.float (FP.i2f x) :: st)) : Xh p l e R s m args below meth c nL G Q cells slots n h pc ls (.int x :: st) := fun H locs lsA hW hS hl h1 => lv_i2f cx.1.1 cx.1.2.1 d (kk H locs lsA hW hS hl h1)
theorem x_fconst0 (cx : Cx p s m args meth c cc nL own G)  (d : decode cc pc = .ok (.fconst 0, 1)) (kk : Xh p l e R s m args below meth c nL G Q cells slots n h (pc + 1) ls (.float FP.fconst0 :: st)) : Xh p l e R s m args below meth c nL G Q cells slots n h pc ls (st) := fun H locs lsA hW hS hl h1 => lv_fconst0 cx.1.1 cx.1.2.1 d (kk H locs lsA hW hS hl h1)
theorem x_fdiv (cx : Cx p s m args meth c cc nL own G) {x y : UInt32} (d : decode cc pc = .ok (.fdiv, 1)) (hne : vf_n32 (FP.fdiv x y)) (kk : Xh p l e R s m args below meth c nL G Q cells slots n h (pc + 1) ls (.float (FP.fdiv x y) :: st)) : Xh p l e R s m args below meth c nL G Q cells slots n h pc ls (.float y :: .float x :: st) := fun H locs lsA hW hS hl h1 => lv_fdiv cx.1.1 cx.1.2.1 d hne (kk H locs lsA hW hS hl h1)
theorem x_dup (cx : Cx p s m args meth c cc nL own G) {va : Value} (d : decode cc pc = .ok (.dup, 1)) (hva : va.category = 1) (kk : Xh p l e R s m args below meth c nL G Q cells slots n h (pc + 1) ls (va :: va :: st)) : Xh p l e R s m args below meth c nL G Q cells slots n h pc ls (va :: st) := fun H locs lsA hW hS hl h1 => lv_dup cx.1.1 cx.1.2.1 d hva (kk H locs lsA hW hS hl h1)
theorem x_pop (cx : Cx p s m args meth c cc nL own G) {va : Value} (d : decode cc pc = .ok (.pop, 1)) (hva : va.category = 1) (kk : Xh p l e R s m args below meth c nL G Q cells slots n h (pc + 1) ls (st)) : Xh p l e R s m args below meth c nL G Q cells slots n h pc ls (va :: st) := fun H locs lsA hW hS hl h1 => lv_pop cx.1.1 cx.1.2.1 d hva (kk H locs lsA hW hS hl h1)
theorem x_dup2 (cx : Cx p s m args meth c cc nL own G) {va vb : Value} (d : decode cc pc = .ok (.dup2, 1)) (hva : va.category = 1) (hvb : vb.category = 1) (kk : Xh p l e R s m args below meth c nL G Q cells slots n h (pc + 1) ls (va :: vb :: va :: vb :: st)) : Xh p l e R s m args below meth c nL G Q cells slots n h pc ls (va :: vb :: st) := fun H locs lsA hW hS hl h1 => lv_dup2_11 cx.1.1 cx.1.2.1 d hva hvb (kk H locs lsA hW hS hl h1)
theorem x_eqi {x y : Int32} (hxy : x = y) (kk : Xh p l e R s m args below meth c nL G Q cells slots n h pc ls (.int y :: st)) : Xh p l e R s m args below meth c nL G Q cells slots n h pc ls (.int x :: st) := hxy ▸ kk
theorem x_topi {x : Int32} (kk : ∀ y : Int32, y = x → Xh p l e R s m args below meth c nL G Q cells slots n h pc ls (.int y :: st)) : Xh p l e R s m args below meth c nL G Q cells slots n h pc ls (.int x :: st) := kk x rfl
theorem x_if_eq (cx : Cx p s m args meth c cc nL own G) {x : Int32} {off : Int} {tgt : Nat} (d : decode cc pc = .ok (.ifCond .eq off, 3)) (ht : (pc : Int) + off = (tgt : Int)) (kt : x = 0 → Xh p l e R s m args below meth c nL G Q cells slots n h tgt ls st) (kf : ¬ x = 0 → Xh p l e R s m args below meth c nL G Q cells slots n h (pc + 3) ls st) : Xh p l e R s m args below meth c nL G Q cells slots n h pc ls (.int x :: st) := fun H locs lsA hW hS hl h1 => lv_if_eq cx.1.1 cx.1.2.1 d ht (fun z => kt z H locs lsA hW hS hl h1) (fun z => kf z H locs lsA hW hS hl h1)
theorem x_if_eq_t (cx : Cx p s m args meth c cc nL own G) {x : Int32} {off : Int} {tgt : Nat} (d : decode cc pc = .ok (.ifCond .eq off, 3)) (ht : (pc : Int) + off = (tgt : Int)) (hc : x = 0) (kt : Xh p l e R s m args below meth c nL G Q cells slots n h tgt ls st) : Xh p l e R s m args below meth c nL G Q cells slots n h pc ls (.int x :: st) := x_if_eq cx d ht (fun _ => kt) (fun z => absurd hc z)
theorem x_if_eq_f (cx : Cx p s m args meth c cc nL own G) {x : Int32} {off : Int} (d : decode cc pc = .ok (.ifCond .eq off, 3)) {tgt : Nat} (ht : (pc : Int) + off = (tgt : Int)) (hc : ¬ x = 0) (kf : Xh p l e R s m args below meth c nL G Q cells slots n h (pc + 3) ls st) : Xh p l e R s m args below meth c nL G Q cells slots n h pc ls (.int x :: st) := x_if_eq cx d ht (fun z => absurd z hc) (fun _ => kf)
theorem x_icmp_eq (cx : Cx p s m args meth c cc nL own G) {x y : Int32} {off : Int} {tgt : Nat} (d : decode cc pc = .ok (.if_icmp .eq off, 3)) (ht : (pc : Int) + off = (tgt : Int)) (kt : x = y → Xh p l e R s m args below meth c nL G Q cells slots n h tgt ls st) (kf : ¬ x = y → Xh p l e R s m args below meth c nL G Q cells slots n h (pc + 3) ls st) : Xh p l e R s m args below meth c nL G Q cells slots n h pc ls (.int y :: .int x :: st) := fun H locs lsA hW hS hl h1 => lv_icmp_eq cx.1.1 cx.1.2.1 d ht (fun z => kt z H locs lsA hW hS hl h1) (fun z => kf z H locs lsA hW hS hl h1)
theorem x_icmp_eq_t (cx : Cx p s m args meth c cc nL own G) {x y : Int32} {off : Int} {tgt : Nat} (d : decode cc pc = .ok (.if_icmp .eq off, 3)) (ht : (pc : Int) + off = (tgt : Int)) (hc : x = y) (kt : Xh p l e R s m args below meth c nL G Q cells slots n h tgt ls st) : Xh p l e R s m args below meth c nL G Q cells slots n h pc ls (.int y :: .int x :: st) := x_icmp_eq cx d ht (fun _ => kt) (fun z => absurd hc z)
theorem x_icmp_eq_f (cx : Cx p s m args meth c cc nL own G) {x y : Int32} {off : Int} (d : decode cc pc = .ok (.if_icmp .eq off, 3)) {tgt : Nat} (ht : (pc : Int) + off = (tgt : Int)) (hc : ¬ x = y) (kf : Xh p l e R s m args below meth c nL G Q cells slots n h (pc + 3) ls st) : Xh p l e R s m args below meth c nL G Q cells slots n h pc ls (.int y :: .int x :: st) := x_icmp_eq cx d ht (fun z => absurd z hc) (fun _ => kf)
theorem x_if_ne (cx : Cx p s m args meth c cc nL own G) {x : Int32} {off : Int} {tgt : Nat} (d : decode cc pc = .ok (.ifCond .ne off, 3)) (ht : (pc : Int) + off = (tgt : Int)) (kt : ¬ x = 0 → Xh p l e R s m args below meth c nL G Q cells slots n h tgt ls st) (kf : x = 0 → Xh p l e R s m args below meth c nL G Q cells slots n h (pc + 3) ls st) : Xh p l e R s m args below meth c nL G Q cells slots n h pc ls (.int x :: st) := fun H locs lsA hW hS hl h1 => lv_if_ne cx.1.1 cx.1.2.1 d ht (fun z => kt z H locs lsA hW hS hl h1) (fun z => kf z H locs lsA hW hS hl h1)
theorem x_if_ne_t (cx : Cx p s m args meth c cc nL own G) {x : Int32} {off : Int} {tgt : Nat} (d : decode cc pc = .ok (.ifCond .ne off, 3)) (ht : (pc : Int) + off = (tgt : Int)) (hc : ¬ x = 0) (kt : Xh p l e R s m args below meth c nL G Q cells slots n h tgt ls st) : Xh p l e R s m args below meth c nL G Q cells slots n h pc ls (.int x :: st) := x_if_ne cx d ht (fun _ => kt) (fun z => absurd z hc)
theorem x_if_ne_f (cx : Cx p s m args meth c cc nL own G) {x : Int32} {off : Int} (d : decode cc pc = .ok (.ifCond .ne off, 3)) {tgt : Nat} (ht : (pc : Int) + off = (tgt : Int)) (hc : x = 0) (kf : Xh p l e R s m args below meth c nL G Q cells slots n h (pc + 3) ls st) : Xh p l e R s m args below meth c nL G Q cells slots n h pc ls (.int x :: st) := x_if_ne cx d ht (fun z => absurd hc z) (fun _ => kf)
theorem x_icmp_ne (cx : Cx p s m args meth c cc nL own G) {x y : Int32} {off : Int} {tgt : Nat} (d : decode cc pc = .ok (.if_icmp .ne off, 3)) (ht : (pc : Int) + off = (tgt : Int)) (kt : ¬ x = y → Xh p l e R s m args below meth c nL G Q cells slots n h tgt ls st) (kf : x = y → Xh p l e R s m args below meth c nL G Q cells slots n h (pc + 3) ls st) : Xh p l e R s m args below meth c nL G Q cells slots n h pc ls (.int y :: .int x :: st) := fun H locs lsA hW hS hl h1 => lv_icmp_ne cx.1.1 cx.1.2.1 d ht (fun z => kt z H locs lsA hW hS hl h1) (fun z => kf z H locs lsA hW hS hl h1)
theorem x_icmp_ne_t (cx : Cx p s m args meth c cc nL own G) {x y : Int32} {off : Int} {tgt : Nat} (d : decode cc pc = .ok (.if_icmp .ne off, 3)) (ht : (pc : Int) + off = (tgt : Int)) (hc : ¬ x = y) (kt : Xh p l e R s m args below meth c nL G Q cells slots n h tgt ls st) : Xh p l e R s m args below meth c nL G Q cells slots n h pc ls (.int y :: .int x :: st) := x_icmp_ne cx d ht (fun _ => kt) (fun z => absurd z hc)
theorem x_icmp_ne_f (cx : Cx p s m args meth c cc nL own G) {x y : Int32} {off : Int} (d : decode cc pc = .ok (.if_icmp .ne off, 3)) {tgt : Nat} (ht : (pc : Int) + off = (tgt : Int)) (hc : x = y) (kf : Xh p l e R s m args below meth c nL G Q cells slots n h (pc + 3) ls st) : Xh p l e R s m args below meth c nL G Q cells slots n h pc ls (.int y :: .int x :: st) := x_icmp_ne cx d ht (fun z => absurd hc z) (fun _ => kf)
theorem x_if_lt (cx : Cx p s m args meth c cc nL own G) {x : Int32} {off : Int} {tgt : Nat} (d : decode cc pc = .ok (.ifCond .lt off, 3)) (ht : (pc : Int) + off = (tgt : Int)) (kt : x < 0 → Xh p l e R s m args below meth c nL G Q cells slots n h tgt ls st) (kf : ¬ x < 0 → Xh p l e R s m args below meth c nL G Q cells slots n h (pc + 3) ls st) : Xh p l e R s m args below meth c nL G Q cells slots n h pc ls (.int x :: st) := fun H locs lsA hW hS hl h1 => lv_if_lt cx.1.1 cx.1.2.1 d ht (fun z => kt z H locs lsA hW hS hl h1) (fun z => kf z H locs lsA hW hS hl h1)
theorem x_if_lt_t (cx : Cx p s m args meth c cc nL own G) {x : Int32} {off : Int} {tgt : Nat} (d : decode cc pc = .ok (.ifCond .lt off, 3)) (ht : (pc : Int) + off = (tgt : Int)) (hc : x < 0) (kt : Xh p l e R s m args below meth c nL G Q cells slots n h tgt ls st) : Xh p l e R s m args below meth c nL G Q cells slots n h pc ls (.int x :: st) := x_if_lt cx d ht (fun _ => kt) (fun z => absurd hc z)
theorem x_if_lt_f (cx : Cx p s m args meth c cc nL own G) {x : Int32} {off : Int} (d : decode cc pc = .ok (.ifCond .lt off, 3)) {tgt : Nat} (ht : (pc : Int) + off = (tgt : Int)) (hc : ¬ x < 0) (kf : Xh p l e R s m args below meth c nL G Q cells slots n h (pc + 3) ls st) : Xh p l e R s m args below meth c nL G Q cells slots n h pc ls (.int x :: st) := x_if_lt cx d ht (fun z => absurd z hc) (fun _ => kf)
theorem x_icmp_lt (cx : Cx p s m args meth c cc nL own G) {x y : Int32} {off : Int} {tgt : Nat} (d : decode cc pc = .ok (.if_icmp .lt off, 3)) (ht : (pc : Int) + off = (tgt : Int)) (kt : x < y → Xh p l e R s m args below meth c nL G Q cells slots n h tgt ls st) (kf : ¬ x < y → Xh p l e R s m args below meth c nL G Q cells slots n h (pc + 3) ls st) : Xh p l e R s m args below meth c nL G Q cells slots n h pc ls (.int y :: .int x :: st) := fun H locs lsA hW hS hl h1 => lv_icmp_lt cx.1.1 cx.1.2.1 d ht (fun z => kt z H locs lsA hW hS hl h1) (fun z => kf z H locs lsA hW hS hl h1)
theorem x_icmp_lt_t (cx : Cx p s m args meth c cc nL own G) {x y : Int32} {off : Int} {tgt : Nat} (d : decode cc pc = .ok (.if_icmp .lt off, 3)) (ht : (pc : Int) + off = (tgt : Int)) (hc : x < y) (kt : Xh p l e R s m args below meth c nL G Q cells slots n h tgt ls st) : Xh p l e R s m args below meth c nL G Q cells slots n h pc ls (.int y :: .int x :: st) := x_icmp_lt cx d ht (fun _ => kt) (fun z => absurd hc z)
theorem x_icmp_lt_f (cx : Cx p s m args meth c cc nL own G) {x y : Int32} {off : Int} (d : decode cc pc = .ok (.if_icmp .lt off, 3)) {tgt : Nat} (ht : (pc : Int) + off = (tgt : Int)) (hc : ¬ x < y) (kf : Xh p l e R s m args below meth c nL G Q cells slots n h (pc + 3) ls st) : Xh p l e R s m args below meth c nL G Q cells slots n h pc ls (.int y :: .int x :: st) := x_icmp_lt cx d ht (fun z => absurd z hc) (fun _ => kf)
theorem x_if_ge (cx : Cx p s m args meth c cc nL own G) {x : Int32} {off : Int} {tgt : Nat} (d : decode cc pc = .ok (.ifCond .ge off, 3)) (ht : (pc : Int) + off = (tgt : Int)) (kt : 0 ≤ x → Xh p l e R s m args below meth c nL G Q cells slots n h tgt ls st) (kf : ¬ 0 ≤ x → Xh p l e R s m args below meth c nL G Q cells slots n h (pc + 3) ls st) : Xh p l e R s m args below meth c nL G Q cells slots n h pc ls (.int x :: st) := fun H locs lsA hW hS hl h1 => lv_if_ge cx.1.1 cx.1.2.1 d ht (fun z => kt z H locs lsA hW hS hl h1) (fun z => kf z H locs lsA hW hS hl h1)
theorem x_if_ge_t (cx : Cx p s m args meth c cc nL own G) {x : Int32} {off : Int} {tgt : Nat} (d : decode cc pc = .ok (.ifCond .ge off, 3)) (ht : (pc : Int) + off = (tgt : Int)) (hc : 0 ≤ x) (kt : Xh p l e R s m args below meth c nL G Q cells slots n h tgt ls st) : Xh p l e R s m args below meth c nL G Q cells slots n h pc ls (.int x :: st) := x_if_ge cx d ht (fun _ => kt) (fun z => absurd hc z)
theorem x_if_ge_f (cx : Cx p s m args meth c cc nL own G) {x : Int32} {off : Int} (d : decode cc pc = .ok (.ifCond .ge off, 3)) {tgt : Nat} (ht : (pc : Int) + off = (tgt : Int)) (hc : ¬ 0 ≤ x) (kf : Xh p l e R s m args below meth c nL G Q cells slots n h (pc + 3) ls st) : Xh p l e R s m args below meth c nL G Q cells slots n h pc ls (.int x :: st) := x_if_ge cx d ht (fun z => absurd z hc) (fun _ => kf)
theorem x_icmp_ge (cx : Cx p s m args meth c cc nL own G) {x y : Int32} {off : Int} {tgt : Nat} (d : decode cc pc = .ok (.if_icmp .ge off, 3)) (ht : (pc : Int) + off = (tgt : Int)) (kt : y ≤ x → Xh p l e R s m args below meth c nL G Q cells slots n h tgt ls st) (kf : ¬ y ≤ x → Xh p l e R s m args below meth c nL G Q cells slots n h (pc + 3) ls st) : Xh p l e R s m args below meth c nL G Q cells slots n h pc ls (.int y :: .int x :: st) := fun H locs lsA hW hS hl h1 => lv_icmp_ge cx.1.1 cx.1.2.1 d ht (fun z => kt z H locs lsA hW hS hl h1) (fun z => kf z H locs lsA hW hS hl h1)
theorem x_icmp_ge_t (cx : Cx p s m args meth c cc nL own G) {x y : Int32} {off : Int} {tgt : Nat} (d : decode cc pc = .ok (.if_icmp .ge off, 3)) (ht : (pc : Int) + off = (tgt : Int)) (hc : y ≤ x) (kt : Xh p l e R s m args below meth c nL G Q cells slots n h tgt ls st) : Xh p l e R s m args below meth c nL G Q cells slots n h pc ls (.int y :: .int x :: st) := x_icmp_ge cx d ht (fun _ => kt) (fun z => absurd hc z)
theorem x_icmp_ge_f (cx : Cx p s m args meth c cc nL own G) {x y : Int32} {off : Int} (d : decode cc pc = .ok (.if_icmp .ge off, 3)) {tgt : Nat} (ht : (pc : Int) + off = (tgt : Int)) (hc : ¬ y ≤ x) (kf : Xh p l e R s m args below meth c nL G Q cells slots n h (pc + 3) ls st) : Xh p l e R s m args below meth c nL G Q cells slots n h pc ls (.int y :: .int x :: st) := x_icmp_ge cx d ht (fun z => absurd z hc) (fun _ => kf)
theorem x_if_gt (cx : Cx p s m args meth c cc nL own G) {x : Int32} {off : Int} {tgt : Nat} (d : decode cc pc = .ok (.ifCond .gt off, 3)) (ht : (pc : Int) + off = (tgt : Int)) (kt : 0 < x → Xh p l e R s m args below meth c nL G Q cells slots n h tgt ls st) (kf : ¬ 0 < x → Xh p l e R s m args below meth c nL G Q cells slots n h (pc + 3) ls st) : Xh p l e R s m args below meth c nL G Q cells slots n h pc ls (.int x :: st) := fun H locs lsA hW hS hl h1 => lv_if_gt cx.1.1 cx.1.2.1 d ht (fun z => kt z H locs lsA hW hS hl h1) (fun z => kf z H locs lsA hW hS hl h1)
theorem x_if_gt_t (cx : Cx p s m args meth c cc nL own G) {x : Int32} {off : Int} {tgt : Nat} (d : decode cc pc = .ok (.ifCond .gt off, 3)) (ht : (pc : Int) + off = (tgt : Int)) (hc : 0 < x) (kt : Xh p l e R s m args below meth c nL G Q cells slots n h tgt ls st) : Xh p l e R s m args below meth c nL G Q cells slots n h pc ls (.int x :: st) := x_if_gt cx d ht (fun _ => kt) (fun z => absurd hc z)
theorem x_if_gt_f (cx : Cx p s m args meth c cc nL own G) {x : Int32} {off : Int} (d : decode cc pc = .ok (.ifCond .gt off, 3)) {tgt : Nat} (ht : (pc : Int) + off = (tgt : Int)) (hc : ¬ 0 < x) (kf : Xh p l e R s m args below meth c nL G Q cells slots n h (pc + 3) ls st) : Xh p l e R s m args below meth c nL G Q cells slots n h pc ls (.int x :: st) := x_if_gt cx d ht (fun z => absurd z hc) (fun _ => kf)
theorem x_icmp_gt (cx : Cx p s m args meth c cc nL own G) {x y : Int32} {off : Int} {tgt : Nat} (d : decode cc pc = .ok (.if_icmp .gt off, 3)) (ht : (pc : Int) + off = (tgt : Int)) (kt : y < x → Xh p l e R s m args below meth c nL G Q cells slots n h tgt ls st) (kf : ¬ y < x → Xh p l e R s m args below meth c nL G Q cells slots n h (pc + 3) ls st) : Xh p l e R s m args below meth c nL G Q cells slots n h pc ls (.int y :: .int x :: st) := fun H locs lsA hW hS hl h1 => lv_icmp_gt cx.1.1 cx.1.2.1 d ht (fun z => kt z H locs lsA hW hS hl h1) (fun z => kf z H locs lsA hW hS hl h1)
theorem x_icmp_gt_t (cx : Cx p s m args meth c cc nL own G) {x y : Int32} {off : Int} {tgt : Nat} (d : decode cc pc = .ok (.if_icmp .gt off, 3)) (ht : (pc : Int) + off = (tgt : Int)) (hc : y < x) (kt : Xh p l e R s m args below meth c nL G Q cells slots n h tgt ls st) : Xh p l e R s m args below meth c nL G Q cells slots n h pc ls (.int y :: .int x :: st) := x_icmp_gt cx d ht (fun _ => kt) (fun z => absurd hc z)
theorem x_icmp_gt_f (cx : Cx p s m args meth c cc nL own G) {x y : Int32} {off : Int} (d : decode cc pc = .ok (.if_icmp .gt off, 3)) {tgt : Nat} (ht : (pc : Int) + off = (tgt : Int)) (hc : ¬ y < x) (kf : Xh p l e R s m args below meth c nL G Q cells slots n h (pc + 3) ls st) : Xh p l e R s m args below meth c nL G Q cells slots n h pc ls (.int y :: .int x :: st) := x_icmp_gt cx d ht (fun z => absurd z hc) (fun _ => kf)
theorem x_if_le (cx : Cx p s m args meth c cc nL own G) {x : Int32} {off : Int} {tgt : Nat} (d : decode cc pc = .ok (.ifCond .le off, 3)) (ht : (pc : Int) + off = (tgt : Int)) (kt : x ≤ 0 → Xh p l e R s m args below meth c nL G Q cells slots n h tgt ls st) (kf : ¬ x ≤ 0 → Xh p l e R s m args below meth c nL G Q cells slots n h (pc + 3) ls st) : Xh p l e R s m args below meth c nL G Q cells slots n h pc ls (.int x :: st) := fun H locs lsA hW hS hl h1 => lv_if_le cx.1.1 cx.1.2.1 d ht (fun z => kt z H locs lsA hW hS hl h1) (fun z => kf z H locs lsA hW hS hl h1)
theorem x_if_le_t (cx : Cx p s m args meth c cc nL own G) {x : Int32} {off : Int} {tgt : Nat} (d : decode cc pc = .ok (.ifCond .le off, 3)) (ht : (pc : Int) + off = (tgt : Int)) (hc : x ≤ 0) (kt : Xh p l e R s m args below meth c nL G Q cells slots n h tgt ls st) : Xh p l e R s m args below meth c nL G Q cells slots n h pc ls (.int x :: st) := x_if_le cx d ht (fun _ => kt) (fun z => absurd hc z)
theorem x_if_le_f (cx : Cx p s m args meth c cc nL own G) {x : Int32} {off : Int} (d : decode cc pc = .ok (.ifCond .le off, 3)) {tgt : Nat} (ht : (pc : Int) + off = (tgt : Int)) (hc : ¬ x ≤ 0) (kf : Xh p l e R s m args below meth c nL G Q cells slots n h (pc + 3) ls st) : Xh p l e R s m args below meth c nL G Q cells slots n h pc ls (.int x :: st) := x_if_le cx d ht (fun z => absurd z hc) (fun _ => kf)
theorem x_icmp_le (cx : Cx p s m args meth c cc nL own G) {x y : Int32} {off : Int} {tgt : Nat} (d : decode cc pc = .ok (.if_icmp .le off, 3)) (ht : (pc : Int) + off = (tgt : Int)) (kt : x ≤ y → Xh p l e R s m args below meth c nL G Q cells slots n h tgt ls st) (kf : ¬ x ≤ y → Xh p l e R s m args below meth c nL G Q cells slots n h (pc + 3) ls st) : Xh p l e R s m args below meth c nL G Q cells slots n h pc ls (.int y :: .int x :: st) := fun H locs lsA hW hS hl h1 => lv_icmp_le cx.1.1 cx.1.2.1 d ht (fun z => kt z H locs lsA hW hS hl h1) (fun z => kf z H locs lsA hW hS hl h1)
theorem x_icmp_le_t (cx : Cx p s m args meth c cc nL own G) {x y : Int32} {off : Int} {tgt : Nat} (d : decode cc pc = .ok (.if_icmp .le off, 3)) (ht : (pc : Int) + off = (tgt : Int)) (hc : x ≤ y) (kt : Xh p l e R s m args below meth c nL G Q cells slots n h tgt ls st) : Xh p l e R s m args below meth c nL G Q cells slots n h pc ls (.int y :: .int x :: st) := x_icmp_le cx d ht (fun _ => kt) (fun z => absurd hc z)
theorem x_icmp_le_f (cx : Cx p s m args meth c cc nL own G) {x y : Int32} {off : Int} (d : decode cc pc = .ok (.if_icmp .le off, 3)) {tgt : Nat} (ht : (pc : Int) + off = (tgt : Int)) (hc : ¬ x ≤ y) (kf : Xh p l e R s m args below meth c nL G Q cells slots n h (pc + 3) ls st) : Xh p l e R s m args below meth c nL G Q cells slots n h pc ls (.int y :: .int x :: st) := x_icmp_le cx d ht (fun z => absurd z hc) (fun _ => kf)
theorem x_goto (cx : Cx p s m args meth c cc nL own G) {off : Int} {tgt : Nat} (d : decode cc pc = .ok (.goto off, 3)) (ht : (pc : Int) + off = (tgt : Int)) (kk : Xh p l e R s m args below meth c nL G Q cells slots n h tgt ls st) : Xh p l e R s m args below meth c nL G Q cells slots n h pc ls st := fun H locs lsA hW hS hl h1 => lv_goto cx.1.1 cx.1.2.1 d ht (kk H locs lsA hW hS hl h1)
theorem x_tableIn (cx : Cx p s m args meth c cc nL own G) {dflt lo0 hi0 : Int} {offs : Array Int} {len : Nat} {x : Int32} {off : Int} {tgt : Nat} (d : decode cc pc = .ok (.tableswitch dflt lo0 hi0 offs, len)) (ha : ¬ x.toInt < lo0) (hb : ¬ hi0 < x.toInt) (ho : offs[(x.toInt - lo0).toNat]? = some off) (ht : (pc : Int) + off = (tgt : Int)) (kk : Xh p l e R s m args below meth c nL G Q cells slots n h tgt ls st) : Xh p l e R s m args below meth c nL G Q cells slots n h pc ls (.int x :: st) := fun H locs lsA hW hS hl h1 => lv_tableIn cx.1.1 cx.1.2.1 d ha hb ho ht (kk H locs lsA hW hS hl h1)
theorem x_tableOut (cx : Cx p s m args meth c cc nL own G) {dflt lo0 hi0 : Int} {offs : Array Int} {len : Nat} {x : Int32} {tgt : Nat} (d : decode cc pc = .ok (.tableswitch dflt lo0 hi0 offs, len)) (ha : x.toInt < lo0 ∨ hi0 < x.toInt) (ht : (pc : Int) + dflt = (tgt : Int)) (kk : Xh p l e R s m args below meth c nL G Q cells slots n h tgt ls st) : Xh p l e R s m args below meth c nL G Q cells slots n h pc ls (.int x :: st) := fun H locs lsA hW hS hl h1 => lv_tableOut cx.1.1 cx.1.2.1 d ha ht (kk H locs lsA hW hS hl h1)
theorem x_lookup (cx : Cx p s m args meth c cc nL own G) {dflt : Int} {ps : Array (Int × Int)} {len : Nat} {x : Int32} {off : Int} {tgt : Nat} (d : decode cc pc = .ok (.lookupswitch dflt ps, len)) (hp : (ps.toList.zip (ps.toList.drop 1)).all (fun (a, next) => a.1 < next.1) = true) (ho : Op.lookupswitch.offset ps.toList dflt x.toInt = off) (ht : (pc : Int) + off = (tgt : Int)) (kk : Xh p l e R s m args below meth c nL G Q cells slots n h tgt ls st) : Xh p l e R s m args below meth c nL G Q cells slots n h pc ls (.int x :: st) := fun H locs lsA hW hS hl h1 => lv_lookup cx.1.1 cx.1.2.1 d hp ho ht (kk H locs lsA hW hS hl h1)
theorem x_getX0 (cx : Cx p s m args meth c cc nL own G) {idx i j : Nat} {fs : List Value} {v : Value} (k : Nat) (hk : k < 6) (hf : zFL s args own idx (TX0 k).1 (TX0 k).2.1 (TX0 k).2.2.1) (hok : zok i j) (hn : zix i j < n) (hp : h i j = .inr (0, fs)) (hv : fs[k]? = some v) (d : decode cc pc = .ok (.getfield idx, 3)) (kk : Xh p l e R s m args below meth c nL G Q cells slots n h (pc + 3) ls (v :: st)) : Xh p l e R s m args below meth c nL G Q cells slots n h pc ls (.ref (zad G i j) :: st) := by
  intro H locs lsA hW hS hl h1
  rcases hf with hf | ⟨host, hf⟩
  · exact va_get (D := G.1) (ci := 0) (C := RX0) (T := TX0) (N := 6) cx.1.1 cx.1.2.1 cx.1.2.2.2.2 zinX0 cx.1.2.2.2.1 cx.2.1.1 (hW.one hok hn hp) 0 rfl rfl k hk hf (fun _ z => z) hv d (kk H locs lsA hW hS hl h1)
  · exact va_getN (D := G.1) (ci := 0) (C := RX0) (T := TX0) (N := 6) cx.1.1 cx.1.2.1 cx.1.2.2.2.2 zinX0 cx.1.2.2.2.1 cx.2.1.1 (hW.one hok hn hp) 0 rfl rfl k hk hf (fun _ z => z) hv d (kk H locs lsA hW hS hl h1)
theorem x_putX0 (cx : Cx p s m args meth c cc nL own G) {idx i j : Nat} {fs : List Value} {v : Value} (k : Nat) (hk : k < 6) (hf : zFL s args own idx (TX0 k).1 (TX0 k).2.1 (TX0 k).2.2.1) (hok : zok i j) (hn : zix i j < n) (hp : h i j = .inr (0, fs)) (hfin : (TX0 k).2.2.2 = false) (hnar : narrow (tyX0 k) v = v) (hfit : fits (tyX0 k) v = true) (hlen : k < fs.length) (hh : ∀ i' j', zok i' j' → zix i' j' < n → h' i' j' = hset h i j (.inr (0, fs.set k v)) i' j') (d : decode cc pc = .ok (.putfield idx, 3)) (kk : Xh p l e R s m args below meth c nL G Q cells slots n h' (pc + 3) ls st) : Xh p l e R s m args below meth c nL G Q cells slots n h pc ls (v :: .ref (zad G i j) :: st) := by
  intro H locs lsA hW hS hl h1
  have hap := va_apart (own := own) cx.1.2.2.2.2 zinX0 tyX0 tyX0_ok nmX0 cx.2.1.1 (ci := 0) rfl
  obtain ⟨r, hr1, cell, q1, q2, q3, q4⟩ := (hW.one hok hn hp) 0 _ rfl
  have hr : r = (RX0, TX0, 6) := Option.some.inj (hr1.symm.trans rfl)
  subst hr
  obtain ⟨hSl, hfc, kC, hkC, hkind⟩ := cx.2.1.1.1 0 _ rfl
  obtain ⟨cf, kf, fi, f, hi, hsl⟩ := hSl k hk
  have hlay := cx.1.2.2.2.2 _ (zinX0 _ (u_in_lay hk))
  unfold u_lay at hlay
  rw [if_neg (by rw [hfin]; decide)] at hlay
  have hst := (u_facts hfc hkC (u_lays cx.1.2.2.2.2 zinX0 hk) hi).1
  have h6 := u_store hfc hkC hkind hlay hi (tyX0_ok k hk) hnar hfit
  have fin : ∀ H' : Heap, H'[zad G i j]? = some (cell.setSlot f.slot v) → H'.size = H.size → (∀ q, q ≠ zad G i j → H'[q]? = H[q]?) → W p l e R s m args below meth c H' (locs ++ [⟨zad G i j, f.slot⟩]) cells slots Q (F0 m (pc + 3) lsA st) := by
    intro H' e1 e2 e3
    rw [hsl] at e1
    refine kk H' _ lsA (hW.set (x := .inr (0, fs.set k v)) hok hn e2 ⟨_, rfl, t_OB.to (V := updV (vp_V fs) k v) ⟨_, e1, q2, q3, t_set q4 hap hk v⟩ (fun j _ => vp_updV_set hlen v j)⟩ e3 hh) (hS.put e2 e3 (Nat.le_add_right _ _)) hl h1
  rcases hf with hf | ⟨host, hf⟩
  · exact W.putK cx.1.1 cx.1.2.1 (f := f) ⟨cx.1.2.2.2.1, hf, ⟨_, _, _, hi⟩, hst⟩ (by rw [q2]; exact h6) q1 q3 (by rw [hsl]; exact k2_hasslot (q4 k hk)) rfl rfl d fin
  · exact va_WputK cx.1.1 cx.1.2.1 (f := f) cx.1.2.2.2.1 hf hi hst (by rw [q2]; exact h6) q1 q3 (by rw [hsl]; exact k2_hasslot (q4 k hk)) rfl rfl d fin
theorem x_putFX0 (cx : Cx p s m args meth c cc nL own G) {idx i j : Nat} {fs : List Value} {v : Value} (k : Nat) (hk : k < 6) (hf : (Cond.fieldLink own idx (TX0 k).1 (TX0 k).2.1 (TX0 k).2.2.1).before args s = true) (hin2 : meth.name = "<init>") (hok : zok i j) (hn : zix i j < n) (hp : h i j = .inr (0, fs)) (hfin : (TX0 k).2.2.2 = true) (hdecl : (TX0 k).1 = own) (hnar : narrow (tyX0 k) v = v) (hfit : fits (tyX0 k) v = true) (hlen : k < fs.length) (hh : ∀ i' j', zok i' j' → zix i' j' < n → h' i' j' = hset h i j (.inr (0, fs.set k v)) i' j') (d : decode cc pc = .ok (.putfield idx, 3)) (kk : Xh p l e R s m args below meth c nL G Q cells slots n h' (pc + 3) ls st) : Xh p l e R s m args below meth c nL G Q cells slots n h pc ls (v :: .ref (zad G i j) :: st) := by
  intro H locs lsA hW hS hl h1
  have hap := va_apart (own := own) cx.1.2.2.2.2 zinX0 tyX0 tyX0_ok nmX0 cx.2.1.1 (ci := 0) rfl
  obtain ⟨r, hr1, cell, q1, q2, q3, q4⟩ := (hW.one hok hn hp) 0 _ rfl
  have hr : r = (RX0, TX0, 6) := Option.some.inj (hr1.symm.trans rfl)
  subst hr
  obtain ⟨hSl, hfc, kC, hkC, hkind⟩ := cx.2.1.1.1 0 _ rfl
  obtain ⟨cf, kf, fi, f, hi, hsl⟩ := hSl k hk
  have hlay := cx.1.2.2.2.2 _ (zinX0 _ (u_in_lay hk))
  unfold u_lay at hlay
  rw [if_pos hfin] at hlay
  have hst := (u_facts hfc hkC (u_lays cx.1.2.2.2.2 zinX0 hk) hi).1
  have hcf : m.cls = cf := by
    obtain ⟨_, _, c', _, _, _, -, -, hf', -, -, -, hown2, -⟩ := Cond.laysFinal_spec hlay
    have e1 : c' = cf := by have := hi.symm.trans hf'; simp at this; exact this.1.symm
    rw [hdecl] at hown2
    rw [← e1]; exact Option.some.inj (cx.1.2.2.2.1.symm.trans hown2)
  have h6 := u_fits hfc hkC hkind (Or.inr hlay) hi (tyX0_ok k hk) hnar hfit
  have fin : ∀ H' : Heap, H'[zad G i j]? = some (cell.setSlot f.slot v) → H'.size = H.size → (∀ q, q ≠ zad G i j → H'[q]? = H[q]?) → W p l e R s m args below meth c H' (locs ++ [⟨zad G i j, f.slot⟩]) cells slots Q (F0 m (pc + 3) lsA st) := by
    intro H' e1 e2 e3
    rw [hsl] at e1
    refine kk H' _ lsA (hW.set (x := .inr (0, fs.set k v)) hok hn e2 ⟨_, rfl, t_OB.to (V := updV (vp_V fs) k v) ⟨_, e1, q2, q3, t_set q4 hap hk v⟩ (fun j _ => vp_updV_set hlen v j)⟩ e3 hh) (hS.put e2 e3 (Nat.le_add_right _ _)) hl h1
  exact W.putFinK cx.1.1 cx.1.2.1 cx.1.2.2.2.1 hf hi hst hcf hin2 (by rw [q2]; exact h6) q1 q3 (by rw [hsl]; exact k2_hasslot (q4 k hk)) rfl rfl d fin
theorem x_getX1 (cx : Cx p s m args meth c cc nL own G) {idx i j : Nat} {fs : List Value} {v : Value} (k : Nat) (hk : k < 9) (hf : zFL s args own idx (TX1 k).1 (TX1 k).2.1 (TX1 k).2.2.1) (hok : zok i j) (hn : zix i j < n) (hp : h i j = .inr (1, fs)) (hv : fs[k]? = some v) (d : decode cc pc = .ok (.getfield idx, 3)) (kk : Xh p l e R s m args below meth c nL G Q cells slots n h (pc + 3) ls (v :: st)) : Xh p l e R s m args below meth c nL G Q cells slots n h pc ls (.ref (zad G i j) :: st) := by
  intro H locs lsA hW hS hl h1
  rcases hf with hf | ⟨host, hf⟩
  · exact va_get (D := G.1) (ci := 1) (C := RX1) (T := TX1) (N := 9) cx.1.1 cx.1.2.1 cx.1.2.2.2.2 zinX1 cx.1.2.2.2.1 cx.2.1.1 (hW.one hok hn hp) 0 rfl rfl k hk hf (fun _ z => z) hv d (kk H locs lsA hW hS hl h1)
  · exact va_getN (D := G.1) (ci := 1) (C := RX1) (T := TX1) (N := 9) cx.1.1 cx.1.2.1 cx.1.2.2.2.2 zinX1 cx.1.2.2.2.1 cx.2.1.1 (hW.one hok hn hp) 0 rfl rfl k hk hf (fun _ z => z) hv d (kk H locs lsA hW hS hl h1)
theorem x_putX1 (cx : Cx p s m args meth c cc nL own G) {idx i j : Nat} {fs : List Value} {v : Value} (k : Nat) (hk : k < 9) (hf : zFL s args own idx (TX1 k).1 (TX1 k).2.1 (TX1 k).2.2.1) (hok : zok i j) (hn : zix i j < n) (hp : h i j = .inr (1, fs)) (hfin : (TX1 k).2.2.2 = false) (hnar : narrow (tyX1 k) v = v) (hfit : fits (tyX1 k) v = true) (hlen : k < fs.length) (hh : ∀ i' j', zok i' j' → zix i' j' < n → h' i' j' = hset h i j (.inr (1, fs.set k v)) i' j') (d : decode cc pc = .ok (.putfield idx, 3)) (kk : Xh p l e R s m args below meth c nL G Q cells slots n h' (pc + 3) ls st) : Xh p l e R s m args below meth c nL G Q cells slots n h pc ls (v :: .ref (zad G i j) :: st) := by
  intro H locs lsA hW hS hl h1
  have hap := va_apart (own := own) cx.1.2.2.2.2 zinX1 tyX1 tyX1_ok nmX1 cx.2.1.1 (ci := 1) rfl
  obtain ⟨r, hr1, cell, q1, q2, q3, q4⟩ := (hW.one hok hn hp) 0 _ rfl
  have hr : r = (RX1, TX1, 9) := Option.some.inj (hr1.symm.trans rfl)
  subst hr
  obtain ⟨hSl, hfc, kC, hkC, hkind⟩ := cx.2.1.1.1 1 _ rfl
  obtain ⟨cf, kf, fi, f, hi, hsl⟩ := hSl k hk
  have hlay := cx.1.2.2.2.2 _ (zinX1 _ (u_in_lay hk))
  unfold u_lay at hlay
  rw [if_neg (by rw [hfin]; decide)] at hlay
  have hst := (u_facts hfc hkC (u_lays cx.1.2.2.2.2 zinX1 hk) hi).1
  have h6 := u_store hfc hkC hkind hlay hi (tyX1_ok k hk) hnar hfit
  have fin : ∀ H' : Heap, H'[zad G i j]? = some (cell.setSlot f.slot v) → H'.size = H.size → (∀ q, q ≠ zad G i j → H'[q]? = H[q]?) → W p l e R s m args below meth c H' (locs ++ [⟨zad G i j, f.slot⟩]) cells slots Q (F0 m (pc + 3) lsA st) := by
    intro H' e1 e2 e3
    rw [hsl] at e1
    refine kk H' _ lsA (hW.set (x := .inr (1, fs.set k v)) hok hn e2 ⟨_, rfl, t_OB.to (V := updV (vp_V fs) k v) ⟨_, e1, q2, q3, t_set q4 hap hk v⟩ (fun j _ => vp_updV_set hlen v j)⟩ e3 hh) (hS.put e2 e3 (Nat.le_add_right _ _)) hl h1
  rcases hf with hf | ⟨host, hf⟩
  · exact W.putK cx.1.1 cx.1.2.1 (f := f) ⟨cx.1.2.2.2.1, hf, ⟨_, _, _, hi⟩, hst⟩ (by rw [q2]; exact h6) q1 q3 (by rw [hsl]; exact k2_hasslot (q4 k hk)) rfl rfl d fin
  · exact va_WputK cx.1.1 cx.1.2.1 (f := f) cx.1.2.2.2.1 hf hi hst (by rw [q2]; exact h6) q1 q3 (by rw [hsl]; exact k2_hasslot (q4 k hk)) rfl rfl d fin
theorem x_putFX1 (cx : Cx p s m args meth c cc nL own G) {idx i j : Nat} {fs : List Value} {v : Value} (k : Nat) (hk : k < 9) (hf : (Cond.fieldLink own idx (TX1 k).1 (TX1 k).2.1 (TX1 k).2.2.1).before args s = true) (hin2 : meth.name = "<init>") (hok : zok i j) (hn : zix i j < n) (hp : h i j = .inr (1, fs)) (hfin : (TX1 k).2.2.2 = true) (hdecl : (TX1 k).1 = own) (hnar : narrow (tyX1 k) v = v) (hfit : fits (tyX1 k) v = true) (hlen : k < fs.length) (hh : ∀ i' j', zok i' j' → zix i' j' < n → h' i' j' = hset h i j (.inr (1, fs.set k v)) i' j') (d : decode cc pc = .ok (.putfield idx, 3)) (kk : Xh p l e R s m args below meth c nL G Q cells slots n h' (pc + 3) ls st) : Xh p l e R s m args below meth c nL G Q cells slots n h pc ls (v :: .ref (zad G i j) :: st) := by
  intro H locs lsA hW hS hl h1
  have hap := va_apart (own := own) cx.1.2.2.2.2 zinX1 tyX1 tyX1_ok nmX1 cx.2.1.1 (ci := 1) rfl
  obtain ⟨r, hr1, cell, q1, q2, q3, q4⟩ := (hW.one hok hn hp) 0 _ rfl
  have hr : r = (RX1, TX1, 9) := Option.some.inj (hr1.symm.trans rfl)
  subst hr
  obtain ⟨hSl, hfc, kC, hkC, hkind⟩ := cx.2.1.1.1 1 _ rfl
  obtain ⟨cf, kf, fi, f, hi, hsl⟩ := hSl k hk
  have hlay := cx.1.2.2.2.2 _ (zinX1 _ (u_in_lay hk))
  unfold u_lay at hlay
  rw [if_pos hfin] at hlay
  have hst := (u_facts hfc hkC (u_lays cx.1.2.2.2.2 zinX1 hk) hi).1
  have hcf : m.cls = cf := by
    obtain ⟨_, _, c', _, _, _, -, -, hf', -, -, -, hown2, -⟩ := Cond.laysFinal_spec hlay
    have e1 : c' = cf := by have := hi.symm.trans hf'; simp at this; exact this.1.symm
    rw [hdecl] at hown2
    rw [← e1]; exact Option.some.inj (cx.1.2.2.2.1.symm.trans hown2)
  have h6 := u_fits hfc hkC hkind (Or.inr hlay) hi (tyX1_ok k hk) hnar hfit
  have fin : ∀ H' : Heap, H'[zad G i j]? = some (cell.setSlot f.slot v) → H'.size = H.size → (∀ q, q ≠ zad G i j → H'[q]? = H[q]?) → W p l e R s m args below meth c H' (locs ++ [⟨zad G i j, f.slot⟩]) cells slots Q (F0 m (pc + 3) lsA st) := by
    intro H' e1 e2 e3
    rw [hsl] at e1
    refine kk H' _ lsA (hW.set (x := .inr (1, fs.set k v)) hok hn e2 ⟨_, rfl, t_OB.to (V := updV (vp_V fs) k v) ⟨_, e1, q2, q3, t_set q4 hap hk v⟩ (fun j _ => vp_updV_set hlen v j)⟩ e3 hh) (hS.put e2 e3 (Nat.le_add_right _ _)) hl h1
  exact W.putFinK cx.1.1 cx.1.2.1 cx.1.2.2.2.1 hf hi hst hcf hin2 (by rw [q2]; exact h6) q1 q3 (by rw [hsl]; exact k2_hasslot (q4 k hk)) rfl rfl d fin
theorem x_getX3 (cx : Cx p s m args meth c cc nL own G) {idx i j : Nat} {fs : List Value} {v : Value} (k : Nat) (hk : k < 2) (hf : zFL s args own idx (TX3 k).1 (TX3 k).2.1 (TX3 k).2.2.1) (hok : zok i j) (hn : zix i j < n) (hp : h i j = .inr (2, fs)) (hv : fs[k]? = some v) (d : decode cc pc = .ok (.getfield idx, 3)) (kk : Xh p l e R s m args below meth c nL G Q cells slots n h (pc + 3) ls (v :: st)) : Xh p l e R s m args below meth c nL G Q cells slots n h pc ls (.ref (zad G i j) :: st) := by
  intro H locs lsA hW hS hl h1
  rcases hf with hf | ⟨host, hf⟩
  · exact va_get (D := G.1) (ci := 2) (C := RX3) (T := TX3) (N := 2) cx.1.1 cx.1.2.1 cx.1.2.2.2.2 zinX3 cx.1.2.2.2.1 cx.2.1.1 (hW.one hok hn hp) 0 rfl rfl k hk hf (fun _ z => z) hv d (kk H locs lsA hW hS hl h1)
  · exact va_getN (D := G.1) (ci := 2) (C := RX3) (T := TX3) (N := 2) cx.1.1 cx.1.2.1 cx.1.2.2.2.2 zinX3 cx.1.2.2.2.1 cx.2.1.1 (hW.one hok hn hp) 0 rfl rfl k hk hf (fun _ z => z) hv d (kk H locs lsA hW hS hl h1)
theorem x_putX3 (cx : Cx p s m args meth c cc nL own G) {idx i j : Nat} {fs : List Value} {v : Value} (k : Nat) (hk : k < 2) (hf : zFL s args own idx (TX3 k).1 (TX3 k).2.1 (TX3 k).2.2.1) (hok : zok i j) (hn : zix i j < n) (hp : h i j = .inr (2, fs)) (hfin : (TX3 k).2.2.2 = false) (hnar : narrow (tyX3 k) v = v) (hfit : fits (tyX3 k) v = true) (hlen : k < fs.length) (hh : ∀ i' j', zok i' j' → zix i' j' < n → h' i' j' = hset h i j (.inr (2, fs.set k v)) i' j') (d : decode cc pc = .ok (.putfield idx, 3)) (kk : Xh p l e R s m args below meth c nL G Q cells slots n h' (pc + 3) ls st) : Xh p l e R s m args below meth c nL G Q cells slots n h pc ls (v :: .ref (zad G i j) :: st) := by
  intro H locs lsA hW hS hl h1
  have hap := va_apart (own := own) cx.1.2.2.2.2 zinX3 tyX3 tyX3_ok nmX3 cx.2.1.1 (ci := 2) rfl
  obtain ⟨r, hr1, cell, q1, q2, q3, q4⟩ := (hW.one hok hn hp) 0 _ rfl
  have hr : r = (RX3, TX3, 2) := Option.some.inj (hr1.symm.trans rfl)
  subst hr
  obtain ⟨hSl, hfc, kC, hkC, hkind⟩ := cx.2.1.1.1 2 _ rfl
  obtain ⟨cf, kf, fi, f, hi, hsl⟩ := hSl k hk
  have hlay := cx.1.2.2.2.2 _ (zinX3 _ (u_in_lay hk))
  unfold u_lay at hlay
  rw [if_neg (by rw [hfin]; decide)] at hlay
  have hst := (u_facts hfc hkC (u_lays cx.1.2.2.2.2 zinX3 hk) hi).1
  have h6 := u_store hfc hkC hkind hlay hi (tyX3_ok k hk) hnar hfit
  have fin : ∀ H' : Heap, H'[zad G i j]? = some (cell.setSlot f.slot v) → H'.size = H.size → (∀ q, q ≠ zad G i j → H'[q]? = H[q]?) → W p l e R s m args below meth c H' (locs ++ [⟨zad G i j, f.slot⟩]) cells slots Q (F0 m (pc + 3) lsA st) := by
    intro H' e1 e2 e3
    rw [hsl] at e1
    refine kk H' _ lsA (hW.set (x := .inr (2, fs.set k v)) hok hn e2 ⟨_, rfl, t_OB.to (V := updV (vp_V fs) k v) ⟨_, e1, q2, q3, t_set q4 hap hk v⟩ (fun j _ => vp_updV_set hlen v j)⟩ e3 hh) (hS.put e2 e3 (Nat.le_add_right _ _)) hl h1
  rcases hf with hf | ⟨host, hf⟩
  · exact W.putK cx.1.1 cx.1.2.1 (f := f) ⟨cx.1.2.2.2.1, hf, ⟨_, _, _, hi⟩, hst⟩ (by rw [q2]; exact h6) q1 q3 (by rw [hsl]; exact k2_hasslot (q4 k hk)) rfl rfl d fin
  · exact va_WputK cx.1.1 cx.1.2.1 (f := f) cx.1.2.2.2.1 hf hi hst (by rw [q2]; exact h6) q1 q3 (by rw [hsl]; exact k2_hasslot (q4 k hk)) rfl rfl d fin
theorem x_putFX3 (cx : Cx p s m args meth c cc nL own G) {idx i j : Nat} {fs : List Value} {v : Value} (k : Nat) (hk : k < 2) (hf : (Cond.fieldLink own idx (TX3 k).1 (TX3 k).2.1 (TX3 k).2.2.1).before args s = true) (hin2 : meth.name = "<init>") (hok : zok i j) (hn : zix i j < n) (hp : h i j = .inr (2, fs)) (hfin : (TX3 k).2.2.2 = true) (hdecl : (TX3 k).1 = own) (hnar : narrow (tyX3 k) v = v) (hfit : fits (tyX3 k) v = true) (hlen : k < fs.length) (hh : ∀ i' j', zok i' j' → zix i' j' < n → h' i' j' = hset h i j (.inr (2, fs.set k v)) i' j') (d : decode cc pc = .ok (.putfield idx, 3)) (kk : Xh p l e R s m args below meth c nL G Q cells slots n h' (pc + 3) ls st) : Xh p l e R s m args below meth c nL G Q cells slots n h pc ls (v :: .ref (zad G i j) :: st) := by
  intro H locs lsA hW hS hl h1
  have hap := va_apart (own := own) cx.1.2.2.2.2 zinX3 tyX3 tyX3_ok nmX3 cx.2.1.1 (ci := 2) rfl
  obtain ⟨r, hr1, cell, q1, q2, q3, q4⟩ := (hW.one hok hn hp) 0 _ rfl
  have hr : r = (RX3, TX3, 2) := Option.some.inj (hr1.symm.trans rfl)
  subst hr
  obtain ⟨hSl, hfc, kC, hkC, hkind⟩ := cx.2.1.1.1 2 _ rfl
  obtain ⟨cf, kf, fi, f, hi, hsl⟩ := hSl k hk
  have hlay := cx.1.2.2.2.2 _ (zinX3 _ (u_in_lay hk))
  unfold u_lay at hlay
  rw [if_pos hfin] at hlay
  have hst := (u_facts hfc hkC (u_lays cx.1.2.2.2.2 zinX3 hk) hi).1
  have hcf : m.cls = cf := by
    obtain ⟨_, _, c', _, _, _, -, -, hf', -, -, -, hown2, -⟩ := Cond.laysFinal_spec hlay
    have e1 : c' = cf := by have := hi.symm.trans hf'; simp at this; exact this.1.symm
    rw [hdecl] at hown2
    rw [← e1]; exact Option.some.inj (cx.1.2.2.2.1.symm.trans hown2)
  have h6 := u_fits hfc hkC hkind (Or.inr hlay) hi (tyX3_ok k hk) hnar hfit
  have fin : ∀ H' : Heap, H'[zad G i j]? = some (cell.setSlot f.slot v) → H'.size = H.size → (∀ q, q ≠ zad G i j → H'[q]? = H[q]?) → W p l e R s m args below meth c H' (locs ++ [⟨zad G i j, f.slot⟩]) cells slots Q (F0 m (pc + 3) lsA st) := by
    intro H' e1 e2 e3
    rw [hsl] at e1
    refine kk H' _ lsA (hW.set (x := .inr (2, fs.set k v)) hok hn e2 ⟨_, rfl, t_OB.to (V := updV (vp_V fs) k v) ⟨_, e1, q2, q3, t_set q4 hap hk v⟩ (fun j _ => vp_updV_set hlen v j)⟩ e3 hh) (hS.put e2 e3 (Nat.le_add_right _ _)) hl h1
  exact W.putFinK cx.1.1 cx.1.2.1 cx.1.2.2.2.1 hf hi hst hcf hin2 (by rw [q2]; exact h6) q1 q3 (by rw [hsl]; exact k2_hasslot (q4 k hk)) rfl rfl d fin
theorem x_getX5 (cx : Cx p s m args meth c cc nL own G) {idx i j : Nat} {fs : List Value} {v : Value} (k : Nat) (hk : k < 2) (hf : zFL s args own idx (TX5 k).1 (TX5 k).2.1 (TX5 k).2.2.1) (hok : zok i j) (hn : zix i j < n) (hp : h i j = .inr (3, fs)) (hv : fs[k]? = some v) (d : decode cc pc = .ok (.getfield idx, 3)) (kk : Xh p l e R s m args below meth c nL G Q cells slots n h (pc + 3) ls (v :: st)) : Xh p l e R s m args below meth c nL G Q cells slots n h pc ls (.ref (zad G i j) :: st) := by
  intro H locs lsA hW hS hl h1
  rcases hf with hf | ⟨host, hf⟩
  · exact va_get (D := G.1) (ci := 3) (C := RX5) (T := TX5) (N := 2) cx.1.1 cx.1.2.1 cx.1.2.2.2.2 zinX5 cx.1.2.2.2.1 cx.2.1.1 (hW.one hok hn hp) 0 rfl rfl k hk hf (fun _ z => z) hv d (kk H locs lsA hW hS hl h1)
  · exact va_getN (D := G.1) (ci := 3) (C := RX5) (T := TX5) (N := 2) cx.1.1 cx.1.2.1 cx.1.2.2.2.2 zinX5 cx.1.2.2.2.1 cx.2.1.1 (hW.one hok hn hp) 0 rfl rfl k hk hf (fun _ z => z) hv d (kk H locs lsA hW hS hl h1)
theorem x_putX5 (cx : Cx p s m args meth c cc nL own G) {idx i j : Nat} {fs : List Value} {v : Value} (k : Nat) (hk : k < 2) (hf : zFL s args own idx (TX5 k).1 (TX5 k).2.1 (TX5 k).2.2.1) (hok : zok i j) (hn : zix i j < n) (hp : h i j = .inr (3, fs)) (hfin : (TX5 k).2.2.2 = false) (hnar : narrow (tyX5 k) v = v) (hfit : fits (tyX5 k) v = true) (hlen : k < fs.length) (hh : ∀ i' j', zok i' j' → zix i' j' < n → h' i' j' = hset h i j (.inr (3, fs.set k v)) i' j') (d : decode cc pc = .ok (.putfield idx, 3)) (kk : Xh p l e R s m args below meth c nL G Q cells slots n h' (pc + 3) ls st) : Xh p l e R s m args below meth c nL G Q cells slots n h pc ls (v :: .ref (zad G i j) :: st) := by
  intro H locs lsA hW hS hl h1
  have hap := va_apart (own := own) cx.1.2.2.2.2 zinX5 tyX5 tyX5_ok nmX5 cx.2.1.1 (ci := 3) rfl
  obtain ⟨r, hr1, cell, q1, q2, q3, q4⟩ := (hW.one hok hn hp) 0 _ rfl
  have hr : r = (RX5, TX5, 2) := Option.some.inj (hr1.symm.trans rfl)
  subst hr
  obtain ⟨hSl, hfc, kC, hkC, hkind⟩ := cx.2.1.1.1 3 _ rfl
  obtain ⟨cf, kf, fi, f, hi, hsl⟩ := hSl k hk
  have hlay := cx.1.2.2.2.2 _ (zinX5 _ (u_in_lay hk))
  unfold u_lay at hlay
  rw [if_neg (by rw [hfin]; decide)] at hlay
  have hst := (u_facts hfc hkC (u_lays cx.1.2.2.2.2 zinX5 hk) hi).1
  have h6 := u_store hfc hkC hkind hlay hi (tyX5_ok k hk) hnar hfit
  have fin : ∀ H' : Heap, H'[zad G i j]? = some (cell.setSlot f.slot v) → H'.size = H.size → (∀ q, q ≠ zad G i j → H'[q]? = H[q]?) → W p l e R s m args below meth c H' (locs ++ [⟨zad G i j, f.slot⟩]) cells slots Q (F0 m (pc + 3) lsA st) := by
    intro H' e1 e2 e3
    rw [hsl] at e1
    refine kk H' _ lsA (hW.set (x := .inr (3, fs.set k v)) hok hn e2 ⟨_, rfl, t_OB.to (V := updV (vp_V fs) k v) ⟨_, e1, q2, q3, t_set q4 hap hk v⟩ (fun j _ => vp_updV_set hlen v j)⟩ e3 hh) (hS.put e2 e3 (Nat.le_add_right _ _)) hl h1
  rcases hf with hf | ⟨host, hf⟩
  · exact W.putK cx.1.1 cx.1.2.1 (f := f) ⟨cx.1.2.2.2.1, hf, ⟨_, _, _, hi⟩, hst⟩ (by rw [q2]; exact h6) q1 q3 (by rw [hsl]; exact k2_hasslot (q4 k hk)) rfl rfl d fin
  · exact va_WputK cx.1.1 cx.1.2.1 (f := f) cx.1.2.2.2.1 hf hi hst (by rw [q2]; exact h6) q1 q3 (by rw [hsl]; exact k2_hasslot (q4 k hk)) rfl rfl d fin
theorem x_putFX5 (cx : Cx p s m args meth c cc nL own G) {idx i j : Nat} {fs : List Value} {v : Value} (k : Nat) (hk : k < 2) (hf : (Cond.fieldLink own idx (TX5 k).1 (TX5 k).2.1 (TX5 k).2.2.1).before args s = true) (hin2 : meth.name = "<init>") (hok : zok i j) (hn : zix i j < n) (hp : h i j = .inr (3, fs)) (hfin : (TX5 k).2.2.2 = true) (hdecl : (TX5 k).1 = own) (hnar : narrow (tyX5 k) v = v) (hfit : fits (tyX5 k) v = true) (hlen : k < fs.length) (hh : ∀ i' j', zok i' j' → zix i' j' < n → h' i' j' = hset h i j (.inr (3, fs.set k v)) i' j') (d : decode cc pc = .ok (.putfield idx, 3)) (kk : Xh p l e R s m args below meth c nL G Q cells slots n h' (pc + 3) ls st) : Xh p l e R s m args below meth c nL G Q cells slots n h pc ls (v :: .ref (zad G i j) :: st) := by
  intro H locs lsA hW hS hl h1
  have hap := va_apart (own := own) cx.1.2.2.2.2 zinX5 tyX5 tyX5_ok nmX5 cx.2.1.1 (ci := 3) rfl
  obtain ⟨r, hr1, cell, q1, q2, q3, q4⟩ := (hW.one hok hn hp) 0 _ rfl
  have hr : r = (RX5, TX5, 2) := Option.some.inj (hr1.symm.trans rfl)
  subst hr
  obtain ⟨hSl, hfc, kC, hkC, hkind⟩ := cx.2.1.1.1 3 _ rfl
  obtain ⟨cf, kf, fi, f, hi, hsl⟩ := hSl k hk
  have hlay := cx.1.2.2.2.2 _ (zinX5 _ (u_in_lay hk))
  unfold u_lay at hlay
  rw [if_pos hfin] at hlay
  have hst := (u_facts hfc hkC (u_lays cx.1.2.2.2.2 zinX5 hk) hi).1
  have hcf : m.cls = cf := by
    obtain ⟨_, _, c', _, _, _, -, -, hf', -, -, -, hown2, -⟩ := Cond.laysFinal_spec hlay
    have e1 : c' = cf := by have := hi.symm.trans hf'; simp at this; exact this.1.symm
    rw [hdecl] at hown2
    rw [← e1]; exact Option.some.inj (cx.1.2.2.2.1.symm.trans hown2)
  have h6 := u_fits hfc hkC hkind (Or.inr hlay) hi (tyX5_ok k hk) hnar hfit
  have fin : ∀ H' : Heap, H'[zad G i j]? = some (cell.setSlot f.slot v) → H'.size = H.size → (∀ q, q ≠ zad G i j → H'[q]? = H[q]?) → W p l e R s m args below meth c H' (locs ++ [⟨zad G i j, f.slot⟩]) cells slots Q (F0 m (pc + 3) lsA st) := by
    intro H' e1 e2 e3
    rw [hsl] at e1
    refine kk H' _ lsA (hW.set (x := .inr (3, fs.set k v)) hok hn e2 ⟨_, rfl, t_OB.to (V := updV (vp_V fs) k v) ⟨_, e1, q2, q3, t_set q4 hap hk v⟩ (fun j _ => vp_updV_set hlen v j)⟩ e3 hh) (hS.put e2 e3 (Nat.le_add_right _ _)) hl h1
  exact W.putFinK cx.1.1 cx.1.2.1 cx.1.2.2.2.1 hf hi hst hcf hin2 (by rw [q2]; exact h6) q1 q3 (by rw [hsl]; exact k2_hasslot (q4 k hk)) rfl rfl d fin
theorem x_getX6 (cx : Cx p s m args meth c cc nL own G) {idx i j : Nat} {fs : List Value} {v : Value} (k : Nat) (hk : k < 6) (hf : zFL s args own idx (TX6 k).1 (TX6 k).2.1 (TX6 k).2.2.1) (hok : zok i j) (hn : zix i j < n) (hp : h i j = .inr (4, fs)) (hv : fs[k]? = some v) (d : decode cc pc = .ok (.getfield idx, 3)) (kk : Xh p l e R s m args below meth c nL G Q cells slots n h (pc + 3) ls (v :: st)) : Xh p l e R s m args below meth c nL G Q cells slots n h pc ls (.ref (zad G i j) :: st) := by
  intro H locs lsA hW hS hl h1
  rcases hf with hf | ⟨host, hf⟩
  · exact va_get (D := G.1) (ci := 4) (C := RX6) (T := TX6) (N := 6) cx.1.1 cx.1.2.1 cx.1.2.2.2.2 zinX6 cx.1.2.2.2.1 cx.2.1.1 (hW.one hok hn hp) 0 rfl rfl k hk hf (fun _ z => z) hv d (kk H locs lsA hW hS hl h1)
  · exact va_getN (D := G.1) (ci := 4) (C := RX6) (T := TX6) (N := 6) cx.1.1 cx.1.2.1 cx.1.2.2.2.2 zinX6 cx.1.2.2.2.1 cx.2.1.1 (hW.one hok hn hp) 0 rfl rfl k hk hf (fun _ z => z) hv d (kk H locs lsA hW hS hl h1)
theorem x_putX6 (cx : Cx p s m args meth c cc nL own G) {idx i j : Nat} {fs : List Value} {v : Value} (k : Nat) (hk : k < 6) (hf : zFL s args own idx (TX6 k).1 (TX6 k).2.1 (TX6 k).2.2.1) (hok : zok i j) (hn : zix i j < n) (hp : h i j = .inr (4, fs)) (hfin : (TX6 k).2.2.2 = false) (hnar : narrow (tyX6 k) v = v) (hfit : fits (tyX6 k) v = true) (hlen : k < fs.length) (hh : ∀ i' j', zok i' j' → zix i' j' < n → h' i' j' = hset h i j (.inr (4, fs.set k v)) i' j') (d : decode cc pc = .ok (.putfield idx, 3)) (kk : Xh p l e R s m args below meth c nL G Q cells slots n h' (pc + 3) ls st) : Xh p l e R s m args below meth c nL G Q cells slots n h pc ls (v :: .ref (zad G i j) :: st) := by
  intro H locs lsA hW hS hl h1
  have hap := va_apart (own := own) cx.1.2.2.2.2 zinX6 tyX6 tyX6_ok nmX6 cx.2.1.1 (ci := 4) rfl
  obtain ⟨r, hr1, cell, q1, q2, q3, q4⟩ := (hW.one hok hn hp) 0 _ rfl
  have hr : r = (RX6, TX6, 6) := Option.some.inj (hr1.symm.trans rfl)
  subst hr
  obtain ⟨hSl, hfc, kC, hkC, hkind⟩ := cx.2.1.1.1 4 _ rfl
  obtain ⟨cf, kf, fi, f, hi, hsl⟩ := hSl k hk
  have hlay := cx.1.2.2.2.2 _ (zinX6 _ (u_in_lay hk))
  unfold u_lay at hlay
  rw [if_neg (by rw [hfin]; decide)] at hlay
  have hst := (u_facts hfc hkC (u_lays cx.1.2.2.2.2 zinX6 hk) hi).1
  have h6 := u_store hfc hkC hkind hlay hi (tyX6_ok k hk) hnar hfit
  have fin : ∀ H' : Heap, H'[zad G i j]? = some (cell.setSlot f.slot v) → H'.size = H.size → (∀ q, q ≠ zad G i j → H'[q]? = H[q]?) → W p l e R s m args below meth c H' (locs ++ [⟨zad G i j, f.slot⟩]) cells slots Q (F0 m (pc + 3) lsA st) := by
    intro H' e1 e2 e3
    rw [hsl] at e1
    refine kk H' _ lsA (hW.set (x := .inr (4, fs.set k v)) hok hn e2 ⟨_, rfl, t_OB.to (V := updV (vp_V fs) k v) ⟨_, e1, q2, q3, t_set q4 hap hk v⟩ (fun j _ => vp_updV_set hlen v j)⟩ e3 hh) (hS.put e2 e3 (Nat.le_add_right _ _)) hl h1
  rcases hf with hf | ⟨host, hf⟩
  · exact W.putK cx.1.1 cx.1.2.1 (f := f) ⟨cx.1.2.2.2.1, hf, ⟨_, _, _, hi⟩, hst⟩ (by rw [q2]; exact h6) q1 q3 (by rw [hsl]; exact k2_hasslot (q4 k hk)) rfl rfl d fin
  · exact va_WputK cx.1.1 cx.1.2.1 (f := f) cx.1.2.2.2.1 hf hi hst (by rw [q2]; exact h6) q1 q3 (by rw [hsl]; exact k2_hasslot (q4 k hk)) rfl rfl d fin
theorem x_putFX6 (cx : Cx p s m args meth c cc nL own G) {idx i j : Nat} {fs : List Value} {v : Value} (k : Nat) (hk : k < 6) (hf : (Cond.fieldLink own idx (TX6 k).1 (TX6 k).2.1 (TX6 k).2.2.1).before args s = true) (hin2 : meth.name = "<init>") (hok : zok i j) (hn : zix i j < n) (hp : h i j = .inr (4, fs)) (hfin : (TX6 k).2.2.2 = true) (hdecl : (TX6 k).1 = own) (hnar : narrow (tyX6 k) v = v) (hfit : fits (tyX6 k) v = true) (hlen : k < fs.length) (hh : ∀ i' j', zok i' j' → zix i' j' < n → h' i' j' = hset h i j (.inr (4, fs.set k v)) i' j') (d : decode cc pc = .ok (.putfield idx, 3)) (kk : Xh p l e R s m args below meth c nL G Q cells slots n h' (pc + 3) ls st) : Xh p l e R s m args below meth c nL G Q cells slots n h pc ls (v :: .ref (zad G i j) :: st) := by
  intro H locs lsA hW hS hl h1
  have hap := va_apart (own := own) cx.1.2.2.2.2 zinX6 tyX6 tyX6_ok nmX6 cx.2.1.1 (ci := 4) rfl
  obtain ⟨r, hr1, cell, q1, q2, q3, q4⟩ := (hW.one hok hn hp) 0 _ rfl
  have hr : r = (RX6, TX6, 6) := Option.some.inj (hr1.symm.trans rfl)
  subst hr
  obtain ⟨hSl, hfc, kC, hkC, hkind⟩ := cx.2.1.1.1 4 _ rfl
  obtain ⟨cf, kf, fi, f, hi, hsl⟩ := hSl k hk
  have hlay := cx.1.2.2.2.2 _ (zinX6 _ (u_in_lay hk))
  unfold u_lay at hlay
  rw [if_pos hfin] at hlay
  have hst := (u_facts hfc hkC (u_lays cx.1.2.2.2.2 zinX6 hk) hi).1
  have hcf : m.cls = cf := by
    obtain ⟨_, _, c', _, _, _, -, -, hf', -, -, -, hown2, -⟩ := Cond.laysFinal_spec hlay
    have e1 : c' = cf := by have := hi.symm.trans hf'; simp at this; exact this.1.symm
    rw [hdecl] at hown2
    rw [← e1]; exact Option.some.inj (cx.1.2.2.2.1.symm.trans hown2)
  have h6 := u_fits hfc hkC hkind (Or.inr hlay) hi (tyX6_ok k hk) hnar hfit
  have fin : ∀ H' : Heap, H'[zad G i j]? = some (cell.setSlot f.slot v) → H'.size = H.size → (∀ q, q ≠ zad G i j → H'[q]? = H[q]?) → W p l e R s m args below meth c H' (locs ++ [⟨zad G i j, f.slot⟩]) cells slots Q (F0 m (pc + 3) lsA st) := by
    intro H' e1 e2 e3
    rw [hsl] at e1
    refine kk H' _ lsA (hW.set (x := .inr (4, fs.set k v)) hok hn e2 ⟨_, rfl, t_OB.to (V := updV (vp_V fs) k v) ⟨_, e1, q2, q3, t_set q4 hap hk v⟩ (fun j _ => vp_updV_set hlen v j)⟩ e3 hh) (hS.put e2 e3 (Nat.le_add_right _ _)) hl h1
  exact W.putFinK cx.1.1 cx.1.2.1 cx.1.2.2.2.1 hf hi hst hcf hin2 (by rw [q2]; exact h6) q1 q3 (by rw [hsl]; exact k2_hasslot (q4 k hk)) rfl rfl d fin
theorem x_getX7 (cx : Cx p s m args meth c cc nL own G) {idx i j : Nat} {fs : List Value} {v : Value} (k : Nat) (hk : k < 9) (hf : zFL s args own idx (TX7 k).1 (TX7 k).2.1 (TX7 k).2.2.1) (hok : zok i j) (hn : zix i j < n) (hp : h i j = .inr (5, fs)) (hv : fs[k]? = some v) (d : decode cc pc = .ok (.getfield idx, 3)) (kk : Xh p l e R s m args below meth c nL G Q cells slots n h (pc + 3) ls (v :: st)) : Xh p l e R s m args below meth c nL G Q cells slots n h pc ls (.ref (zad G i j) :: st) := by
  intro H locs lsA hW hS hl h1
  rcases hf with hf | ⟨host, hf⟩
  · exact va_get (D := G.1) (ci := 5) (C := RX7) (T := TX7) (N := 9) cx.1.1 cx.1.2.1 cx.1.2.2.2.2 zinX7 cx.1.2.2.2.1 cx.2.1.1 (hW.one hok hn hp) 0 rfl rfl k hk hf (fun _ z => z) hv d (kk H locs lsA hW hS hl h1)
  · exact va_getN (D := G.1) (ci := 5) (C := RX7) (T := TX7) (N := 9) cx.1.1 cx.1.2.1 cx.1.2.2.2.2 zinX7 cx.1.2.2.2.1 cx.2.1.1 (hW.one hok hn hp) 0 rfl rfl k hk hf (fun _ z => z) hv d (kk H locs lsA hW hS hl h1)
theorem x_putX7 (cx : Cx p s m args meth c cc nL own G) {idx i j : Nat} {fs : List Value} {v : Value} (k : Nat) (hk : k < 9) (hf : zFL s args own idx (TX7 k).1 (TX7 k).2.1 (TX7 k).2.2.1) (hok : zok i j) (hn : zix i j < n) (hp : h i j = .inr (5, fs)) (hfin : (TX7 k).2.2.2 = false) (hnar : narrow (tyX7 k) v = v) (hfit : fits (tyX7 k) v = true) (hlen : k < fs.length) (hh : ∀ i' j', zok i' j' → zix i' j' < n → h' i' j' = hset h i j (.inr (5, fs.set k v)) i' j') (d : decode cc pc = .ok (.putfield idx, 3)) (kk : Xh p l e R s m args below meth c nL G Q cells slots n h' (pc + 3) ls st) : Xh p l e R s m args below meth c nL G Q cells slots n h pc ls (v :: .ref (zad G i j) :: st) := by
  intro H locs lsA hW hS hl h1
  have hap := va_apart (own := own) cx.1.2.2.2.2 zinX7 tyX7 tyX7_ok nmX7 cx.2.1.1 (ci := 5) rfl
  obtain ⟨r, hr1, cell, q1, q2, q3, q4⟩ := (hW.one hok hn hp) 0 _ rfl
  have hr : r = (RX7, TX7, 9) := Option.some.inj (hr1.symm.trans rfl)
  subst hr
  obtain ⟨hSl, hfc, kC, hkC, hkind⟩ := cx.2.1.1.1 5 _ rfl
  obtain ⟨cf, kf, fi, f, hi, hsl⟩ := hSl k hk
  have hlay := cx.1.2.2.2.2 _ (zinX7 _ (u_in_lay hk))
  unfold u_lay at hlay
  rw [if_neg (by rw [hfin]; decide)] at hlay
  have hst := (u_facts hfc hkC (u_lays cx.1.2.2.2.2 zinX7 hk) hi).1
  have h6 := u_store hfc hkC hkind hlay hi (tyX7_ok k hk) hnar hfit
  have fin : ∀ H' : Heap, H'[zad G i j]? = some (cell.setSlot f.slot v) → H'.size = H.size → (∀ q, q ≠ zad G i j → H'[q]? = H[q]?) → W p l e R s m args below meth c H' (locs ++ [⟨zad G i j, f.slot⟩]) cells slots Q (F0 m (pc + 3) lsA st) := by
    intro H' e1 e2 e3
    rw [hsl] at e1
    refine kk H' _ lsA (hW.set (x := .inr (5, fs.set k v)) hok hn e2 ⟨_, rfl, t_OB.to (V := updV (vp_V fs) k v) ⟨_, e1, q2, q3, t_set q4 hap hk v⟩ (fun j _ => vp_updV_set hlen v j)⟩ e3 hh) (hS.put e2 e3 (Nat.le_add_right _ _)) hl h1
  rcases hf with hf | ⟨host, hf⟩
  · exact W.putK cx.1.1 cx.1.2.1 (f := f) ⟨cx.1.2.2.2.1, hf, ⟨_, _, _, hi⟩, hst⟩ (by rw [q2]; exact h6) q1 q3 (by rw [hsl]; exact k2_hasslot (q4 k hk)) rfl rfl d fin
  · exact va_WputK cx.1.1 cx.1.2.1 (f := f) cx.1.2.2.2.1 hf hi hst (by rw [q2]; exact h6) q1 q3 (by rw [hsl]; exact k2_hasslot (q4 k hk)) rfl rfl d fin
theorem x_putFX7 (cx : Cx p s m args meth c cc nL own G) {idx i j : Nat} {fs : List Value} {v : Value} (k : Nat) (hk : k < 9) (hf : (Cond.fieldLink own idx (TX7 k).1 (TX7 k).2.1 (TX7 k).2.2.1).before args s = true) (hin2 : meth.name = "<init>") (hok : zok i j) (hn : zix i j < n) (hp : h i j = .inr (5, fs)) (hfin : (TX7 k).2.2.2 = true) (hdecl : (TX7 k).1 = own) (hnar : narrow (tyX7 k) v = v) (hfit : fits (tyX7 k) v = true) (hlen : k < fs.length) (hh : ∀ i' j', zok i' j' → zix i' j' < n → h' i' j' = hset h i j (.inr (5, fs.set k v)) i' j') (d : decode cc pc = .ok (.putfield idx, 3)) (kk : Xh p l e R s m args below meth c nL G Q cells slots n h' (pc + 3) ls st) : Xh p l e R s m args below meth c nL G Q cells slots n h pc ls (v :: .ref (zad G i j) :: st) := by
  intro H locs lsA hW hS hl h1
  have hap := va_apart (own := own) cx.1.2.2.2.2 zinX7 tyX7 tyX7_ok nmX7 cx.2.1.1 (ci := 5) rfl
  obtain ⟨r, hr1, cell, q1, q2, q3, q4⟩ := (hW.one hok hn hp) 0 _ rfl
  have hr : r = (RX7, TX7, 9) := Option.some.inj (hr1.symm.trans rfl)
  subst hr
  obtain ⟨hSl, hfc, kC, hkC, hkind⟩ := cx.2.1.1.1 5 _ rfl
  obtain ⟨cf, kf, fi, f, hi, hsl⟩ := hSl k hk
  have hlay := cx.1.2.2.2.2 _ (zinX7 _ (u_in_lay hk))
  unfold u_lay at hlay
  rw [if_pos hfin] at hlay
  have hst := (u_facts hfc hkC (u_lays cx.1.2.2.2.2 zinX7 hk) hi).1
  have hcf : m.cls = cf := by
    obtain ⟨_, _, c', _, _, _, -, -, hf', -, -, -, hown2, -⟩ := Cond.laysFinal_spec hlay
    have e1 : c' = cf := by have := hi.symm.trans hf'; simp at this; exact this.1.symm
    rw [hdecl] at hown2
    rw [← e1]; exact Option.some.inj (cx.1.2.2.2.1.symm.trans hown2)
  have h6 := u_fits hfc hkC hkind (Or.inr hlay) hi (tyX7_ok k hk) hnar hfit
  have fin : ∀ H' : Heap, H'[zad G i j]? = some (cell.setSlot f.slot v) → H'.size = H.size → (∀ q, q ≠ zad G i j → H'[q]? = H[q]?) → W p l e R s m args below meth c H' (locs ++ [⟨zad G i j, f.slot⟩]) cells slots Q (F0 m (pc + 3) lsA st) := by
    intro H' e1 e2 e3
    rw [hsl] at e1
    refine kk H' _ lsA (hW.set (x := .inr (5, fs.set k v)) hok hn e2 ⟨_, rfl, t_OB.to (V := updV (vp_V fs) k v) ⟨_, e1, q2, q3, t_set q4 hap hk v⟩ (fun j _ => vp_updV_set hlen v j)⟩ e3 hh) (hS.put e2 e3 (Nat.le_add_right _ _)) hl h1
  exact W.putFinK cx.1.1 cx.1.2.1 cx.1.2.2.2.1 hf hi hst hcf hin2 (by rw [q2]; exact h6) q1 q3 (by rw [hsl]; exact k2_hasslot (q4 k hk)) rfl rfl d fin
theorem x_iald (cx : Cx p s m args meth c cc nL own G) {i j N t : Nat} {f : Nat → Int32} {x v : Int32} (hok : zok i j) (hn : zix i j < n) (hp : h i j = .inl (G.2.1 0, N, .inl f)) (hx : x = nI t) (ht : t < N) (hN : N ≤ 1000) (hv : f t = v) (d : decode cc pc = .ok (.iaload, 1)) (kk : Xh p l e R s m args below meth c nL G Q cells slots n h (pc + 1) ls (.int v :: st)) : Xh p l e R s m args below meth c nL G Q cells slots n h pc ls (.int x :: .ref (zad G i j) :: st) := by
  intro H locs lsA hW hS hl h1
  subst hx; subst hv
  have hc : (nI t).toNatClampNeg = t := nI_clamp (by omega)
  refine va_iald cx.1.1 cx.1.2.1 cx.2.1.1 (hW.one hok hn hp) 0 0 rfl rfl (i := nI t) (nI_in ht (by omega)) d ?_
  rw [hc]
  exact (kk H locs lsA hW hS hl h1)
theorem x_cald (cx : Cx p s m args meth c cc nL own G) {i j N t : Nat} {f : Nat → Int32} {x v : Int32} (hok : zok i j) (hn : zix i j < n) (hp : h i j = .inl (G.2.1 1, N, .inl f)) (hx : x = nI t) (ht : t < N) (hN : N ≤ 1000) (hv : f t = v) (d : decode cc pc = .ok (.caload, 1)) (kk : Xh p l e R s m args below meth c nL G Q cells slots n h (pc + 1) ls (.int v :: st)) : Xh p l e R s m args below meth c nL G Q cells slots n h pc ls (.int x :: .ref (zad G i j) :: st) := by
  intro H locs lsA hW hS hl h1
  subst hx; subst hv
  have hc : (nI t).toNatClampNeg = t := nI_clamp (by omega)
  refine va_cald cx.1.1 cx.1.2.1 cx.2.1.1 (hW.one hok hn hp) 0 1 rfl rfl (i := nI t) (nI_in ht (by omega)) d ?_
  rw [hc]
  exact (kk H locs lsA hW hS hl h1)
theorem x_aald (cx : Cx p s m args meth c cc nL own G) {i j N t a : Nat} {f : Nat → Option Nat} {x : Int32} (k : Nat) {C : String} (hk : (ztys G)[k]? = some (G.2.1 k, .object C)) (hok : zok i j) (hn : zix i j < n) (hp : h i j = .inl (G.2.1 k, N, .inr (.inr (.inr (.inr f))))) (hx : x = nI t) (ht : t < N) (hN : N ≤ 1000) (hv : f t = some a) (d : decode cc pc = .ok (.aaload, 1)) (kk : Xh p l e R s m args below meth c nL G Q cells slots n h (pc + 1) ls (.ref a :: st)) : Xh p l e R s m args below meth c nL G Q cells slots n h pc ls (.int x :: .ref (zad G i j) :: st) := by
  intro H locs lsA hW hS hl h1
  subst hx
  have hc : (nI t).toNatClampNeg = t := nI_clamp (by omega)
  refine va_aldq cx.1.1 cx.1.2.1 cx.2.1.1 (hW.one hok hn hp) 0 k rfl hk (i := nI t) (nI_in ht (by omega)) d ?_
  rw [hc, hv]
  exact (kk H locs lsA hW hS hl h1)
theorem x_iast (cx : Cx p s m args meth c cc nL own G) {i j N t : Nat} {f : Nat → Int32} {x y : Int32} (hok : zok i j) (hn : zix i j < n) (hp : h i j = .inl (G.2.1 0, N, .inl f)) (hy : y = nI t) (ht : t < N) (hN : N ≤ 1000) (hh : ∀ i' j', zok i' j' → zix i' j' < n → h' i' j' = hset h i j (.inl (G.2.1 0, N, .inl (upd f t (x)))) i' j') (d : decode cc pc = .ok (.iastore, 1)) (kk : Xh p l e R s m args below meth c nL G Q cells slots n h' (pc + 1) ls st) : Xh p l e R s m args below meth c nL G Q cells slots n h pc ls (.int x :: .int y :: .ref (zad G i j) :: st) := by
  intro H locs lsA hW hS hl h1
  subst hy
  have hc : (nI t).toNatClampNeg = t := nI_clamp (by omega)
  have hin : vp_in (nI t) N := nI_in ht (by omega)
  refine W.iast cx.1.1 cx.1.2.1 (hW.one hok hn hp 0 _ rfl) ((cx.2.1.1.2 0 _ rfl).1 N (fun j => .int (f j))) (fun q => by cases q) (by show ¬ (nI t < 0 ∨ (arrV _ _ _).slots.size ≤ _); rw [arrV_size]; exact hin) rfl rfl d fun H1 e1 z oq => ?_
  refine kk H1 _ lsA (hW.set hok hn z ?_ oq hh) (hS.put z oq (Nat.le_add_right _ _)) hl h1
  show H1[zad G i j]? = some (vp_cell _ _)
  rw [e1]
  rw [vp_cell_i, vp_cell_i, arrV_store, hc]
  congr 2
  funext q
  by_cases hq : q = t
  · subst hq
    simp [updV, upd, vp_nar]
    try rfl
  · simp [updV, upd, hq]
theorem x_cast (cx : Cx p s m args meth c cc nL own G) {i j N t : Nat} {f : Nat → Int32} {x y : Int32} (hok : zok i j) (hn : zix i j < n) (hp : h i j = .inl (G.2.1 1, N, .inl f)) (hy : y = nI t) (ht : t < N) (hN : N ≤ 1000) (hh : ∀ i' j', zok i' j' → zix i' j' < n → h' i' j' = hset h i j (.inl (G.2.1 1, N, .inl (upd f t (vp_nar .char x)))) i' j') (d : decode cc pc = .ok (.castore, 1)) (kk : Xh p l e R s m args below meth c nL G Q cells slots n h' (pc + 1) ls st) : Xh p l e R s m args below meth c nL G Q cells slots n h pc ls (.int x :: .int y :: .ref (zad G i j) :: st) := by
  intro H locs lsA hW hS hl h1
  subst hy
  have hc : (nI t).toNatClampNeg = t := nI_clamp (by omega)
  have hin : vp_in (nI t) N := nI_in ht (by omega)
  refine W.cast cx.1.1 cx.1.2.1 (hW.one hok hn hp 0 _ rfl) ((cx.2.1.1.2 1 _ rfl).1 N (fun j => .int (f j))) (fun q => by cases q) (by show ¬ (nI t < 0 ∨ (arrV _ _ _).slots.size ≤ _); rw [arrV_size]; exact hin) rfl rfl d fun H1 e1 z oq => ?_
  refine kk H1 _ lsA (hW.set hok hn z ?_ oq hh) (hS.put z oq (Nat.le_add_right _ _)) hl h1
  show H1[zad G i j]? = some (vp_cell _ _)
  rw [e1]
  rw [vp_cell_i, vp_cell_i, arrV_store, hc]
  congr 2
  funext q
  by_cases hq : q = t
  · subst hq
    simp [updV, upd, vp_nar]
    try rfl
  · simp [updV, upd, hq]
theorem x_aast (cx : Cx p s m args meth c cc nL own G) {i j N t i2 j2 ci : Nat} {r : vw_C} {vs : List Value} {f : Nat → Option Nat} {y : Int32} (k : Nat) (hk : (ztys G)[k]? = some (G.2.1 k, .object r.1)) (hok : zok i j) (hn : zix i j < n) (hp : h i j = .inl (G.2.1 k, N, .inr (.inr (.inr (.inr f))))) (hok2 : zok i2 j2) (hn2 : zix i2 j2 < n) (hp2 : h i2 j2 = .inr (ci, vs)) (hc : vwCl[ci]? = some r) (hy : y = nI t) (ht : t < N) (hN : N ≤ 1000) (hh : ∀ i' j', zok i' j' → zix i' j' < n → h' i' j' = hset h i j (.inl (G.2.1 k, N, .inr (.inr (.inr (.inr (va_up f t (some (zad G i2 j2)))))))) i' j') (d : decode cc pc = .ok (.aastore, 1)) (kk : Xh p l e R s m args below meth c nL G Q cells slots n h' (pc + 1) ls st) : Xh p l e R s m args below meth c nL G Q cells slots n h pc ls (.ref (zad G i2 j2) :: .int y :: .ref (zad G i j) :: st) := by
  intro H locs lsA hW hS hl h1
  subst hy
  have hcl : (nI t).toNatClampNeg = t := nI_clamp (by omega)
  have h0 : ¬ nI t < 0 := nI_pos (by omega)
  obtain ⟨r', hr', cellV, g1, g2, g3, -⟩ := hW.one hok2 hn2 hp2 0 _ rfl
  have hcls := (cx.2.1.1.1 ci r hc).2
  obtain ⟨kA, comp, k1, k2, k3, -⟩ := (cx.2.1.1.2 k _ hk).2
  have hcomp : comp = G.1.1 ci := Option.some.inj (k3.symm.trans hcls.1)
  subst hcomp
  obtain ⟨kC, hkC, -⟩ := hcls.2
  refine W.aast cx.1.1 cx.1.2.1 (hW.one hok hn hp 0 _ rfl) (fun q z => by cases z) (fun z => by cases z) k1 k2 rfl hkC ⟨h0, by show _ < (arrV _ _ _).slots.size; rw [arrV_size, hcl]; exact ht⟩ g1 (fun q z => by rw [g3] at z; cases z) (by rw [g2]; exact hkC) (by rw [g2]; exact va_assign hcls) rfl rfl d fun H1 e1 z oq => ?_
  refine kk H1 _ lsA (hW.set hok hn z ?_ oq hh) (hS.put z oq (Nat.le_add_right _ _)) hl h1
  show H1[zad G i j]? = some (vp_cell _ _)
  rw [e1]
  rw [vp_cell_q, vp_cell_q, arrV_store, hcl]
  congr 2
  funext q
  by_cases hq : q = t
  · subst hq
    simp [updV, va_up, va_rf]
  · simp [updV, va_up, hq]
theorem x_aleni (cx : Cx p s m args meth c cc nL own G) {i j N : Nat} {f : Nat → Int32} (k : Nat) {ty : FieldType} (hk : (ztys G)[k]? = some (G.2.1 k, ty)) (hok : zok i j) (hn : zix i j < n) (hp : h i j = .inl (G.2.1 k, N, .inl f)) (d : decode cc pc = .ok (.arraylength, 1)) (kk : Xh p l e R s m args below meth c nL G Q cells slots n h (pc + 1) ls (.int (nI N) :: st)) : Xh p l e R s m args below meth c nL G Q cells slots n h pc ls (.ref (zad G i j) :: st) := by
  intro H locs lsA hW hS hl h1
  exact W.alen cx.1.1 cx.1.2.1 (ty := ty) (hW.one hok hn hp 0 _ rfl) ((cx.2.1.1.2 k _ hk).1 N _) (by show (arrV _ _ _).slots.size.toInt32 = nI N; rw [arrV_size]; rfl) rfl rfl d (kk H locs lsA hW hS hl h1)
theorem x_alenq (cx : Cx p s m args meth c cc nL own G) {i j N : Nat} {f : Nat → Option Nat} (k : Nat) {ty : FieldType} (hk : (ztys G)[k]? = some (G.2.1 k, ty)) (hok : zok i j) (hn : zix i j < n) (hp : h i j = .inl (G.2.1 k, N, .inr (.inr (.inr (.inr f))))) (d : decode cc pc = .ok (.arraylength, 1)) (kk : Xh p l e R s m args below meth c nL G Q cells slots n h (pc + 1) ls (.int (nI N) :: st)) : Xh p l e R s m args below meth c nL G Q cells slots n h pc ls (.ref (zad G i j) :: st) := by
  intro H locs lsA hW hS hl h1
  exact W.alen cx.1.1 cx.1.2.1 (ty := ty) (hW.one hok hn hp 0 _ rfl) ((cx.2.1.1.2 k _ hk).1 N _) (by show (arrV _ _ _).slots.size.toInt32 = nI N; rw [arrV_size]; rfl) rfl rfl d (kk H locs lsA hW hS hl h1)
theorem x_gets0 (cx : Cx p s m args meth c cc nL own G) {idx : Nat} (hf : (Cond.fieldLink own idx "ScanChain$Controller" "NEXT_BY_MODE_0" "[I").before args s = true) (d : decode cc pc = .ok (.getstatic idx, 3)) (kk : ∀ t : Nat, va_T .int t 16 (fun k => .int (zN0 k)) (zA G) s s.heap → Xh p l e R s m args below meth c nL G Q cells slots n h (pc + 3) ls (.ref t :: st)) : Xh p l e R s m args below meth c nL G Q cells slots n h pc ls st := by
  intro H locs lsA hW hS hl h1
  obtain ⟨t0, t1, ⟨hZ, hT⟩, -⟩ := cx.2.2.1
  exact va_gets cx.1.1 cx.1.2.1 hZ hS cx.1.2.2.2.1 hf (fun _ z => z) d (kk _ hT H locs lsA hW hS hl h1)
theorem x_gets1 (cx : Cx p s m args meth c cc nL own G) {idx : Nat} (hf : (Cond.fieldLink own idx "ScanChain$Controller" "NEXT_BY_MODE_1" "[I").before args s = true) (d : decode cc pc = .ok (.getstatic idx, 3)) (kk : ∀ t : Nat, va_T .int t 16 (fun k => .int (zN1 k)) (zA G) s s.heap → Xh p l e R s m args below meth c nL G Q cells slots n h (pc + 3) ls (.ref t :: st)) : Xh p l e R s m args below meth c nL G Q cells slots n h pc ls st := by
  intro H locs lsA hW hS hl h1
  obtain ⟨t0, t1, -, ⟨hZ, hT⟩⟩ := cx.2.2.1
  exact va_gets cx.1.1 cx.1.2.1 hZ hS cx.1.2.2.2.1 hf (fun _ z => z) d (kk _ hT H locs lsA hW hS hl h1)
theorem x_tald (cx : Cx p s m args meth c cc nL own G) {t N a : Nat} {f : Nat → Int32} {x v : Int32} (hT : va_T .int a N (fun k => .int (f k)) (zA G) s s.heap) (hx : x = nI t) (ht : t < N) (hN : N ≤ 1000) (hv : f t = v) (d : decode cc pc = .ok (.iaload, 1)) (kk : Xh p l e R s m args below meth c nL G Q cells slots n h (pc + 1) ls (.int v :: st)) : Xh p l e R s m args below meth c nL G Q cells slots n h pc ls (.int x :: .ref a :: st) := by
  intro H locs lsA hW hS hl h1
  subst hx; subst hv
  refine va_ti cx.1.1 cx.1.2.1 hT hS (i := nI t) (nI_in ht (by omega)) (v := .int (f t)) ?_ d (kk H locs lsA hW hS hl h1)
  rw [nI_clamp (by omega)]
end ZJ
abbrev zPc (G : zG) (n : Nat) (h : zH) (av : List Value) : Array Value → State → Prop := va_Pc av (fun U => Wd G n h U U.heap)
abbrev zQi (G : zG) (n : Nat) (r : Int32) (h : zH) : Array Value → State → Outcome → State → Prop := va_Qi (fun (r' : Int32) (_ : Unit) => r' = r) (fun _ t => Wd G n h t t.heap) (zA G)
abbrev zQf (G : zG) (n : Nat) (r : UInt32) (h : zH) : Array Value → State → Outcome → State → Prop := va_Qf (fun (r' : UInt32) (_ : Unit) => r' = r) (fun _ t => Wd G n h t t.heap) (zA G)
abbrev zQv (G : zG) (n : Nat) (h : zH) : Array Value → State → Outcome → State → Prop := va_Qv (fun (_ : Unit) => True) (fun _ t => Wd G n h t t.heap) (zA G)
abbrev zrm (f c s k : Nat) : Room := { frames := f, cells := c, slots := s, locals := k }
theorem lv_args1 : ∀ (av : List Value) (b : Nat), (av.all fun v => decide (v.category = 1)) = true → lv_args b av = lo b (av.map some)
  | [], _, _ => rfl
  | v :: vs, b, h => by
    simp only [List.all_cons, Bool.and_eq_true, decide_eq_true_eq] at h
    have hc : ¬ v.category = 2 := by rw [h.1]; decide
    simp only [lv_args, List.map_cons, lo, if_neg hc]
    rw [lv_args1 vs (b + 1) h.2]
theorem lo_app_none : ∀ (ls : List (Option Value)) (b n : Nat), lo b (ls ++ List.replicate n none) = lo b ls
  | [], b, n => by
    induction n generalizing b with
    | zero => rfl
    | succ n ih =>
      simp only [List.nil_append, List.replicate_succ, lo] at ih ⊢
      exact ih (b + 1)
  | none :: t, b, n => by simp only [List.cons_append, lo]; exact lo_app_none t (b + 1) n
  | some v :: t, b, n => by simp only [List.cons_append, lo]; rw [lo_app_none t (b + 1) n]
theorem lo1_args {av : List Value} {n : Nat} (h : (av.all fun v => decide (v.category = 1)) = true) : lo1 (av.map some ++ List.replicate n none) = true := by
  unfold lo1
  rw [List.all_append, Bool.and_eq_true]
  refine ⟨?_, ?_⟩
  · rw [List.all_map]
    exact h
  · rw [List.all_eq_true]
    intro o ho
    rw [List.eq_of_mem_replicate ho]
theorem lg_sl1 : ∀ (av : List Value), (av.all fun v => decide (v.category = 1)) = true → (lg_sl av).length = av.length
  | [], _ => rfl
  | v :: vs, h => by
    simp only [List.all_cons, Bool.and_eq_true, decide_eq_true_eq] at h
    have hc : ¬ v.category = 2 := by rw [h.1]; decide
    have := lg_sl1 vs h.2
    simp only [lg_sl, List.flatMap_cons, if_neg hc, List.length_append, List.length_cons, List.length_nil] at this ⊢
    omega
theorem zMet {l : Launch} {y : MethodName} {cc : ByteArray} {nL : Nat} {ret : Option FieldType} {rm : Room} {n mc ms : Nat} {h : zH} {av : List Value} {Qc : Array Value → State → Outcome → State → Prop} {G : zG} (hy : plainName y.cls = true) (hav : (av.all fun v => decide (v.category = 1)) = true) (hlen : av.length ≤ nL)
    (body : ∀ (p : Program) (e : Env) (s : State) (m : MethodId) (args : Array Value) (below : List Frame) (meth : Method) (c : Code), args = av.toArray → Cx p s m args meth c cc nL y.cls G → meth.sig.returnType = ret → (y.name = "<init>" → meth.name = "<init>") →
      Xh p l e rm s m args below meth c nL G (MQ below Qc args s mc ms (zA G)) 0 0 n h 0 (av.map some ++ List.replicate (nL - av.length) none) []) : Met l y (zws y cc nL ret) rm (zPc G n h av) Qc mc ms (zA G) := by
  refine Met.ofW (cc := cc) (maxL := nL) (ret := ret) hy rfl ?_
  intro p e s m args below meth c s₁ B hml hv
  obtain ⟨rfl, hW, hK, hST⟩ := hv
  have hts := atoms_spec (ws := zws y cc nL ret) B.pre
  have hown : s.vm.findClass y.cls = some m.cls := findClass_of_methodNamed B.named
  have hl := lv_entry av (n := nL) (by rw [lg_sl1 av hav]; exact hlen)
  rw [lg_entry_eq]
  have hin : y.name = "<init>" → meth.name = "<init>" := fun z => by rw [← z]; exact (name_of_methodNamed B.named B.method).1
  refine body p e s m _ below meth c rfl ⟨⟨B.exec, B.bytes, hml, hown, fun w hw => hts w (List.mem_cons_of_mem _ hw)⟩, hK, hST, B.notSynchronized⟩ B.returns hin s.heap [] _ hW va_S.rf ?_ (lo1_args hav)
  rw [lo_app_none, ← lv_args1 av 0 hav]
  exact hl
theorem zfb {G : zG} {n : Nat} {h : zH} {av : List Value} : FrameBlind (zPc G n h av) := fun a U g mk q => ⟨q.1, Wd.calling q.2⟩
section ZC
variable {p : Program} {l : Launch} {e : Env} {R : Room} {s : State} {m : MethodId} {args : Array Value} {below : List Frame} {meth : Method} {c : Code} {cc : ByteArray} {nL : Nat} {own : String} {G : zG} {Q : State → Prop} {cells slots n n2 : Nat} {h h2 : zH} {pc : Nat} {ls : List (Option Value)} {st rest : List Value}
theorem zpre {H : Heap} {locs : List Loc} {U : State} (cx : Cx p s m args meth c cc nL own G) (hW : HW G n h H) (hS : va_S (zA G) s.heap H locs) (hU : U.heap = H) (hv : s.WarmedH U.vm) : Wd G n h U U.heap := by
  rw [hU]
  exact ⟨hW, cx.2.1.warm hv, (ST.moved hv.alike cx.2.2.1).kept hS.2.1⟩
theorem x_Vi (cx : Cx p s m args meth c cc nL own G) {i j ci idx n' f' k' na mc ms : Nat} {y : MethodName} {c' : ByteArray} {ret : Option FieldType} {fs As : List Value} {r : Int32} {C : String} {T : u_T} {N : Nat}
    (hM : Met l y (zws y c' n' ret) (zrm f' mc ms k') (zPc G n h (.ref (zad G i j) :: As)) (zQi G n2 r h2) mc ms (zA G)) (hG : GoodIn zW (wsV own idx C y (zws y c' n' ret))) (hd : y.cls ≠ "java/lang/invoke/MethodHandle" ∧ y.cls ≠ "java/lang/invoke/VarHandle" ∧ (parseMethodDescriptor y.desc).map (fun d => d.parameters.length) = some na)
    (hc : y.cls = C) (hR : f' + 1 ≤ R.frames ∧ 8 + (n' + 11) + k' ≤ R.locals) (hok : zok i j) (hn : zix i j < n) (hp : h i j = .inr (ci, fs)) (hcl : vwCl[ci]? = some (C, T, N)) (hst : st = As.reverse ++ .ref (zad G i j) :: rest) (hlen : As.length = na) (hcat : (rest.map fun v => v.category).sum ≤ 8) (d : decode cc pc = .ok (.invokevirtual idx, 3)) (hcs : cells + mc ≤ R.cells ∧ slots + ms ≤ R.slots)
    (kk : Xh p l e R s m args below meth c nL G Q (cells + mc) (slots + ms) n2 h2 (pc + 3) ls (.int r :: rest)) : Xh p l e R s m args below meth c nL G Q cells slots n h pc ls st := by
  intro H locs lsA hW hS hl h1
  refine va_calli (va_runV (As := As) (rest := rest) cx.1 hM (cwV na cx.1.2.2.2.2 hG rfl rfl rfl ⟨hc, hd⟩ hR) ⟨zfb, va_recv (q0 := 0) (fs := fs) cx.2.1.1 (hW.one hok hn hp) hcl rfl, fun U hU hv => ⟨rfl, zpre cx hW hS hU hv⟩⟩ rfl hlen hl.1 hst (lv_room hcat) d hcs) hS (fun q _ z => z) (fun q z => z) (fun r0 u t H1 locs1 ht hvm hw hB hz hk hS1 => ?_)
  subst hw
  exact kk H1 locs1 lsA (by rw [← ht]; exact hB.1) hS1 hl h1
theorem x_Si (cx : Cx p s m args meth c cc nL own G) {idx n' f' k' na mc ms : Nat} {y : MethodName} {c' : ByteArray} {ret : Option FieldType} {As : List Value} {r : Int32}
    (hM : Met l y (zws y c' n' ret) (zrm f' mc ms k') (zPc G n h As) (zQi G n2 r h2) mc ms (zA G)) (hG : GoodIn zW (va_wsS own idx y (zws y c' n' ret))) (hd : y.cls ≠ "java/lang/invoke/MethodHandle" ∧ y.cls ≠ "java/lang/invoke/VarHandle" ∧ (parseMethodDescriptor y.desc).map (fun d => d.parameters.length) = some na)
    (hR : f' + 1 ≤ R.frames ∧ 8 + (n' + 11) + k' ≤ R.locals) (hst : st = As.reverse ++ rest) (hlen : As.length = na) (hcat : (rest.map fun v => v.category).sum ≤ 8) (d : decode cc pc = .ok (.invokestatic idx, 3)) (hcs : cells + mc ≤ R.cells ∧ slots + ms ≤ R.slots)
    (kk : Xh p l e R s m args below meth c nL G Q (cells + mc) (slots + ms) n2 h2 (pc + 3) ls (.int r :: rest)) : Xh p l e R s m args below meth c nL G Q cells slots n h pc ls st := by
  intro H locs lsA hW hS hl h1
  refine va_calli (va_runS (As := As) (rest := rest) cx.1 hM (va_cwS na cx.1.2.2.2.2 hG rfl rfl rfl hd hR) ⟨zfb, fun U hU hv => ⟨rfl, zpre cx hW hS hU hv⟩⟩ rfl hlen hl.1 hst (lv_room hcat) d hcs) hS (fun q _ z => z) (fun q z => z) (fun r0 u t H1 locs1 ht hvm hw hB hz hk hS1 => ?_)
  subst hw
  exact kk H1 locs1 lsA (by rw [← ht]; exact hB.1) hS1 hl h1
theorem x_SNi (cx : Cx p s m args meth c cc nL own G) {idx n' f' k' na mc ms : Nat} {y : MethodName} {c' : ByteArray} {ret : Option FieldType} {As : List Value} {r : Int32} {host : String}
    (hM : Met l y (zws y c' n' ret) (zrm f' mc ms k') (zPc G n h As) (zQi G n2 r h2) mc ms (zA G)) (hG : GoodIn zW (zws y c' n' ret)) (hl0 : va_Nw (.methodLinkNest own idx y host) s) (hini : Cond.initialized y.cls ∈ zW) (hst0 : Cond.static y ∈ zW) (hd : y.cls ≠ "java/lang/invoke/MethodHandle" ∧ y.cls ≠ "java/lang/invoke/VarHandle" ∧ (parseMethodDescriptor y.desc).map (fun d => d.parameters.length) = some na)
    (hR : f' + 1 ≤ R.frames ∧ 8 + (n' + 11) + k' ≤ R.locals) (hst : st = As.reverse ++ rest) (hlen : As.length = na) (hcat : (rest.map fun v => v.category).sum ≤ 8) (d : decode cc pc = .ok (.invokestatic idx, 3)) (hcs : cells + mc ≤ R.cells ∧ slots + ms ≤ R.slots)
    (kk : Xh p l e R s m args below meth c nL G Q (cells + mc) (slots + ms) n2 h2 (pc + 3) ls (.int r :: rest)) : Xh p l e R s m args below meth c nL G Q cells slots n h pc ls st := by
  intro H locs lsA hW hS hl h1
  refine va_calli (va_runSN (As := As) (rest := rest) cx.1 hM ⟨va_cnB na cx.1.2.2.2.2 hG rfl rfl rfl hl0 (cx.1.2.2.2.2 _ hini) hd hR, cx.1.2.2.2.2 _ hst0, trivial⟩ ⟨zfb, fun U hU hv => ⟨rfl, zpre cx hW hS hU hv⟩⟩ rfl hlen hl.1 hst (lv_room hcat) d hcs) hS (fun q _ z => z) (fun q z => z) (fun r0 u t H1 locs1 ht hvm hw hB hz hk hS1 => ?_)
  subst hw
  exact kk H1 locs1 lsA (by rw [← ht]; exact hB.1) hS1 hl h1
theorem x_Vf (cx : Cx p s m args meth c cc nL own G) {i j ci idx n' f' k' na mc ms : Nat} {y : MethodName} {c' : ByteArray} {ret : Option FieldType} {fs As : List Value} {r : UInt32} {C : String} {T : u_T} {N : Nat}
    (hM : Met l y (zws y c' n' ret) (zrm f' mc ms k') (zPc G n h (.ref (zad G i j) :: As)) (zQf G n2 r h2) mc ms (zA G)) (hG : GoodIn zW (wsV own idx C y (zws y c' n' ret))) (hd : y.cls ≠ "java/lang/invoke/MethodHandle" ∧ y.cls ≠ "java/lang/invoke/VarHandle" ∧ (parseMethodDescriptor y.desc).map (fun d => d.parameters.length) = some na)
    (hc : y.cls = C) (hR : f' + 1 ≤ R.frames ∧ 8 + (n' + 11) + k' ≤ R.locals) (hok : zok i j) (hn : zix i j < n) (hp : h i j = .inr (ci, fs)) (hcl : vwCl[ci]? = some (C, T, N)) (hst : st = As.reverse ++ .ref (zad G i j) :: rest) (hlen : As.length = na) (hcat : (rest.map fun v => v.category).sum ≤ 8) (d : decode cc pc = .ok (.invokevirtual idx, 3)) (hcs : cells + mc ≤ R.cells ∧ slots + ms ≤ R.slots)
    (kk : Xh p l e R s m args below meth c nL G Q (cells + mc) (slots + ms) n2 h2 (pc + 3) ls (.float r :: rest)) : Xh p l e R s m args below meth c nL G Q cells slots n h pc ls st := by
  intro H locs lsA hW hS hl h1
  refine va_callf (va_runV (As := As) (rest := rest) cx.1 hM (cwV na cx.1.2.2.2.2 hG rfl rfl rfl ⟨hc, hd⟩ hR) ⟨zfb, va_recv (q0 := 0) (fs := fs) cx.2.1.1 (hW.one hok hn hp) hcl rfl, fun U hU hv => ⟨rfl, zpre cx hW hS hU hv⟩⟩ rfl hlen hl.1 hst (lv_room hcat) d hcs) hS (fun q _ z => z) (fun q z => z) (fun r0 u t H1 locs1 ht hvm hw hB hz hk hS1 => ?_)
  subst hw
  exact kk H1 locs1 lsA (by rw [← ht]; exact hB.1) hS1 hl h1
theorem x_Sf (cx : Cx p s m args meth c cc nL own G) {idx n' f' k' na mc ms : Nat} {y : MethodName} {c' : ByteArray} {ret : Option FieldType} {As : List Value} {r : UInt32}
    (hM : Met l y (zws y c' n' ret) (zrm f' mc ms k') (zPc G n h As) (zQf G n2 r h2) mc ms (zA G)) (hG : GoodIn zW (va_wsS own idx y (zws y c' n' ret))) (hd : y.cls ≠ "java/lang/invoke/MethodHandle" ∧ y.cls ≠ "java/lang/invoke/VarHandle" ∧ (parseMethodDescriptor y.desc).map (fun d => d.parameters.length) = some na)
    (hR : f' + 1 ≤ R.frames ∧ 8 + (n' + 11) + k' ≤ R.locals) (hst : st = As.reverse ++ rest) (hlen : As.length = na) (hcat : (rest.map fun v => v.category).sum ≤ 8) (d : decode cc pc = .ok (.invokestatic idx, 3)) (hcs : cells + mc ≤ R.cells ∧ slots + ms ≤ R.slots)
    (kk : Xh p l e R s m args below meth c nL G Q (cells + mc) (slots + ms) n2 h2 (pc + 3) ls (.float r :: rest)) : Xh p l e R s m args below meth c nL G Q cells slots n h pc ls st := by
  intro H locs lsA hW hS hl h1
  refine va_callf (va_runS (As := As) (rest := rest) cx.1 hM (va_cwS na cx.1.2.2.2.2 hG rfl rfl rfl hd hR) ⟨zfb, fun U hU hv => ⟨rfl, zpre cx hW hS hU hv⟩⟩ rfl hlen hl.1 hst (lv_room hcat) d hcs) hS (fun q _ z => z) (fun q z => z) (fun r0 u t H1 locs1 ht hvm hw hB hz hk hS1 => ?_)
  subst hw
  exact kk H1 locs1 lsA (by rw [← ht]; exact hB.1) hS1 hl h1
theorem x_SNf (cx : Cx p s m args meth c cc nL own G) {idx n' f' k' na mc ms : Nat} {y : MethodName} {c' : ByteArray} {ret : Option FieldType} {As : List Value} {r : UInt32} {host : String}
    (hM : Met l y (zws y c' n' ret) (zrm f' mc ms k') (zPc G n h As) (zQf G n2 r h2) mc ms (zA G)) (hG : GoodIn zW (zws y c' n' ret)) (hl0 : va_Nw (.methodLinkNest own idx y host) s) (hini : Cond.initialized y.cls ∈ zW) (hst0 : Cond.static y ∈ zW) (hd : y.cls ≠ "java/lang/invoke/MethodHandle" ∧ y.cls ≠ "java/lang/invoke/VarHandle" ∧ (parseMethodDescriptor y.desc).map (fun d => d.parameters.length) = some na)
    (hR : f' + 1 ≤ R.frames ∧ 8 + (n' + 11) + k' ≤ R.locals) (hst : st = As.reverse ++ rest) (hlen : As.length = na) (hcat : (rest.map fun v => v.category).sum ≤ 8) (d : decode cc pc = .ok (.invokestatic idx, 3)) (hcs : cells + mc ≤ R.cells ∧ slots + ms ≤ R.slots)
    (kk : Xh p l e R s m args below meth c nL G Q (cells + mc) (slots + ms) n2 h2 (pc + 3) ls (.float r :: rest)) : Xh p l e R s m args below meth c nL G Q cells slots n h pc ls st := by
  intro H locs lsA hW hS hl h1
  refine va_callf (va_runSN (As := As) (rest := rest) cx.1 hM ⟨va_cnB na cx.1.2.2.2.2 hG rfl rfl rfl hl0 (cx.1.2.2.2.2 _ hini) hd hR, cx.1.2.2.2.2 _ hst0, trivial⟩ ⟨zfb, fun U hU hv => ⟨rfl, zpre cx hW hS hU hv⟩⟩ rfl hlen hl.1 hst (lv_room hcat) d hcs) hS (fun q _ z => z) (fun q z => z) (fun r0 u t H1 locs1 ht hvm hw hB hz hk hS1 => ?_)
  subst hw
  exact kk H1 locs1 lsA (by rw [← ht]; exact hB.1) hS1 hl h1
theorem x_Vv (cx : Cx p s m args meth c cc nL own G) {i j ci idx n' f' k' na mc ms : Nat} {y : MethodName} {c' : ByteArray} {ret : Option FieldType} {fs As : List Value}  {C : String} {T : u_T} {N : Nat}
    (hM : Met l y (zws y c' n' ret) (zrm f' mc ms k') (zPc G n h (.ref (zad G i j) :: As)) (zQv G n2 h2) mc ms (zA G)) (hG : GoodIn zW (wsV own idx C y (zws y c' n' ret))) (hd : y.cls ≠ "java/lang/invoke/MethodHandle" ∧ y.cls ≠ "java/lang/invoke/VarHandle" ∧ (parseMethodDescriptor y.desc).map (fun d => d.parameters.length) = some na)
    (hc : y.cls = C) (hR : f' + 1 ≤ R.frames ∧ 8 + (n' + 11) + k' ≤ R.locals) (hok : zok i j) (hn : zix i j < n) (hp : h i j = .inr (ci, fs)) (hcl : vwCl[ci]? = some (C, T, N)) (hst : st = As.reverse ++ .ref (zad G i j) :: rest) (hlen : As.length = na) (hcat : (rest.map fun v => v.category).sum ≤ 8) (d : decode cc pc = .ok (.invokevirtual idx, 3)) (hcs : cells + mc ≤ R.cells ∧ slots + ms ≤ R.slots)
    (kk : Xh p l e R s m args below meth c nL G Q (cells + mc) (slots + ms) n2 h2 (pc + 3) ls (rest)) : Xh p l e R s m args below meth c nL G Q cells slots n h pc ls st := by
  intro H locs lsA hW hS hl h1
  refine va_callv (va_runV (As := As) (rest := rest) cx.1 hM (cwV na cx.1.2.2.2.2 hG rfl rfl rfl ⟨hc, hd⟩ hR) ⟨zfb, va_recv (q0 := 0) (fs := fs) cx.2.1.1 (hW.one hok hn hp) hcl rfl, fun U hU hv => ⟨rfl, zpre cx hW hS hU hv⟩⟩ rfl hlen hl.1 hst (lv_room hcat) d hcs) hS (fun q _ z => z) (fun q z => z) (fun u t H1 locs1 ht hvm hw hB hz hk hS1 => ?_)
  exact kk H1 locs1 lsA (by rw [← ht]; exact hB.1) hS1 hl h1
theorem x_Sv (cx : Cx p s m args meth c cc nL own G) {idx n' f' k' na mc ms : Nat} {y : MethodName} {c' : ByteArray} {ret : Option FieldType} {As : List Value} 
    (hM : Met l y (zws y c' n' ret) (zrm f' mc ms k') (zPc G n h As) (zQv G n2 h2) mc ms (zA G)) (hG : GoodIn zW (va_wsS own idx y (zws y c' n' ret))) (hd : y.cls ≠ "java/lang/invoke/MethodHandle" ∧ y.cls ≠ "java/lang/invoke/VarHandle" ∧ (parseMethodDescriptor y.desc).map (fun d => d.parameters.length) = some na)
    (hR : f' + 1 ≤ R.frames ∧ 8 + (n' + 11) + k' ≤ R.locals) (hst : st = As.reverse ++ rest) (hlen : As.length = na) (hcat : (rest.map fun v => v.category).sum ≤ 8) (d : decode cc pc = .ok (.invokestatic idx, 3)) (hcs : cells + mc ≤ R.cells ∧ slots + ms ≤ R.slots)
    (kk : Xh p l e R s m args below meth c nL G Q (cells + mc) (slots + ms) n2 h2 (pc + 3) ls (rest)) : Xh p l e R s m args below meth c nL G Q cells slots n h pc ls st := by
  intro H locs lsA hW hS hl h1
  refine va_callv (va_runS (As := As) (rest := rest) cx.1 hM (va_cwS na cx.1.2.2.2.2 hG rfl rfl rfl hd hR) ⟨zfb, fun U hU hv => ⟨rfl, zpre cx hW hS hU hv⟩⟩ rfl hlen hl.1 hst (lv_room hcat) d hcs) hS (fun q _ z => z) (fun q z => z) (fun u t H1 locs1 ht hvm hw hB hz hk hS1 => ?_)
  exact kk H1 locs1 lsA (by rw [← ht]; exact hB.1) hS1 hl h1
theorem x_SNv (cx : Cx p s m args meth c cc nL own G) {idx n' f' k' na mc ms : Nat} {y : MethodName} {c' : ByteArray} {ret : Option FieldType} {As : List Value}  {host : String}
    (hM : Met l y (zws y c' n' ret) (zrm f' mc ms k') (zPc G n h As) (zQv G n2 h2) mc ms (zA G)) (hG : GoodIn zW (zws y c' n' ret)) (hl0 : va_Nw (.methodLinkNest own idx y host) s) (hini : Cond.initialized y.cls ∈ zW) (hst0 : Cond.static y ∈ zW) (hd : y.cls ≠ "java/lang/invoke/MethodHandle" ∧ y.cls ≠ "java/lang/invoke/VarHandle" ∧ (parseMethodDescriptor y.desc).map (fun d => d.parameters.length) = some na)
    (hR : f' + 1 ≤ R.frames ∧ 8 + (n' + 11) + k' ≤ R.locals) (hst : st = As.reverse ++ rest) (hlen : As.length = na) (hcat : (rest.map fun v => v.category).sum ≤ 8) (d : decode cc pc = .ok (.invokestatic idx, 3)) (hcs : cells + mc ≤ R.cells ∧ slots + ms ≤ R.slots)
    (kk : Xh p l e R s m args below meth c nL G Q (cells + mc) (slots + ms) n2 h2 (pc + 3) ls (rest)) : Xh p l e R s m args below meth c nL G Q cells slots n h pc ls st := by
  intro H locs lsA hW hS hl h1
  refine va_callv (va_runSN (As := As) (rest := rest) cx.1 hM ⟨va_cnB na cx.1.2.2.2.2 hG rfl rfl rfl hl0 (cx.1.2.2.2.2 _ hini) hd hR, cx.1.2.2.2.2 _ hst0, trivial⟩ ⟨zfb, fun U hU hv => ⟨rfl, zpre cx hW hS hU hv⟩⟩ rfl hlen hl.1 hst (lv_room hcat) d hcs) hS (fun q _ z => z) (fun q z => z) (fun u t H1 locs1 ht hvm hw hB hz hk hS1 => ?_)
  exact kk H1 locs1 lsA (by rw [← ht]; exact hB.1) hS1 hl h1
theorem x_Iv (cx : Cx p s m args meth c cc nL own G) {i j idx n' f' k' na mc ms : Nat} {y : MethodName} {c' : ByteArray} {As : List Value}
    (hM : Met l y (zws y c' n' none) (zrm f' mc ms k') (zPc G n h (.ref (zad G i j) :: As)) (zQv G n2 h2) mc ms (zA G)) (hG : GoodIn zW (zws y c' n' none)) (hini : Cond.initialized y.cls ∈ zW) (hl0 : Cond.methodLink own idx y ∈ zW) (hin : Cond.instanceMethod y ∈ zW) (hy1 : y.name = "<init>") (hd : y.cls ≠ "java/lang/invoke/MethodHandle" ∧ y.cls ≠ "java/lang/invoke/VarHandle" ∧ (parseMethodDescriptor y.desc).map (fun d => d.parameters.length) = some na)
    (hR : f' + 1 ≤ R.frames ∧ 8 + (n' + 11) + k' ≤ R.locals) (hst : st = As.reverse ++ .ref (zad G i j) :: rest) (hlen : As.length = na) (hcat : (rest.map fun v => v.category).sum ≤ 8) (d : decode cc pc = .ok (.invokespecial idx, 3)) (hcs : cells + mc ≤ R.cells ∧ slots + ms ≤ R.slots)
    (kk : Xh p l e R s m args below meth c nL G Q (cells + mc) (slots + ms) n2 h2 (pc + 3) ls rest) : Xh p l e R s m args below meth c nL G Q cells slots n h pc ls st := by
  intro H locs lsA hW hS hl h1
  refine va_callv (va_runI (As := As) (rest := rest) cx.1 hM (cwI na cx.1.2.2.2.2 hG rfl rfl rfl (cx.1.2.2.2.2 _ hini) (cx.1.2.2.2.2 _ hl0) (cx.1.2.2.2.2 _ hin) hy1 hd hR) ⟨zfb, fun U hU hv => ⟨rfl, zpre cx hW hS hU hv⟩⟩ rfl hlen hl.1 hst (lv_room hcat) d hcs) hS (fun q _ z => z) (fun q z => z) (fun u t H1 locs1 ht hvm hw hB hz hk hS1 => ?_)
  exact kk H1 locs1 lsA (by rw [← ht]; exact hB.1) hS1 hl h1
theorem x_INv (cx : Cx p s m args meth c cc nL own G) {i j idx n' f' k' na mc ms : Nat} {y : MethodName} {c' : ByteArray} {As : List Value} {host : String}
    (hM : Met l y (zws y c' n' none) (zrm f' mc ms k') (zPc G n h (.ref (zad G i j) :: As)) (zQv G n2 h2) mc ms (zA G)) (hG : GoodIn zW (zws y c' n' none)) (hini : Cond.initialized y.cls ∈ zW) (hl0 : va_Nw (.methodLinkNest own idx y host) s) (hin : Cond.instanceMethod y ∈ zW) (hy1 : y.name = "<init>") (hd : y.cls ≠ "java/lang/invoke/MethodHandle" ∧ y.cls ≠ "java/lang/invoke/VarHandle" ∧ (parseMethodDescriptor y.desc).map (fun d => d.parameters.length) = some na)
    (hR : f' + 1 ≤ R.frames ∧ 8 + (n' + 11) + k' ≤ R.locals) (hst : st = As.reverse ++ .ref (zad G i j) :: rest) (hlen : As.length = na) (hcat : (rest.map fun v => v.category).sum ≤ 8) (d : decode cc pc = .ok (.invokespecial idx, 3)) (hcs : cells + mc ≤ R.cells ∧ slots + ms ≤ R.slots)
    (kk : Xh p l e R s m args below meth c nL G Q (cells + mc) (slots + ms) n2 h2 (pc + 3) ls rest) : Xh p l e R s m args below meth c nL G Q cells slots n h pc ls st := by
  intro H locs lsA hW hS hl h1
  refine va_callv (va_runIN (As := As) (rest := rest) cx.1 hM ⟨va_cnB na cx.1.2.2.2.2 hG rfl rfl rfl hl0 (cx.1.2.2.2.2 _ hini) hd hR, hy1, cx.1.2.2.2.2 _ hin⟩ ⟨zfb, fun U hU hv => ⟨rfl, zpre cx hW hS hU hv⟩⟩ rfl hlen hl.1 hst (lv_room hcat) d hcs) hS (fun q _ z => z) (fun q z => z) (fun u t H1 locs1 ht hvm hw hB hz hk hS1 => ?_)
  exact kk H1 locs1 lsA (by rw [← ht]; exact hB.1) hS1 hl h1
theorem x_objInit (cx : Cx p s m args meth c cc nL own G) {idx a : Nat} (hl0 : Cond.methodLink own idx objectInit ∈ zW) (hin : Cond.instanceMethod objectInit ∈ zW) (hcd : Cond.code objectInit ⟨#[0xb1]⟩ 1 none ∈ zW) (d : decode cc pc = .ok (.invokespecial idx, 3)) (hR : 1 ≤ R.frames ∧ 20 ≤ R.locals) (hcat : (st.map fun v => v.category).sum ≤ 8) (kk : Xh p l e R s m args below meth c nL G Q cells slots n h (pc + 3) ls st) : Xh p l e R s m args below meth c nL G Q cells slots n h pc ls (.ref a :: st) := by
  intro H locs lsA hW hS hl h1
  refine W.objInit cx.1.1 cx.1.2.1 cx.1.2.2.2.1 (cx.1.2.2.2.2 _ hl0) (cx.1.2.2.2.2 _ hin) (cx.1.2.2.2.2 _ hcd) rfl (by rw [cx.1.2.2.1]; exact hl.1) rfl d hR.1 (by have := lv_room (m := m) (pc := pc) (ls := lsA) (rest := Value.ref a :: st) hcat; omega) ?_
  exact kk H locs lsA hW hS hl h1
theorem HW.push {G : zG} {n i j : Nat} {h h' : zH} {H H1 : Heap} {x : va_E} (hW : HW G n h H) (hok : zok i j) (hn : zix i j = n) (z : H1.size = H.size + 1) (he : va_at G.1 vwCl (H.size, x) H1) (oq : ∀ q : Nat, q < H.size → H1[q]? = H[q]?) (hh : ∀ i' j', zok i' j' → zix i' j' < n + 1 → h' i' j' = hset h i j x i' j') : HW G (n + 1) h' H1 := by
  have ha : zad G i j = H.size := by rw [hW.1, zad, hn]
  refine ⟨by rw [z, hW.1]; rfl, fun i' j' hok' hn' => ?_⟩
  rw [hh i' j' hok' hn']
  unfold hset
  by_cases hc : i' = i ∧ j' = j
  · rw [if_pos hc]
    obtain ⟨rfl, rfl⟩ := hc
    rw [ha]
    exact he
  · rw [if_neg hc]
    have hlt : zix i' j' < n := by
      rcases Nat.lt_or_ge (zix i' j') n with q | q
      · exact q
      · exact absurd (zix_inj hok' hok (by omega)) hc
    have hat := hW.2 i' j' hok' hlt
    exact hat.kept (oq _ hat.lt)
theorem x_newX0 (cx : Cx p s m args meth c cc nL own G) {idx i j : Nat} {fs : List Value} (hcl : Cond.classLink own idx RX0 ∈ zW) (hins : Cond.instantiable RX0 6 ∈ zW) (hini : Cond.initialized RX0 ∈ zW) (hok : zok i j) (hn : zix i j = n) (hfs : ∀ q, q < 6 → defaultValue (tyX0 q) = vp_V fs q) (hcs : cells + 1 ≤ R.cells ∧ slots + 6 ≤ R.slots) (hb : G.2.2 ≤ s.heap.size) (hh : ∀ i' j', zok i' j' → zix i' j' < n + 1 → h2 i' j' = hset h i j (.inr (0, fs)) i' j') (d : decode cc pc = .ok (.new idx, 3)) (kk : Xh p l e R s m args below meth c nL G Q (cells + 1) (slots + 6) (n + 1) h2 (pc + 3) ls (.ref (zad G i j) :: st)) : Xh p l e R s m args below meth c nL G Q cells slots n h pc ls st := by
  intro H locs lsA hW hS hl h1
  have hKn := cx.2.1.1.1 0 _ rfl
  have ha : zad G i j = H.size := by rw [hW.1, zad, hn]
  refine W.newcK cx.1.1 cx.1.2.1 cx.1.2.2.2.1 (cx.1.2.2.2.2 _ hcl) (cx.1.2.2.2.2 _ hins) (cx.1.2.2.2.2 _ hini) rfl d hcs.1 hcs.2 hKn.2.1 rfl fun H1 kC hkC e1 z1 o1 => ?_
  have hk := kk H1 locs lsA (hW.push (x := .inr (0, fs)) hok hn z1 ⟨_, rfl, (u_born tyX0 cx.1.2.2.2.2 zinX0 hKn hkC e1 tyX0_ok).to hfs⟩ o1 hh) ⟨Nat.le_trans hS.1 (by omega), fun x z2 z3 => (o1 x (Nat.lt_of_lt_of_le z2 hS.1)).trans (hS.2.1 x z2 z3), hS.2.2⟩ hl h1
  rw [ha] at hk
  exact hk
theorem x_newX1 (cx : Cx p s m args meth c cc nL own G) {idx i j : Nat} {fs : List Value} (hcl : Cond.classLink own idx RX1 ∈ zW) (hins : Cond.instantiable RX1 9 ∈ zW) (hini : Cond.initialized RX1 ∈ zW) (hok : zok i j) (hn : zix i j = n) (hfs : ∀ q, q < 9 → defaultValue (tyX1 q) = vp_V fs q) (hcs : cells + 1 ≤ R.cells ∧ slots + 9 ≤ R.slots) (hb : G.2.2 ≤ s.heap.size) (hh : ∀ i' j', zok i' j' → zix i' j' < n + 1 → h2 i' j' = hset h i j (.inr (1, fs)) i' j') (d : decode cc pc = .ok (.new idx, 3)) (kk : Xh p l e R s m args below meth c nL G Q (cells + 1) (slots + 9) (n + 1) h2 (pc + 3) ls (.ref (zad G i j) :: st)) : Xh p l e R s m args below meth c nL G Q cells slots n h pc ls st := by
  intro H locs lsA hW hS hl h1
  have hKn := cx.2.1.1.1 1 _ rfl
  have ha : zad G i j = H.size := by rw [hW.1, zad, hn]
  refine W.newcK cx.1.1 cx.1.2.1 cx.1.2.2.2.1 (cx.1.2.2.2.2 _ hcl) (cx.1.2.2.2.2 _ hins) (cx.1.2.2.2.2 _ hini) rfl d hcs.1 hcs.2 hKn.2.1 rfl fun H1 kC hkC e1 z1 o1 => ?_
  have hk := kk H1 locs lsA (hW.push (x := .inr (1, fs)) hok hn z1 ⟨_, rfl, (u_born tyX1 cx.1.2.2.2.2 zinX1 hKn hkC e1 tyX1_ok).to hfs⟩ o1 hh) ⟨Nat.le_trans hS.1 (by omega), fun x z2 z3 => (o1 x (Nat.lt_of_lt_of_le z2 hS.1)).trans (hS.2.1 x z2 z3), hS.2.2⟩ hl h1
  rw [ha] at hk
  exact hk
theorem x_newX3 (cx : Cx p s m args meth c cc nL own G) {idx i j : Nat} {fs : List Value} (hcl : Cond.classLink own idx RX3 ∈ zW) (hins : Cond.instantiable RX3 2 ∈ zW) (hini : Cond.initialized RX3 ∈ zW) (hok : zok i j) (hn : zix i j = n) (hfs : ∀ q, q < 2 → defaultValue (tyX3 q) = vp_V fs q) (hcs : cells + 1 ≤ R.cells ∧ slots + 2 ≤ R.slots) (hb : G.2.2 ≤ s.heap.size) (hh : ∀ i' j', zok i' j' → zix i' j' < n + 1 → h2 i' j' = hset h i j (.inr (2, fs)) i' j') (d : decode cc pc = .ok (.new idx, 3)) (kk : Xh p l e R s m args below meth c nL G Q (cells + 1) (slots + 2) (n + 1) h2 (pc + 3) ls (.ref (zad G i j) :: st)) : Xh p l e R s m args below meth c nL G Q cells slots n h pc ls st := by
  intro H locs lsA hW hS hl h1
  have hKn := cx.2.1.1.1 2 _ rfl
  have ha : zad G i j = H.size := by rw [hW.1, zad, hn]
  refine W.newcK cx.1.1 cx.1.2.1 cx.1.2.2.2.1 (cx.1.2.2.2.2 _ hcl) (cx.1.2.2.2.2 _ hins) (cx.1.2.2.2.2 _ hini) rfl d hcs.1 hcs.2 hKn.2.1 rfl fun H1 kC hkC e1 z1 o1 => ?_
  have hk := kk H1 locs lsA (hW.push (x := .inr (2, fs)) hok hn z1 ⟨_, rfl, (u_born tyX3 cx.1.2.2.2.2 zinX3 hKn hkC e1 tyX3_ok).to hfs⟩ o1 hh) ⟨Nat.le_trans hS.1 (by omega), fun x z2 z3 => (o1 x (Nat.lt_of_lt_of_le z2 hS.1)).trans (hS.2.1 x z2 z3), hS.2.2⟩ hl h1
  rw [ha] at hk
  exact hk
theorem x_newX5 (cx : Cx p s m args meth c cc nL own G) {idx i j : Nat} {fs : List Value} (hcl : Cond.classLink own idx RX5 ∈ zW) (hins : Cond.instantiable RX5 2 ∈ zW) (hini : Cond.initialized RX5 ∈ zW) (hok : zok i j) (hn : zix i j = n) (hfs : ∀ q, q < 2 → defaultValue (tyX5 q) = vp_V fs q) (hcs : cells + 1 ≤ R.cells ∧ slots + 2 ≤ R.slots) (hb : G.2.2 ≤ s.heap.size) (hh : ∀ i' j', zok i' j' → zix i' j' < n + 1 → h2 i' j' = hset h i j (.inr (3, fs)) i' j') (d : decode cc pc = .ok (.new idx, 3)) (kk : Xh p l e R s m args below meth c nL G Q (cells + 1) (slots + 2) (n + 1) h2 (pc + 3) ls (.ref (zad G i j) :: st)) : Xh p l e R s m args below meth c nL G Q cells slots n h pc ls st := by
  intro H locs lsA hW hS hl h1
  have hKn := cx.2.1.1.1 3 _ rfl
  have ha : zad G i j = H.size := by rw [hW.1, zad, hn]
  refine W.newcK cx.1.1 cx.1.2.1 cx.1.2.2.2.1 (cx.1.2.2.2.2 _ hcl) (cx.1.2.2.2.2 _ hins) (cx.1.2.2.2.2 _ hini) rfl d hcs.1 hcs.2 hKn.2.1 rfl fun H1 kC hkC e1 z1 o1 => ?_
  have hk := kk H1 locs lsA (hW.push (x := .inr (3, fs)) hok hn z1 ⟨_, rfl, (u_born tyX5 cx.1.2.2.2.2 zinX5 hKn hkC e1 tyX5_ok).to hfs⟩ o1 hh) ⟨Nat.le_trans hS.1 (by omega), fun x z2 z3 => (o1 x (Nat.lt_of_lt_of_le z2 hS.1)).trans (hS.2.1 x z2 z3), hS.2.2⟩ hl h1
  rw [ha] at hk
  exact hk
theorem x_newX6 (cx : Cx p s m args meth c cc nL own G) {idx i j : Nat} {fs : List Value} (hcl : Cond.classLink own idx RX6 ∈ zW) (hins : Cond.instantiable RX6 6 ∈ zW) (hini : Cond.initialized RX6 ∈ zW) (hok : zok i j) (hn : zix i j = n) (hfs : ∀ q, q < 6 → defaultValue (tyX6 q) = vp_V fs q) (hcs : cells + 1 ≤ R.cells ∧ slots + 6 ≤ R.slots) (hb : G.2.2 ≤ s.heap.size) (hh : ∀ i' j', zok i' j' → zix i' j' < n + 1 → h2 i' j' = hset h i j (.inr (4, fs)) i' j') (d : decode cc pc = .ok (.new idx, 3)) (kk : Xh p l e R s m args below meth c nL G Q (cells + 1) (slots + 6) (n + 1) h2 (pc + 3) ls (.ref (zad G i j) :: st)) : Xh p l e R s m args below meth c nL G Q cells slots n h pc ls st := by
  intro H locs lsA hW hS hl h1
  have hKn := cx.2.1.1.1 4 _ rfl
  have ha : zad G i j = H.size := by rw [hW.1, zad, hn]
  refine W.newcK cx.1.1 cx.1.2.1 cx.1.2.2.2.1 (cx.1.2.2.2.2 _ hcl) (cx.1.2.2.2.2 _ hins) (cx.1.2.2.2.2 _ hini) rfl d hcs.1 hcs.2 hKn.2.1 rfl fun H1 kC hkC e1 z1 o1 => ?_
  have hk := kk H1 locs lsA (hW.push (x := .inr (4, fs)) hok hn z1 ⟨_, rfl, (u_born tyX6 cx.1.2.2.2.2 zinX6 hKn hkC e1 tyX6_ok).to hfs⟩ o1 hh) ⟨Nat.le_trans hS.1 (by omega), fun x z2 z3 => (o1 x (Nat.lt_of_lt_of_le z2 hS.1)).trans (hS.2.1 x z2 z3), hS.2.2⟩ hl h1
  rw [ha] at hk
  exact hk
theorem x_newX7 (cx : Cx p s m args meth c cc nL own G) {idx i j : Nat} {fs : List Value} (hcl : Cond.classLink own idx RX7 ∈ zW) (hins : Cond.instantiable RX7 9 ∈ zW) (hini : Cond.initialized RX7 ∈ zW) (hok : zok i j) (hn : zix i j = n) (hfs : ∀ q, q < 9 → defaultValue (tyX7 q) = vp_V fs q) (hcs : cells + 1 ≤ R.cells ∧ slots + 9 ≤ R.slots) (hb : G.2.2 ≤ s.heap.size) (hh : ∀ i' j', zok i' j' → zix i' j' < n + 1 → h2 i' j' = hset h i j (.inr (5, fs)) i' j') (d : decode cc pc = .ok (.new idx, 3)) (kk : Xh p l e R s m args below meth c nL G Q (cells + 1) (slots + 9) (n + 1) h2 (pc + 3) ls (.ref (zad G i j) :: st)) : Xh p l e R s m args below meth c nL G Q cells slots n h pc ls st := by
  intro H locs lsA hW hS hl h1
  have hKn := cx.2.1.1.1 5 _ rfl
  have ha : zad G i j = H.size := by rw [hW.1, zad, hn]
  refine W.newcK cx.1.1 cx.1.2.1 cx.1.2.2.2.1 (cx.1.2.2.2.2 _ hcl) (cx.1.2.2.2.2 _ hins) (cx.1.2.2.2.2 _ hini) rfl d hcs.1 hcs.2 hKn.2.1 rfl fun H1 kC hkC e1 z1 o1 => ?_
  have hk := kk H1 locs lsA (hW.push (x := .inr (5, fs)) hok hn z1 ⟨_, rfl, (u_born tyX7 cx.1.2.2.2.2 zinX7 hKn hkC e1 tyX7_ok).to hfs⟩ o1 hh) ⟨Nat.le_trans hS.1 (by omega), fun x z2 z3 => (o1 x (Nat.lt_of_lt_of_le z2 hS.1)).trans (hS.2.1 x z2 z3), hS.2.2⟩ hl h1
  rw [ha] at hk
  exact hk
theorem KK_arr {G : zG} {U : State} (h : KK G U) (k : Nat) {ty : FieldType} {cA : ClassId} (hk : (ztys G)[k]? = some (G.2.1 k, ty)) (hty : ty = .int ∨ ty = .char) (hf : U.vm.findClass ("[" ++ ty.toString) = some cA) : cA = G.2.1 k := by
  have h1 := (h.1.2 k _ hk).2
  rcases hty with rfl | rfl
  · exact Option.some.inj (hf.symm.trans h1)
  · exact Option.some.inj (hf.symm.trans h1)
theorem KK_arrO {G : zG} {U : State} (h : KK G U) (k : Nat) {C : String} {cA : ClassId} (hk : (ztys G)[k]? = some (G.2.1 k, .object C)) (hf : U.vm.findClass ("[" ++ (FieldType.object C).toString) = some cA) : cA = G.2.1 k := by
  obtain ⟨kA, comp, -, -, -, h4⟩ := (h.1.2 k _ hk).2
  exact Option.some.inj (hf.symm.trans h4)
theorem x_newa_int (cx : Cx p s m args meth c cc nL own G) {i j N : Nat} {x : Int32} (hw : Cond.arrayClass .int ∈ zW) (hok : zok i j) (hn : zix i j = n) (hx : x = nI N) (hN : N ≤ 1000) (hcs : cells + 1 ≤ R.cells ∧ slots + N ≤ R.slots) (hh : ∀ i' j', zok i' j' → zix i' j' < n + 1 → h2 i' j' = hset h i j (.inl (G.2.1 0, N, .inl (fun _ => 0))) i' j') (d : decode cc pc = .ok (.newarray .int, 2)) (kk : Xh p l e R s m args below meth c nL G Q (cells + 1) (slots + N) (n + 1) h2 (pc + 2) ls (.ref (zad G i j) :: st)) : Xh p l e R s m args below meth c nL G Q cells slots n h pc ls (.int x :: st) := by
  intro H locs lsA hW hS hl h1
  subst hx
  have ha : zad G i j = H.size := by rw [hW.1, zad, hn]
  refine va_newaK (atype := .int) cx.1.1 cx.1.2.1 (cx.1.2.2.2.2 _ hw) rfl d rfl (nI_pos (by omega)) (nI_clamp (by omega)) (by simp only [newarray.typeOf, componentBytes]; omega) hcs.1 hcs.2 rfl fun H1 cA e1 z1 o1 hAr hNm => ?_
  have hcA : cA = G.2.1 0 := KK_arr cx.2.1 0 rfl (by first | exact Or.inl rfl | exact Or.inr rfl) hNm
  have hk := kk H1 locs lsA (hW.push hok hn z1 (by show H1[H.size]? = some (vp_cell _ _); rw [← hcA]; exact e1) o1 hh) ⟨Nat.le_trans hS.1 (by omega), fun x z2 z3 => (o1 x (Nat.lt_of_lt_of_le z2 hS.1)).trans (hS.2.1 x z2 z3), hS.2.2⟩ hl h1
  rw [ha] at hk
  exact hk
theorem x_newa_char (cx : Cx p s m args meth c cc nL own G) {i j N : Nat} {x : Int32} (hw : Cond.arrayClass .char ∈ zW) (hok : zok i j) (hn : zix i j = n) (hx : x = nI N) (hN : N ≤ 1000) (hcs : cells + 1 ≤ R.cells ∧ slots + N ≤ R.slots) (hh : ∀ i' j', zok i' j' → zix i' j' < n + 1 → h2 i' j' = hset h i j (.inl (G.2.1 1, N, .inl (fun _ => 0))) i' j') (d : decode cc pc = .ok (.newarray .char, 2)) (kk : Xh p l e R s m args below meth c nL G Q (cells + 1) (slots + N) (n + 1) h2 (pc + 2) ls (.ref (zad G i j) :: st)) : Xh p l e R s m args below meth c nL G Q cells slots n h pc ls (.int x :: st) := by
  intro H locs lsA hW hS hl h1
  subst hx
  have ha : zad G i j = H.size := by rw [hW.1, zad, hn]
  refine va_newaK (atype := .char) cx.1.1 cx.1.2.1 (cx.1.2.2.2.2 _ hw) rfl d rfl (nI_pos (by omega)) (nI_clamp (by omega)) (by simp only [newarray.typeOf, componentBytes]; omega) hcs.1 hcs.2 rfl fun H1 cA e1 z1 o1 hAr hNm => ?_
  have hcA : cA = G.2.1 1 := KK_arr cx.2.1 1 rfl (by first | exact Or.inl rfl | exact Or.inr rfl) hNm
  have hk := kk H1 locs lsA (hW.push hok hn z1 (by show H1[H.size]? = some (vp_cell _ _); rw [← hcA]; exact e1) o1 hh) ⟨Nat.le_trans hS.1 (by omega), fun x z2 z3 => (o1 x (Nat.lt_of_lt_of_le z2 hS.1)).trans (hS.2.1 x z2 z3), hS.2.2⟩ hl h1
  rw [ha] at hk
  exact hk
theorem x_newq (cx : Cx p s m args meth c cc nL own G) {i j N idx : Nat} {x : Int32} {C : String} (k : Nat) (hk0 : (ztys G)[k]? = some (G.2.1 k, .object C)) (hcl : Cond.classLink own idx C ∈ zW) (hw : va_AO C s) (hok : zok i j) (hn : zix i j = n) (hx : x = nI N) (hN : N ≤ 1000) (hcs : cells + 1 ≤ R.cells ∧ slots + N ≤ R.slots) (hh : ∀ i' j', zok i' j' → zix i' j' < n + 1 → h2 i' j' = hset h i j (.inl (G.2.1 k, N, .inr (.inr (.inr (.inr (fun _ => none)))))) i' j') (d : decode cc pc = .ok (.anewarray idx, 3)) (kk : Xh p l e R s m args below meth c nL G Q (cells + 1) (slots + N) (n + 1) h2 (pc + 3) ls (.ref (zad G i j) :: st)) : Xh p l e R s m args below meth c nL G Q cells slots n h pc ls (.int x :: st) := by
  intro H locs lsA hW hS hl h1
  subst hx
  have ha : zad G i j = H.size := by rw [hW.1, zad, hn]
  have hc : (nI N).toNatClampNeg = N := nI_clamp (by omega)
  refine W.anew cx.1.1 cx.1.2.1 cx.1.2.2.2.1 (cx.1.2.2.2.2 _ hcl) (va_AO.use hw) rfl d rfl (nI_pos (by omega)) (by rw [hc]; omega) hcs.1 (by rw [hc]; exact hcs.2) fun cA kA comp f1 f2 f3 f4 => ?_
  rw [hc]
  generalize hH1 : H.push ({ cls := cA, slots := Array.replicate N .null, vm := .none } : Cell) = H1
  have z1 : H1.size = H.size + 1 := by rw [← hH1, Array.size_push]
  have e1 : H1[H.size]? = some (arrV cA N (fun _ => .null)) := by rw [← hH1, Array.getElem?_push_size, ← arrV_new]
  have o1 : ∀ q : Nat, q < H.size → H1[q]? = H[q]? := fun q hq => by rw [← hH1, Array.getElem?_push, if_neg (Nat.ne_of_lt hq)]
  have hcA : cA = G.2.1 k := by first | exact KK_arrO cx.2.1 k hk0 f1 | exact KK_arrO cx.2.1 k hk0 f4 | exact KK_arrO cx.2.1 k hk0 f2
  have hk := kk H1 locs lsA (hW.push hok hn z1 (by show H1[H.size]? = some (vp_cell _ _); rw [← hcA]; exact e1) o1 hh) ⟨Nat.le_trans hS.1 (by omega), fun x z2 z3 => (o1 x (Nat.lt_of_lt_of_le z2 hS.1)).trans (hS.2.1 x z2 z3), hS.2.2⟩ hl h1
  rw [ha] at hk
  exact hk
theorem x_iret (cx : Cx p s m args meth c cc nL own G) {r v : Int32} (hr : meth.sig.returnType = some .int) (hv : v = r) (hh : ∀ i j, zok i j → zix i j < n → h2 i j = h i j) (d : decode cc pc = .ok (.ireturn, 1)) : Xh p l e R s m args below meth c nL G (MQ below (zQi G n r h2) args s cells slots (zA G)) cells slots n h pc ls [.int v] := by
  intro H locs lsA hW hS hl h1
  subst hv
  exact W.iret cx.1.1 cx.1.2.1 hr (fun t ht hw => ⟨⟨v, (), rfl, rfl, zpre cx (hW.conv hh) hS ht hw⟩, hS.F ht⟩) hS.2.2 d (hlocks := cx.2.2.2)
theorem x_fret (cx : Cx p s m args meth c cc nL own G) {r v : UInt32} (hr : meth.sig.returnType = some .float) (hv : v = r) (hh : ∀ i j, zok i j → zix i j < n → h2 i j = h i j) (d : decode cc pc = .ok (.freturn, 1)) : Xh p l e R s m args below meth c nL G (MQ below (zQf G n r h2) args s cells slots (zA G)) cells slots n h pc ls [.float v] := by
  intro H locs lsA hW hS hl h1
  subst hv
  exact W.fret cx.1.1 cx.1.2.1 hr (fun t ht hw => ⟨⟨v, (), rfl, rfl, zpre cx (hW.conv hh) hS ht hw⟩, hS.F ht⟩) hS.2.2 d (hlocks := cx.2.2.2)
theorem x_zret (cx : Cx p s m args meth c cc nL own G) {r v : Int32} (hr : meth.sig.returnType = some .boolean) (hv : v = r) (hb : v = 0 ∨ v = 1) (hh : ∀ i j, zok i j → zix i j < n → h2 i j = h i j) (d : decode cc pc = .ok (.ireturn, 1)) : Xh p l e R s m args below meth c nL G (MQ below (zQi G n r h2) args s cells slots (zA G)) cells slots n h pc ls [.int v] := by
  intro H locs lsA hW hS hl h1
  subst hv
  exact W.zret cx.1.1 cx.1.2.1 hr (by rcases hb with rfl | rfl <;> rfl) (fun t ht hw => ⟨⟨v, (), rfl, rfl, zpre cx (hW.conv hh) hS ht hw⟩, hS.F ht⟩) hS.2.2 d (hlocks := cx.2.2.2)
theorem x_vret (cx : Cx p s m args meth c cc nL own G) (hr : meth.sig.returnType = none) (hh : ∀ i j, zok i j → zix i j < n → h2 i j = h i j) (d : decode cc pc = .ok (.return_, 1)) : Xh p l e R s m args below meth c nL G (MQ below (zQv G n h2) args s cells slots (zA G)) cells slots n h pc ls [] := by
  intro H locs lsA hW hS hl h1
  exact W.vret cx.1.1 cx.1.2.1 hr (fun t ht hw => ⟨⟨(), rfl, trivial, zpre cx (hW.conv hh) hS ht hw⟩, hS.F ht⟩) hS.2.2 d (hlocks := cx.2.2.2)
end ZC
end
section
/-! ===== the state as numbers, and its picture in cells ===== -/
abbrev zCV : Type := Nat → Nat → Int32
abbrev zS : Type := Nat → Nat → Nat → Int32
def up (S : zS) (i : Nat) (X : zCV) : zS := fun i' => if i' = i then X else S i'
def uj (X : zCV) (j : Nat) (c : Nat → Int32) : zCV := fun j' => if j' = j then c else X j'
theorem up_same (S : zS) (i : Nat) (X : zCV) : up S i X i = X := if_pos rfl
theorem up_ne (S : zS) {i j : Nat} (X : zCV) (h : j ≠ i) : up S i X j = S j := if_neg h
theorem up_up (S : zS) (i : Nat) (X Y : zCV) : up (up S i X) i Y = up S i Y := by
  funext j
  unfold up
  by_cases h : j = i
  · rw [if_pos h, if_pos h]
  · rw [if_neg h, if_neg h, if_neg h]
theorem up_self (S : zS) (i : Nat) : up S i (S i) = S := by
  funext j
  unfold up
  by_cases h : j = i
  · rw [if_pos h, h]
  · rw [if_neg h]
theorem up_comm (S : zS) {i j : Nat} (h : i ≠ j) (X Y : zCV) : up (up S i X) j Y = up (up S j Y) i X := by
  funext q
  unfold up
  by_cases h1 : q = j
  · subst h1
    rw [if_pos rfl, if_neg (Ne.symm h), if_pos rfl]
  · rw [if_neg h1]
    by_cases h2 : q = i
    · rw [if_pos h2, if_pos h2]
    · rw [if_neg h2, if_neg h2, if_neg h1]
theorem uj_same (X : zCV) (j : Nat) (c : Nat → Int32) : uj X j c j = c := if_pos rfl
theorem uj_ne (X : zCV) {i j : Nat} (c : Nat → Int32) (h : j ≠ i) : uj X i c j = X j := if_neg h
theorem uj_uj (X : zCV) (j : Nat) (c d : Nat → Int32) : uj (uj X j c) j d = uj X j d := by
  funext q
  unfold uj
  by_cases h : q = j
  · rw [if_pos h, if_pos h]
  · rw [if_neg h, if_neg h, if_neg h]
theorem uj_self (X : zCV) (j : Nat) : uj X j (X j) = X := by
  funext q
  unfold uj
  by_cases h : q = j
  · rw [if_pos h, h]
  · rw [if_neg h]
theorem upd_same (c : Nat → Int32) (k : Nat) (v : Int32) : upd c k v k = v := if_pos rfl
theorem upd_ne (c : Nat → Int32) {k q : Nat} (v : Int32) (h : q ≠ k) : upd c k v q = c q := if_neg h
/-- an array's first N values -/
def tr (N : Nat) (f : Nat → Int32) : Nat → Int32 := fun k => if k < N then f k else 0
theorem tr_lt {N k : Nat} {f : Nat → Int32} (h : k < N) : tr N f k = f k := if_pos h
theorem tr_congr {N : Nat} {f g : Nat → Int32} (h : ∀ k, k < N → f k = g k) : tr N f = tr N g := by
  funext k
  unfold tr
  by_cases hk : k < N
  · rw [if_pos hk, if_pos hk, h k hk]
  · rw [if_neg hk, if_neg hk]
theorem tr_upd {N t : Nat} {f : Nat → Int32} {v : Int32} (h : t < N) : upd (tr N f) t v = tr N (upd f t v) := by
  funext k
  by_cases hk : k = t
  · subst hk
    rw [upd_same, tr_lt h, upd_same]
  · rw [upd_ne _ _ hk]
    unfold tr
    by_cases h2 : k < N
    · rw [if_pos h2, if_pos h2, upd_ne _ _ hk]
    · rw [if_neg h2, if_neg h2]
/-- a chain's value as one row of 66 numbers -/
def fl (X : zCV) : Nat → Int32 := fun t => if t < 4 then X 0 t else if t < 12 then X 2 (t - 4) else X ((t - 12) / 9 + 3) ((t - 12) % 9)
def pf (S : zS) : Nat → Int32 := fun t => fl (S (11 + t / 66)) (t % 66)
def rc (S : zS) (k : Nat) : Nat := (S 7 1 k).toNatClampNeg
def chipL (c : Nat → Int32) : List Value := [.int (c 0), .int (c 1), .int (c 2), .int (c 3), .int (c 4), .int (c 5), .int (c 6), .int (c 7), .int (c 8)]
def picC (G : zG) (i : Nat) (X : zCV) (j : Nat) : va_E :=
  if j = 0 then .inr (0, [.ref (zad G i 1), .int (X 0 0), .int (X 0 1), .int (X 0 2), .ref (zad G i 2), .int (X 0 3)])
  else if j = 1 then .inl (G.2.1 2, 6, .inr (.inr (.inr (.inr (fun k => some (zad G i (k + 3)))))))
  else if j = 2 then .inl (G.2.1 0, 8, .inl (tr 8 (X 2)))
  else .inr (1, chipL (X j))
def pic7 (G : zG) (S : zS) (j : Nat) : va_E :=
  if j = 0 then .inr (4, [.ref (zad G 0 0), .ref (zad G 1 0), .ref (zad G 2 0), .int (S 7 0 1), .ref (zad G 7 1), .ref (zad G 7 3)])
  else if j = 1 then .inr (2, [.ref (zad G 7 2), .int (S 7 0 0)])
  else if j = 2 then .inl (G.2.1 3, 4, .inr (.inr (.inr (.inr (fun k => if k < 4 then some (zad G (rc S k) 0) else none)))))
  else if j = 3 then .inr (3, [.ref (zad G 7 4), .int (S 7 0 2)])
  else .inl (G.2.1 1, 80, .inl (tr 80 (S 7 2)))
def pic8 (G : zG) (S : zS) (j : Nat) : va_E :=
  if j = 0 then .inr (5, [.ref (zad G 8 1), .ref (zad G 8 2), .ref (zad G 8 3), .int (S 15 0 0), .ref (zad G 8 4), .int (S 15 0 1), .ref (zad G 8 5), .int (S 15 0 2), .ref (zad G 8 6)])
  else if j = 1 then .inl (G.2.1 0, 66, .inl (tr 66 (fl (S 8))))
  else if j = 2 then .inl (G.2.1 0, 66, .inl (tr 66 (fl (S 9))))
  else if j = 3 then .inl (G.2.1 0, 264, .inl (tr 264 (pf S)))
  else if j = 4 then .inl (G.2.1 0, 66, .inl (tr 66 (fl (S 10))))
  else if j = 5 then .inl (G.2.1 0, 80, .inl (tr 80 (S 15 1)))
  else .inl (G.2.1 0, 16, .inl (tr 16 (S 15 2)))
def pic (G : zG) (S : zS) : zH := fun i j => if i = 7 then pic7 G S j else if i = 8 then pic8 G S j else picC G i (S i) j
/-- what of a chain's value is held in cells -/
def eqX (X Y : zCV) : Prop := (∀ k, k < 4 → X 0 k = Y 0 k) ∧ (∀ k, k < 8 → X 2 k = Y 2 k) ∧ ∀ t, t < 6 → ∀ k, k < 9 → X (t + 3) k = Y (t + 3) k
theorem eqX.rf (X : zCV) : eqX X X := ⟨fun _ _ => rfl, fun _ _ => rfl, fun _ _ _ _ => rfl⟩
theorem eqX_fl {X Y : zCV} (h : eqX X Y) : ∀ t, t < 66 → fl X t = fl Y t := by
  intro t ht
  unfold fl
  by_cases h1 : t < 4
  · rw [if_pos h1, if_pos h1, h.1 t h1]
  · rw [if_neg h1, if_neg h1]
    by_cases h2 : t < 12
    · rw [if_pos h2, if_pos h2, h.2.1 _ (by omega)]
    · rw [if_neg h2, if_neg h2]
      exact h.2.2 _ (by omega) _ (Nat.mod_lt _ (by decide))
theorem eqX_pic {G : zG} {i j : Nat} {X Y : zCV} (h : eqX X Y) (hj : j < 9) : picC G i X j = picC G i Y j := by
  unfold picC
  by_cases h0 : j = 0
  · rw [if_pos h0, if_pos h0, h.1 0 (by decide), h.1 1 (by decide), h.1 2 (by decide), h.1 3 (by decide)]
  · rw [if_neg h0, if_neg h0]
    by_cases h1 : j = 1
    · rw [if_pos h1, if_pos h1]
    · rw [if_neg h1, if_neg h1]
      by_cases h2 : j = 2
      · rw [if_pos h2, if_pos h2, tr_congr h.2.1]
      · rw [if_neg h2, if_neg h2]
        obtain ⟨t, rfl⟩ : ∃ t, j = t + 3 := ⟨j - 3, by omega⟩
        have := h.2.2 t (by omega)
        unfold chipL
        rw [this 0 (by decide), this 1 (by decide), this 2 (by decide), this 3 (by decide), this 4 (by decide), this 5 (by decide), this 6 (by decide), this 7 (by decide), this 8 (by decide)]
/-- what of a whole state is held in cells -/
def eqS (S T : zS) : Prop := (∀ i, i < 7 → eqX (S i) (T i)) ∧ (∀ i, 8 ≤ i → i < 15 → eqX (S i) (T i)) ∧ (∀ k, k < 3 → S 7 0 k = T 7 0 k) ∧ (∀ k, k < 4 → S 7 1 k = T 7 1 k) ∧ (∀ k, k < 80 → S 7 2 k = T 7 2 k) ∧ (∀ k, k < 3 → S 15 0 k = T 15 0 k) ∧ (∀ k, k < 80 → S 15 1 k = T 15 1 k) ∧ ∀ k, k < 16 → S 15 2 k = T 15 2 k
theorem eqS_pic {G : zG} {S T : zS} (h : eqS S T) {n : Nat} : ∀ i j, zok i j → zix i j < n → pic G S i j = pic G T i j := by
  intro i j hok _
  obtain ⟨h1, h2, h3, h4, h5, h6, h7, h8⟩ := h
  unfold pic
  rcases hok with ⟨a, b⟩ | ⟨a, b⟩ | ⟨a, b⟩
  · rw [if_neg (by omega), if_neg (by omega), if_neg (by omega), if_neg (by omega)]
    exact eqX_pic (h1 i a) b
  · subst a
    rw [if_pos rfl, if_pos rfl]
    unfold pic7
    rw [h3 0 (by decide), h3 1 (by decide), h3 2 (by decide), tr_congr h5]
    have hr : (fun k => if k < 4 then some (zad G (rc S k) 0) else none) = fun k => if k < 4 then some (zad G (rc T k) 0) else none := by
      funext k
      by_cases hk : k < 4
      · rw [if_pos hk, if_pos hk, rc, rc, h4 k hk]
      · rw [if_neg hk, if_neg hk]
    rw [hr]
  · subst a
    rw [if_neg (by decide), if_pos rfl, if_neg (by decide), if_pos rfl]
    unfold pic8
    rw [h6 0 (by decide), h6 1 (by decide), h6 2 (by decide), tr_congr h7, tr_congr h8, tr_congr (eqX_fl (h2 8 (by decide) (by decide))), tr_congr (eqX_fl (h2 9 (by decide) (by decide))), tr_congr (eqX_fl (h2 10 (by decide) (by decide)))]
    have hp : tr 264 (pf S) = tr 264 (pf T) := tr_congr fun k hk => eqX_fl (h2 (11 + k / 66) (by omega) (by omega)) _ (Nat.mod_lt _ (by decide))
    rw [hp]
theorem eqS.rf (S : zS) : eqS S S := ⟨fun _ _ => eqX.rf _, fun _ _ _ => eqX.rf _, fun _ _ => rfl, fun _ _ => rfl, fun _ _ => rfl, fun _ _ => rfl, fun _ _ => rfl, fun _ _ => rfl⟩
/-- one chain's value, up to what is held -/
theorem eqS_up {S : zS} {i : Nat} {X Y : zCV} (hi : i < 7 ∨ (8 ≤ i ∧ i < 15)) (h : eqX X Y) : eqS (up S i X) (up S i Y) := by
  refine ⟨fun q hq => ?_, fun q hq hq2 => ?_, fun k _ => ?_, fun k _ => ?_, fun k _ => ?_, fun k _ => ?_, fun k _ => ?_, fun k _ => ?_⟩
  · unfold up
    by_cases hc : q = i
    · rw [if_pos hc, if_pos hc]; exact h
    · rw [if_neg hc, if_neg hc]; exact eqX.rf _
  · unfold up
    by_cases hc : q = i
    · rw [if_pos hc, if_pos hc]; exact h
    · rw [if_neg hc, if_neg hc]; exact eqX.rf _
  all_goals (rw [up_ne _ _ (by omega), up_ne _ _ (by omega)])
theorem eqS_pic_up {G : zG} {S : zS} {i n : Nat} {X Y : zCV} (hi : i < 7 ∨ (8 ≤ i ∧ i < 15)) (h : eqX X Y) : ∀ i' j', zok i' j' → zix i' j' < n → pic G (up S i X) i' j' = pic G (up S i Y) i' j' := eqS_pic (eqS_up hi h)
/-! the cells of a chain -/
section PC
variable {G : zG} {S : zS} {i n : Nat} {X : zCV}
theorem zok_c {j : Nat} (hi : i < 7) (hj : j < 9) : zok i j := Or.inl ⟨hi, hj⟩
theorem zix_c {j : Nat} (hi : i < 7) (hj : j < 9) : zix i j < 75 := by
  unfold zix
  repeat' split
  all_goals omega
theorem pic_c {j : Nat} (hi : i < 7) : pic G S i j = picC G i (S i) j := by
  unfold pic
  rw [if_neg (by omega), if_neg (by omega)]
theorem pcO (hi : i < 7) : pic G (up S i X) i 0 = .inr (0, [.ref (zad G i 1), .int (X 0 0), .int (X 0 1), .int (X 0 2), .ref (zad G i 2), .int (X 0 3)]) := by
  rw [pic_c hi, up_same]; rfl
theorem pcA (hi : i < 7) : pic G S i 1 = .inl (G.2.1 2, 6, .inr (.inr (.inr (.inr (fun k => some (zad G i (k + 3))))))) := by
  rw [pic_c hi]; rfl
theorem pcI (hi : i < 7) : pic G (up S i X) i 2 = .inl (G.2.1 0, 8, .inl (tr 8 (X 2))) := by
  rw [pic_c hi, up_same]; rfl
theorem pcC (hi : i < 7) (t : Nat) : pic G (up S i X) i (t + 3) = .inr (1, chipL (X (t + 3))) := by
  rw [pic_c hi, up_same]; unfold picC
  rw [if_neg (by omega), if_neg (by omega), if_neg (by omega)]
theorem pcC' (hi : i < 7) (t : Nat) (c : Nat → Int32) : pic G (up S i (uj X (t + 3) c)) i (t + 3) = .inr (1, chipL c) := by
  rw [pcC hi, uj_same]
theorem chipL_set (c : Nat → Int32) (v : Int32) : ∀ k, k < 9 → (chipL c).set k (.int v) = chipL (upd c k v) := by
  intro k hk
  rcases (show k = 0 ∨ k = 1 ∨ k = 2 ∨ k = 3 ∨ k = 4 ∨ k = 5 ∨ k = 6 ∨ k = 7 ∨ k = 8 by omega) with rfl | rfl | rfl | rfl | rfl | rfl | rfl | rfl | rfl <;> rfl
/-- a change within one chain -/
theorem pp_c {X' : zCV} {j : Nat} {x : va_E} (hi : i < 7) (hj : picC G i X' j = x) (hq : ∀ j', j' < 9 → j' ≠ j → picC G i X' j' = picC G i X j') : ∀ i' j', zok i' j' → zix i' j' < n → pic G (up S i X') i' j' = hset (pic G (up S i X)) i j x i' j' := by
  intro i' j' hok _
  unfold hset
  by_cases hc : i' = i ∧ j' = j
  · rw [if_pos hc]
    obtain ⟨rfl, rfl⟩ := hc
    rw [pic_c hi, up_same]
    exact hj
  · rw [if_neg hc]
    by_cases h1 : i' = i
    · subst h1
      rw [pic_c hi, pic_c hi, up_same, up_same]
      have hj9 : j' < 9 := by rcases hok with h | h | h <;> omega
      exact hq j' hj9 (fun z => hc ⟨rfl, z⟩)
    · unfold pic
      by_cases h7 : i' = 7
      · rw [if_pos h7, if_pos h7]
        unfold pic7 rc
        rw [up_ne _ _ (by omega), up_ne _ _ (by omega)]
      · rw [if_neg h7, if_neg h7]
        by_cases h8 : i' = 8
        · rw [if_pos h8, if_pos h8]
          unfold pic8 pf
          rw [up_ne _ _ (by omega), up_ne _ _ (by omega), up_ne _ _ (by omega), up_ne _ _ (by omega), up_ne _ _ (by omega), up_ne _ _ (by omega), up_ne _ _ (by omega), up_ne _ _ (by omega)]
          have : ∀ t, fl (up S i X' (11 + t / 66)) (t % 66) = fl (up S i X (11 + t / 66)) (t % 66) := fun t => by rw [up_ne _ _ (by omega), up_ne _ _ (by omega)]
          simp only [this]
        · rw [if_neg h8, if_neg h8, up_ne _ _ h1, up_ne _ _ h1]
theorem picC_uj {j j' : Nat} {c : Nat → Int32} (h : j' ≠ j) : picC G i (uj X j c) j' = picC G i X j' := by
  unfold picC
  by_cases h0 : j' = 0
  · subst h0
    rw [if_pos rfl, if_pos rfl, uj_ne _ _ h]
  · rw [if_neg h0, if_neg h0]
    by_cases h1 : j' = 1
    · rw [if_pos h1, if_pos h1]
    · rw [if_neg h1, if_neg h1]
      by_cases h2 : j' = 2
      · subst h2
        rw [if_pos rfl, if_pos rfl, uj_ne _ _ h]
      · rw [if_neg h2, if_neg h2, uj_ne _ _ h]
theorem ppO {c : Nat → Int32} (hi : i < 7) : ∀ i' j', zok i' j' → zix i' j' < n → pic G (up S i (uj X 0 c)) i' j' = hset (pic G (up S i X)) i 0 (.inr (0, [.ref (zad G i 1), .int (c 0), .int (c 1), .int (c 2), .ref (zad G i 2), .int (c 3)])) i' j' :=
  pp_c hi rfl (fun _ _ h => picC_uj h)
theorem ppI {t : Nat} {v : Int32} (hi : i < 7) (ht : t < 8) : ∀ i' j', zok i' j' → zix i' j' < n → pic G (up S i (uj X 2 (upd (X 2) t v))) i' j' = hset (pic G (up S i X)) i 2 (.inl (G.2.1 0, 8, .inl (upd (tr 8 (X 2)) t v))) i' j' :=
  pp_c hi (by rw [tr_upd ht]; rfl) (fun _ _ h => picC_uj h)
theorem ppC {t k : Nat} {v : Int32} (hi : i < 7) (hk : k < 9) : ∀ i' j', zok i' j' → zix i' j' < n → pic G (up S i (uj X (t + 3) (upd (X (t + 3)) k v))) i' j' = hset (pic G (up S i X)) i (t + 3) (.inr (1, (chipL (X (t + 3))).set k (.int v))) i' j' :=
  pp_c hi (by rw [chipL_set _ _ k hk]; unfold picC; rw [if_neg (by omega), if_neg (by omega), if_neg (by omega), uj_same]) (fun _ _ h => picC_uj h)
theorem ppC' {t k : Nat} {c : Nat → Int32} {v : Int32} (hi : i < 7) (hk : k < 9) : ∀ i' j', zok i' j' → zix i' j' < n → pic G (up S i (uj X (t + 3) (upd c k v))) i' j' = hset (pic G (up S i (uj X (t + 3) c))) i (t + 3) (.inr (1, (chipL c).set k (.int v))) i' j' := by
  have h := ppC (G := G) (S := S) (i := i) (n := n) (X := uj X (t + 3) c) (t := t) (k := k) (v := v) hi hk
  rw [uj_same, uj_uj] at h
  exact h
end PC
end
section
/-! ===== what a chip's methods answer and do ===== -/
theorem nI_inc (k : Nat) : nI k + Int32.ofInt 1 = nI (k + 1) := (nI_succ k).symm
theorem k9 {P : Nat → Prop} (h0 : P 0) (h1 : P 1) (h2 : P 2) (h3 : P 3) (h4 : P 4) (h5 : P 5) (h6 : P 6) (h7 : P 7) (h8 : P 8) : ∀ k, k < 9 → P k := by
  intro k hk
  rcases (show k = 0 ∨ k = 1 ∨ k = 2 ∨ k = 3 ∨ k = 4 ∨ k = 5 ∨ k = 6 ∨ k = 7 ∨ k = 8 by omega) with rfl | rfl | rfl | rfl | rfl | rfl | rfl | rfl | rfl <;> assumption
def zOnes (b : Int32) : Int32 := (1 <<< (b &&& 31)) - 1
def zin (x a b : Int32) : Int32 := if x < a then 0 else if b < x then 0 else 1
theorem zin_01 (x a b : Int32) : zin x a b = 0 ∨ zin x a b = 1 := by
  unfold zin
  repeat' split
  all_goals first | exact Or.inl rfl | exact Or.inr rfl
theorem zin_0 {x a b : Int32} (h : zin x a b = 0) : ¬ (a ≤ x ∧ x ≤ b) := by
  unfold zin at h
  rintro ⟨h1, h2⟩
  rw [if_neg (Int32.not_lt.mpr h1), if_neg (Int32.not_lt.mpr h2)] at h
  exact absurd h (by decide)
theorem zin_1 {x a b : Int32} (h : ¬ zin x a b = 0) : a ≤ x ∧ x ≤ b := by
  unfold zin at h
  by_cases h1 : x < a
  · rw [if_pos h1] at h; exact absurd rfl h
  · rw [if_neg h1] at h
    by_cases h2 : b < x
    · rw [if_pos h2] at h; exact absurd rfl h
    · exact ⟨Int32.not_lt.mp h1, Int32.not_lt.mp h2⟩
def zisId (x : Int32) : Int32 := if x = 0 then 1 else if zin x 1 253 = 0 then 0 else if x - x / 2 * 2 = 1 then 1 else 0
abbrev zC (c : Nat → Int32) : Prop := c 6 = 0 ∨ c 6 = 2
abbrev zI (c : Nat → Int32) : Prop := c 6 = 1 ∧ ¬ c 1 = 0
def zselC (c : Nat → Int32) : Int32 := if zC c then 1 else 0
def zselI (c : Nat → Int32) : Int32 := if zI c then 1 else 0
theorem zselC_0 {c : Nat → Int32} : zselC c = 0 ↔ ¬ zC c := by
  unfold zselC
  by_cases h : zC c
  · rw [if_pos h]; exact ⟨fun z => absurd z (by decide), fun z => absurd h z⟩
  · rw [if_neg h]; exact ⟨fun _ => h, fun _ => rfl⟩
theorem zselI_0 {c : Nat → Int32} : zselI c = 0 ↔ ¬ zI c := by
  unfold zselI
  by_cases h : zI c
  · rw [if_pos h]; exact ⟨fun z => absurd z (by decide), fun z => absurd h z⟩
  · rw [if_neg h]; exact ⟨fun _ => h, fun _ => rfl⟩
def zselB (c : Nat → Int32) : Int32 := if zC c then 0 else if zI c then 0 else 1
def zBits (c : Nat → Int32) : Int32 := if zC c then c 2 else if zI c then 8 else 1
def zGive (c : Nat → Int32) (v : Int32) : Nat → Int32 := upd (upd c 6 v) 8 0
def zFI (c : Nat → Int32) : Int32 := if c 1 = 0 then zOnes (c 0) else 1
def zFirst (c : Nat → Int32) : Nat → Int32 := zGive c (zFI c)
def zNew (cl id ce : Int32) : Nat → Int32 := fun k => if k = 0 then cl else if k = 1 then id else if k = 2 then ce else if k = 6 then (if id = 0 then zOnes cl else 1) else 0
def zCapV (c : Nat → Int32) : Int32 := if zC c then c 3 else if zI c then c 1 else 0
def zCap (c : Nat → Int32) : Nat → Int32 := upd c 8 (zCapV c)
def zUpd (c : Nat → Int32) : Nat → Int32 := if c 6 = 0 then upd c 4 (c 8) else c
def zDO (c : Nat → Int32) : Int32 := if c 5 = 0 then c 8 &&& 1 else 1
def zCO (c : Nat → Int32) : Int32 := if c 5 = 0 then c 7 &&& 1 else 1
def zSh (r b x : Int32) : Int32 := (r >>> (1 &&& 31)) ||| (x <<< ((b - 1) &&& 31))
def zShD (c : Nat → Int32) (x : Int32) : Nat → Int32 := upd c 8 (zSh (c 8) (zBits c) x)
def zShC (c : Nat → Int32) (x : Int32) : Nat → Int32 := upd c 7 (zSh (c 7) (c 0) x)
def zPins (c : Nat → Int32) (x : Int32) : Nat → Int32 := upd c 3 (x &&& zOnes (c 2))
def zTell (c : Nat → Int32) (x : Int32) : Int32 := if x = 0 then c 0 else if x = 1 then c 1 else if x = 2 then c 2 else if x = 3 then c 3 else if x = 4 then c 4 else if x = 5 then (if c 5 = 0 then 0 else 1) else if x = 6 then c 6 else if x = 7 then c 7 else if x = 8 then c 8 else if x = 9 then zBits c else -2
theorem eqX_uj {X : zCV} {t : Nat} {c d : Nat → Int32} (h : ∀ k, k < 9 → c k = d k) : eqX (uj X (t + 3) c) (uj X (t + 3) d) := by
  refine ⟨fun k _ => ?_, fun k _ => ?_, fun q _ k hk => ?_⟩
  · rw [uj_ne _ _ (by omega), uj_ne _ _ (by omega)]
  · rw [uj_ne _ _ (by omega), uj_ne _ _ (by omega)]
  · by_cases hq : q = t
    · subst hq
      rw [uj_same, uj_same]
      exact h k hk
    · rw [uj_ne _ _ (by omega), uj_ne _ _ (by omega)]
/-- a number within a switch's bounds, or below, or above -/
theorem sw_cases (x : Int32) (n : Nat) (hn : n < 2 ^ 31) : x.toInt < 0 ∨ (n : Int) < x.toInt ∨ ∃ w, w ≤ n ∧ x = nI w := by
  by_cases h1 : x.toInt < 0
  · exact Or.inl h1
  · by_cases h2 : (n : Int) < x.toInt
    · exact Or.inr (Or.inl h2)
    · refine Or.inr (Or.inr ⟨x.toInt.toNat, by omega, ?_⟩)
      apply Int32.toInt_inj.mp
      rw [nI_toInt (by omega)]
      omega
theorem ppO0 {G : zG} {S : zS} {i n : Nat} {X : zCV} {v : Int32} (hi : i < 7) : ∀ i' j', zok i' j' → zix i' j' < n → pic G (up S i (uj X 0 (upd (X 0) 0 v))) i' j' = hset (pic G (up S i X)) i 0 (.inr (0, [.ref (zad G i 1), .int v, .int (X 0 1), .int (X 0 2), .ref (zad G i 2), .int (X 0 3)])) i' j' := ppO hi
theorem ppO1 {G : zG} {S : zS} {i n : Nat} {X : zCV} {v : Int32} (hi : i < 7) : ∀ i' j', zok i' j' → zix i' j' < n → pic G (up S i (uj X 0 (upd (X 0) 1 v))) i' j' = hset (pic G (up S i X)) i 0 (.inr (0, [.ref (zad G i 1), .int (X 0 0), .int v, .int (X 0 2), .ref (zad G i 2), .int (X 0 3)])) i' j' := ppO hi
theorem ppO2 {G : zG} {S : zS} {i n : Nat} {X : zCV} {v : Int32} (hi : i < 7) : ∀ i' j', zok i' j' → zix i' j' < n → pic G (up S i (uj X 0 (upd (X 0) 2 v))) i' j' = hset (pic G (up S i X)) i 0 (.inr (0, [.ref (zad G i 1), .int (X 0 0), .int (X 0 1), .int v, .ref (zad G i 2), .int (X 0 3)])) i' j' := ppO hi
theorem ppO3 {G : zG} {S : zS} {i n : Nat} {X : zCV} {v : Int32} (hi : i < 7) : ∀ i' j', zok i' j' → zix i' j' < n → pic G (up S i (uj X 0 (upd (X 0) 3 v))) i' j' = hset (pic G (up S i X)) i 0 (.inr (0, [.ref (zad G i 1), .int (X 0 0), .int (X 0 1), .int (X 0 2), .ref (zad G i 2), .int v])) i' j' := ppO hi
/-- another chip's cell, where one chip's is named -/
theorem pcC2 {G : zG} {S : zS} {i t i2 t2 : Nat} {c : Nat → Int32} (hi2 : i2 < 7) (h : ¬ (i2 = i ∧ t2 = t)) : pic G (up S i (uj (S i) (t + 3) c)) i2 (t2 + 3) = .inr (1, chipL (S i2 (t2 + 3))) := by
  by_cases h1 : i2 = i
  · subst h1
    rw [pcC hi2, uj_ne _ _ (by omega)]
  · rw [pic_c hi2, up_ne _ _ h1]
    unfold picC
    rw [if_neg (by omega), if_neg (by omega), if_neg (by omega)]
end
section
set_option maxHeartbeats 4000000 in
set_option maxRecDepth 100000 in
theorem c_X6_isWithin (l : Launch) (G : zG) (n : Nat) (h : zH) (x : Int32) (a : Int32) (b : Int32) : Met l yX6_isWithin (zws yX6_isWithin cX6_isWithin 3 (some .boolean)) (zrm 0 0 0 0) (zPc G n (h) [.int x, .int a, .int b]) (zQi G n (zin x a b) (h)) 0 0 (zA G) := by
  refine zMet npX6_isWithin rfl (Nat.le_of_ble_eq_true rfl) ?_
  intro p e s m args below meth cd hargs cx hr hin0
  have cx : Cx p s m args meth cd cX6_isWithin 3 RX6 G := cx
  refine x_ls (ls' := [some (.int x), some (.int a), some (.int b)]) rfl (fun _ h => h) ?_
  refine x_iload_n cx dX6_isWithin_0 rfl rfl ?_
  refine x_iload_n cx dX6_isWithin_1 rfl rfl ?_
  refine x_icmp_lt (tgt := 14) cx dX6_isWithin_2 (by decide) (fun hb2 => ?_) (fun hb2 => ?_)
  · refine x_iconst (v := 0) cx dX6_isWithin_14 (by decide) ?_
    exact x_zret cx hr (by simp [zin, hb2]) (by first | exact Or.inl rfl | exact Or.inr rfl) (fun _ _ _ _ => rfl) dX6_isWithin_15
  · refine x_iload_n cx dX6_isWithin_5 rfl rfl ?_
    refine x_iload_n cx dX6_isWithin_6 rfl rfl ?_
    refine x_icmp_gt (tgt := 14) cx dX6_isWithin_7 (by decide) (fun hb7 => ?_) (fun hb7 => ?_)
    · refine x_iconst (v := 0) cx dX6_isWithin_14 (by decide) ?_
      exact x_zret cx hr (by simp [zin, hb2, hb7]) (by first | exact Or.inl rfl | exact Or.inr rfl) (fun _ _ _ _ => rfl) dX6_isWithin_15
    · refine x_iconst (v := 1) cx dX6_isWithin_10 (by decide) ?_
      refine x_goto (tgt := 15) cx dX6_isWithin_11 (by decide) ?_
      exact x_zret cx hr (by simp [zin, hb2, hb7]) (by first | exact Or.inl rfl | exact Or.inr rfl) (fun _ _ _ _ => rfl) dX6_isWithin_15

set_option maxHeartbeats 4000000 in
set_option maxRecDepth 100000 in
theorem c_X6_isIdentity (l : Launch) (G : zG) (n : Nat) (h : zH) (x : Int32) : Met l yX6_isIdentity (zws yX6_isIdentity cX6_isIdentity 1 (some .boolean)) (zrm 1 0 0 22) (zPc G n (h) [.int x]) (zQi G n (zisId x) (h)) 0 0 (zA G) := by
  refine zMet npX6_isIdentity rfl (Nat.le_of_ble_eq_true rfl) ?_
  intro p e s m args below meth cd hargs cx hr hin0
  have cx : Cx p s m args meth cd cX6_isIdentity 1 RX6 G := cx
  refine x_ls (ls' := [some (.int x)]) rfl (fun _ h => h) ?_
  refine x_iload_n cx dX6_isIdentity_0 rfl rfl ?_
  refine x_if_eq (tgt := 22) cx dX6_isIdentity_1 (by decide) (fun hb1 => ?_) (fun hb1 => ?_)
  · refine x_iconst (v := 1) cx dX6_isIdentity_22 (by decide) ?_
    refine x_goto (tgt := 27) cx dX6_isIdentity_23 (by decide) ?_
    exact x_zret cx hr (by simp [zisId, hb1]) (by first | exact Or.inl rfl | exact Or.inr rfl) (fun _ _ _ _ => rfl) dX6_isIdentity_27
  · refine x_iload_n cx dX6_isIdentity_4 rfl rfl ?_
    refine x_iconst (v := 1) cx dX6_isIdentity_5 (by decide) ?_
    refine x_sipush (v := 253) cx dX6_isIdentity_6 (by decide) ?_
    refine x_Si (rest := []) cx (c_X6_isWithin l G _ _ _ _ _) gS_X6_40 ndX6_isWithin ⟨Nat.le_of_ble_eq_true rfl, Nat.le_of_ble_eq_true rfl⟩ rfl rfl (Nat.le_of_ble_eq_true rfl) dX6_isIdentity_9 ⟨Nat.le_of_ble_eq_true rfl, Nat.le_of_ble_eq_true rfl⟩ ?_
    refine x_if_eq (tgt := 26) cx dX6_isIdentity_12 (by decide) (fun hb12 => ?_) (fun hb12 => ?_)
    · refine x_iconst (v := 0) cx dX6_isIdentity_26 (by decide) ?_
      exact x_zret cx hr (by simp [zisId, hb1, hb12]) (by first | exact Or.inl rfl | exact Or.inr rfl) (fun _ _ _ _ => rfl) dX6_isIdentity_27
    · refine x_iload_n cx dX6_isIdentity_15 rfl rfl ?_
      refine x_iconst (v := 2) cx dX6_isIdentity_16 (by decide) ?_
      refine x_irem cx dX6_isIdentity_17 (by decide) ?_
      refine x_iconst (v := 1) cx dX6_isIdentity_18 (by decide) ?_
      refine x_icmp_ne (tgt := 26) cx dX6_isIdentity_19 (by decide) (fun hb19 => ?_) (fun hb19 => ?_)
      · refine x_iconst (v := 0) cx dX6_isIdentity_26 (by decide) ?_
        exact x_zret cx hr (by simp [zisId, hb1, hb12, hb19]) (by first | exact Or.inl rfl | exact Or.inr rfl) (fun _ _ _ _ => rfl) dX6_isIdentity_27
      · refine x_iconst (v := 1) cx dX6_isIdentity_22 (by decide) ?_
        refine x_goto (tgt := 27) cx dX6_isIdentity_23 (by decide) ?_
        exact x_zret cx hr (by simp [zisId, hb1, hb12, hb19]) (by first | exact Or.inl rfl | exact Or.inr rfl) (fun _ _ _ _ => rfl) dX6_isIdentity_27

set_option maxHeartbeats 4000000 in
set_option maxRecDepth 100000 in
theorem c_X6_allOnes (l : Launch) (G : zG) (n : Nat) (h : zH) (b : Int32) : Met l yX6_allOnes (zws yX6_allOnes cX6_allOnes 1 (some .int)) (zrm 0 0 0 0) (zPc G n (h) [.int b]) (zQi G n (zOnes b) (h)) 0 0 (zA G) := by
  refine zMet npX6_allOnes rfl (Nat.le_of_ble_eq_true rfl) ?_
  intro p e s m args below meth cd hargs cx hr hin0
  have cx : Cx p s m args meth cd cX6_allOnes 1 RX6 G := cx
  refine x_ls (ls' := [some (.int b)]) rfl (fun _ h => h) ?_
  refine x_iconst (v := 1) cx dX6_allOnes_0 (by decide) ?_
  refine x_iload_n cx dX6_allOnes_1 rfl rfl ?_
  refine x_ishl cx dX6_allOnes_2 ?_
  refine x_iconst (v := 1) cx dX6_allOnes_3 (by decide) ?_
  refine x_isub cx dX6_allOnes_4 ?_
  exact x_iret cx hr rfl (fun _ _ _ _ => rfl) dX6_allOnes_5

set_option maxHeartbeats 4000000 in
set_option maxRecDepth 100000 in
theorem c_X1_shifted (l : Launch) (G : zG) (n : Nat) (h : zH) (r : Int32) (b : Int32) (x : Int32) : Met l yX1_shifted (zws yX1_shifted cX1_shifted 3 (some .int)) (zrm 0 0 0 0) (zPc G n (h) [.int r, .int b, .int x]) (zQi G n (zSh r b x) (h)) 0 0 (zA G) := by
  refine zMet npX1_shifted rfl (Nat.le_of_ble_eq_true rfl) ?_
  intro p e s m args below meth cd hargs cx hr hin0
  have cx : Cx p s m args meth cd cX1_shifted 3 RX1 G := cx
  refine x_ls (ls' := [some (.int r), some (.int b), some (.int x)]) rfl (fun _ h => h) ?_
  refine x_iload_n cx dX1_shifted_0 rfl rfl ?_
  refine x_iconst (v := 1) cx dX1_shifted_1 (by decide) ?_
  refine x_ishr cx dX1_shifted_2 ?_
  refine x_iload_n cx dX1_shifted_3 rfl rfl ?_
  refine x_iload_n cx dX1_shifted_4 rfl rfl ?_
  refine x_iconst (v := 1) cx dX1_shifted_5 (by decide) ?_
  refine x_isub cx dX1_shifted_6 ?_
  refine x_ishl cx dX1_shifted_7 ?_
  refine x_ior cx dX1_shifted_8 ?_
  exact x_iret cx hr rfl (fun _ _ _ _ => rfl) dX1_shifted_9

set_option maxHeartbeats 4000000 in
set_option maxRecDepth 100000 in
theorem c_X1_selectsCells (l : Launch) (G : zG) (S : zS) (i t : Nat) (hi : i < 7) (ht : t < 6) (X : zCV) (c : Nat → Int32) : Met l yX1_selectsCells (zws yX1_selectsCells cX1_selectsCells 1 (some .boolean)) (zrm 0 0 0 0) (zPc G 75 (pic G (up S i (uj X (t + 3) c))) [.ref (zad G i (t + 3))]) (zQi G 75 (zselC c) (pic G (up S i (uj X (t + 3) (c))))) 0 0 (zA G) := by
  refine zMet npX1_selectsCells rfl (Nat.le_of_ble_eq_true rfl) ?_
  intro p e s m args below meth cd hargs cx hr hin0
  have cx : Cx p s m args meth cd cX1_selectsCells 1 RX1 G := cx
  refine x_ls (ls' := [some (.ref (zad G i (t + 3)))]) rfl (fun _ h => h) ?_
  refine x_aload_n cx dX1_selectsCells_0 rfl rfl ?_
  refine x_getX1 cx 6 (by decide) (fl_X1_37 cx) (zok_c hi (by omega)) (zix_c hi (by omega)) (pcC' hi _ _) rfl dX1_selectsCells_1 ?_
  refine x_if_eq (tgt := 15) cx dX1_selectsCells_4 (by decide) (fun hb4 => ?_) (fun hb4 => ?_)
  · refine x_iconst (v := 1) cx dX1_selectsCells_15 (by decide) ?_
    refine x_goto (tgt := 20) cx dX1_selectsCells_16 (by decide) ?_
    exact x_zret cx hr (by simp [zselC, zC, hb4]) (by first | exact Or.inl rfl | exact Or.inr rfl) (fun _ _ _ _ => rfl) dX1_selectsCells_20
  · refine x_aload_n cx dX1_selectsCells_7 rfl rfl ?_
    refine x_getX1 cx 6 (by decide) (fl_X1_37 cx) (zok_c hi (by omega)) (zix_c hi (by omega)) (pcC' hi _ _) rfl dX1_selectsCells_8 ?_
    refine x_iconst (v := 2) cx dX1_selectsCells_11 (by decide) ?_
    refine x_icmp_ne (tgt := 19) cx dX1_selectsCells_12 (by decide) (fun hb12 => ?_) (fun hb12 => ?_)
    · refine x_iconst (v := 0) cx dX1_selectsCells_19 (by decide) ?_
      exact x_zret cx hr (by simp [zselC, zC, hb4, hb12]) (by first | exact Or.inl rfl | exact Or.inr rfl) (fun _ _ _ _ => rfl) dX1_selectsCells_20
    · refine x_iconst (v := 1) cx dX1_selectsCells_15 (by decide) ?_
      refine x_goto (tgt := 20) cx dX1_selectsCells_16 (by decide) ?_
      exact x_zret cx hr (by simp [zselC, zC, hb4, hb12]) (by first | exact Or.inl rfl | exact Or.inr rfl) (fun _ _ _ _ => rfl) dX1_selectsCells_20

set_option maxHeartbeats 4000000 in
set_option maxRecDepth 100000 in
theorem c_X1_selectsIdentity (l : Launch) (G : zG) (S : zS) (i t : Nat) (hi : i < 7) (ht : t < 6) (X : zCV) (c : Nat → Int32) : Met l yX1_selectsIdentity (zws yX1_selectsIdentity cX1_selectsIdentity 1 (some .boolean)) (zrm 0 0 0 0) (zPc G 75 (pic G (up S i (uj X (t + 3) c))) [.ref (zad G i (t + 3))]) (zQi G 75 (zselI c) (pic G (up S i (uj X (t + 3) (c))))) 0 0 (zA G) := by
  refine zMet npX1_selectsIdentity rfl (Nat.le_of_ble_eq_true rfl) ?_
  intro p e s m args below meth cd hargs cx hr hin0
  have cx : Cx p s m args meth cd cX1_selectsIdentity 1 RX1 G := cx
  refine x_ls (ls' := [some (.ref (zad G i (t + 3)))]) rfl (fun _ h => h) ?_
  refine x_aload_n cx dX1_selectsIdentity_0 rfl rfl ?_
  refine x_getX1 cx 6 (by decide) (fl_X1_37 cx) (zok_c hi (by omega)) (zix_c hi (by omega)) (pcC' hi _ _) rfl dX1_selectsIdentity_1 ?_
  refine x_iconst (v := 1) cx dX1_selectsIdentity_4 (by decide) ?_
  refine x_icmp_ne (tgt := 19) cx dX1_selectsIdentity_5 (by decide) (fun hb5 => ?_) (fun hb5 => ?_)
  · refine x_iconst (v := 0) cx dX1_selectsIdentity_19 (by decide) ?_
    exact x_zret cx hr (by simp [zselI, zI, hb5]) (by first | exact Or.inl rfl | exact Or.inr rfl) (fun _ _ _ _ => rfl) dX1_selectsIdentity_20
  · refine x_aload_n cx dX1_selectsIdentity_8 rfl rfl ?_
    refine x_getX1 cx 1 (by decide) (fl_X1_15 cx) (zok_c hi (by omega)) (zix_c hi (by omega)) (pcC' hi _ _) rfl dX1_selectsIdentity_9 ?_
    refine x_if_eq (tgt := 19) cx dX1_selectsIdentity_12 (by decide) (fun hb12 => ?_) (fun hb12 => ?_)
    · refine x_iconst (v := 0) cx dX1_selectsIdentity_19 (by decide) ?_
      exact x_zret cx hr (by simp [zselI, zI, hb5, hb12]) (by first | exact Or.inl rfl | exact Or.inr rfl) (fun _ _ _ _ => rfl) dX1_selectsIdentity_20
    · refine x_iconst (v := 1) cx dX1_selectsIdentity_15 (by decide) ?_
      refine x_goto (tgt := 20) cx dX1_selectsIdentity_16 (by decide) ?_
      exact x_zret cx hr (by simp [zselI, zI, hb5, hb12]) (by first | exact Or.inl rfl | exact Or.inr rfl) (fun _ _ _ _ => rfl) dX1_selectsIdentity_20

set_option maxHeartbeats 4000000 in
set_option maxRecDepth 100000 in
theorem c_X1_selectsBypass (l : Launch) (G : zG) (S : zS) (i t : Nat) (hi : i < 7) (ht : t < 6) (X : zCV) (c : Nat → Int32) : Met l yX1_selectsBypass (zws yX1_selectsBypass cX1_selectsBypass 1 (some .boolean)) (zrm 1 0 0 20) (zPc G 75 (pic G (up S i (uj X (t + 3) c))) [.ref (zad G i (t + 3))]) (zQi G 75 (zselB c) (pic G (up S i (uj X (t + 3) (c))))) 0 0 (zA G) := by
  refine zMet npX1_selectsBypass rfl (Nat.le_of_ble_eq_true rfl) ?_
  intro p e s m args below meth cd hargs cx hr hin0
  have cx : Cx p s m args meth cd cX1_selectsBypass 1 RX1 G := cx
  refine x_ls (ls' := [some (.ref (zad G i (t + 3)))]) rfl (fun _ h => h) ?_
  refine x_aload_n cx dX1_selectsBypass_0 rfl rfl ?_
  refine x_Vi (C := RX1) (T := TX1) (N := 9) (rest := []) cx (c_X1_selectsCells l G _ i t hi (by omega) _ _) gV_X1_47 ndX1_selectsCells rfl ⟨Nat.le_of_ble_eq_true rfl, Nat.le_of_ble_eq_true rfl⟩ (zok_c hi (by omega)) (zix_c hi (by omega)) (pcC' hi _ _) rfl rfl rfl (Nat.le_of_ble_eq_true rfl) dX1_selectsBypass_1 ⟨Nat.le_of_ble_eq_true rfl, Nat.le_of_ble_eq_true rfl⟩ ?_
  refine x_if_ne (tgt := 18) cx dX1_selectsBypass_4 (by decide) (fun hb4 => ?_) (fun hb4 => ?_)
  · refine x_iconst (v := 0) cx dX1_selectsBypass_18 (by decide) ?_
    exact x_zret cx hr (by simp only [zselC_0, zselI_0, Decidable.not_not] at hb4; simp [zselB, hb4]) (by first | exact Or.inl rfl | exact Or.inr rfl) (fun _ _ _ _ => rfl) dX1_selectsBypass_19
  · refine x_aload_n cx dX1_selectsBypass_7 rfl rfl ?_
    refine x_Vi (C := RX1) (T := TX1) (N := 9) (rest := []) cx (c_X1_selectsIdentity l G _ i t hi (by omega) _ _) gV_X1_51 ndX1_selectsIdentity rfl ⟨Nat.le_of_ble_eq_true rfl, Nat.le_of_ble_eq_true rfl⟩ (zok_c hi (by omega)) (zix_c hi (by omega)) (pcC' hi _ _) rfl rfl rfl (Nat.le_of_ble_eq_true rfl) dX1_selectsBypass_8 ⟨Nat.le_of_ble_eq_true rfl, Nat.le_of_ble_eq_true rfl⟩ ?_
    refine x_if_ne (tgt := 18) cx dX1_selectsBypass_11 (by decide) (fun hb11 => ?_) (fun hb11 => ?_)
    · refine x_iconst (v := 0) cx dX1_selectsBypass_18 (by decide) ?_
      exact x_zret cx hr (by simp only [zselC_0, zselI_0, Decidable.not_not] at hb4 hb11; simp [zselB, hb4, hb11]) (by first | exact Or.inl rfl | exact Or.inr rfl) (fun _ _ _ _ => rfl) dX1_selectsBypass_19
    · refine x_iconst (v := 1) cx dX1_selectsBypass_14 (by decide) ?_
      refine x_goto (tgt := 19) cx dX1_selectsBypass_15 (by decide) ?_
      exact x_zret cx hr (by simp only [zselC_0, zselI_0, Decidable.not_not] at hb4 hb11; simp [zselB, hb4, hb11]) (by first | exact Or.inl rfl | exact Or.inr rfl) (fun _ _ _ _ => rfl) dX1_selectsBypass_19

set_option maxHeartbeats 4000000 in
set_option maxRecDepth 100000 in
theorem c_X1_dataBits (l : Launch) (G : zG) (S : zS) (i t : Nat) (hi : i < 7) (ht : t < 6) (X : zCV) (c : Nat → Int32) : Met l yX1_dataBits (zws yX1_dataBits cX1_dataBits 1 (some .int)) (zrm 1 0 0 20) (zPc G 75 (pic G (up S i (uj X (t + 3) c))) [.ref (zad G i (t + 3))]) (zQi G 75 (zBits c) (pic G (up S i (uj X (t + 3) (c))))) 0 0 (zA G) := by
  refine zMet npX1_dataBits rfl (Nat.le_of_ble_eq_true rfl) ?_
  intro p e s m args below meth cd hargs cx hr hin0
  have cx : Cx p s m args meth cd cX1_dataBits 1 RX1 G := cx
  refine x_ls (ls' := [some (.ref (zad G i (t + 3)))]) rfl (fun _ h => h) ?_
  refine x_aload_n cx dX1_dataBits_0 rfl rfl ?_
  refine x_Vi (C := RX1) (T := TX1) (N := 9) (rest := []) cx (c_X1_selectsCells l G _ i t hi (by omega) _ _) gV_X1_47 ndX1_selectsCells rfl ⟨Nat.le_of_ble_eq_true rfl, Nat.le_of_ble_eq_true rfl⟩ (zok_c hi (by omega)) (zix_c hi (by omega)) (pcC' hi _ _) rfl rfl rfl (Nat.le_of_ble_eq_true rfl) dX1_dataBits_1 ⟨Nat.le_of_ble_eq_true rfl, Nat.le_of_ble_eq_true rfl⟩ ?_
  refine x_if_eq (tgt := 12) cx dX1_dataBits_4 (by decide) (fun hb4 => ?_) (fun hb4 => ?_)
  · refine x_aload_n cx dX1_dataBits_12 rfl rfl ?_
    refine x_Vi (C := RX1) (T := TX1) (N := 9) (rest := []) cx (c_X1_selectsIdentity l G _ i t hi (by omega) _ _) gV_X1_51 ndX1_selectsIdentity rfl ⟨Nat.le_of_ble_eq_true rfl, Nat.le_of_ble_eq_true rfl⟩ (zok_c hi (by omega)) (zix_c hi (by omega)) (pcC' hi _ _) rfl rfl rfl (Nat.le_of_ble_eq_true rfl) dX1_dataBits_13 ⟨Nat.le_of_ble_eq_true rfl, Nat.le_of_ble_eq_true rfl⟩ ?_
    refine x_if_eq (tgt := 24) cx dX1_dataBits_16 (by decide) (fun hb16 => ?_) (fun hb16 => ?_)
    · refine x_iconst (v := 1) cx dX1_dataBits_24 (by decide) ?_
      exact x_iret cx hr (by simp only [zselC_0, zselI_0, Decidable.not_not] at hb4 hb16; simp [zBits, hb4, hb16]) (fun _ _ _ _ => rfl) dX1_dataBits_25
    · refine x_bipush (v := 8) cx dX1_dataBits_19 (by decide) ?_
      refine x_goto (tgt := 25) cx dX1_dataBits_21 (by decide) ?_
      exact x_iret cx hr (by simp only [zselC_0, zselI_0, Decidable.not_not] at hb4 hb16; simp [zBits, hb4, hb16]) (fun _ _ _ _ => rfl) dX1_dataBits_25
  · refine x_aload_n cx dX1_dataBits_7 rfl rfl ?_
    refine x_getX1 cx 2 (by decide) (fl_X1_18 cx) (zok_c hi (by omega)) (zix_c hi (by omega)) (pcC' hi _ _) rfl dX1_dataBits_8 ?_
    exact x_iret cx hr (by simp only [zselC_0, zselI_0, Decidable.not_not] at hb4; simp [zBits, hb4]) (fun _ _ _ _ => rfl) dX1_dataBits_11

set_option maxHeartbeats 4000000 in
set_option maxRecDepth 100000 in
theorem c_X1_giveInstruction (l : Launch) (G : zG) (S : zS) (i t : Nat) (hi : i < 7) (ht : t < 6) (X : zCV) (c : Nat → Int32) (v : Int32) : Met l yX1_giveInstruction (zws yX1_giveInstruction cX1_giveInstruction 2 none) (zrm 0 0 0 0) (zPc G 75 (pic G (up S i (uj X (t + 3) c))) [.ref (zad G i (t + 3)), .int v]) (zQv G 75 (pic G (up S i (uj X (t + 3) (zGive c v))))) 0 0 (zA G) := by
  refine zMet npX1_giveInstruction rfl (Nat.le_of_ble_eq_true rfl) ?_
  intro p e s m args below meth cd hargs cx hr hin0
  have cx : Cx p s m args meth cd cX1_giveInstruction 2 RX1 G := cx
  refine x_ls (ls' := [some (.ref (zad G i (t + 3))), some (.int v)]) rfl (fun _ h => h) ?_
  refine x_aload_n cx dX1_giveInstruction_0 rfl rfl ?_
  refine x_iload_n cx dX1_giveInstruction_1 rfl rfl ?_
  refine x_putX1 cx 6 (by decide) (fl_X1_37 cx) (zok_c hi (by omega)) (zix_c hi (by omega)) (pcC' hi _ _) rfl rfl rfl (Nat.le_of_ble_eq_true rfl) (ppC' hi (by decide)) dX1_giveInstruction_2 ?_
  refine x_aload_n cx dX1_giveInstruction_5 rfl rfl ?_
  refine x_iconst (v := 0) cx dX1_giveInstruction_6 (by decide) ?_
  refine x_putX1 cx 8 (by decide) (fl_X1_40 cx) (zok_c hi (by omega)) (zix_c hi (by omega)) (pcC' hi _ _) rfl rfl rfl (Nat.le_of_ble_eq_true rfl) (ppC' hi (by decide)) dX1_giveInstruction_7 ?_
  exact x_vret cx hr (fun _ _ _ _ => rfl) dX1_giveInstruction_10

set_option maxHeartbeats 4000000 in
set_option maxRecDepth 100000 in
theorem c_X1_giveFirstInstruction (l : Launch) (G : zG) (S : zS) (i t : Nat) (hi : i < 7) (ht : t < 6) (X : zCV) (c : Nat → Int32) : Met l yX1_giveFirstInstruction (zws yX1_giveFirstInstruction cX1_giveFirstInstruction 1 none) (zrm 1 0 0 21) (zPc G 75 (pic G (up S i (uj X (t + 3) c))) [.ref (zad G i (t + 3))]) (zQv G 75 (pic G (up S i (uj X (t + 3) (zFirst c))))) 0 0 (zA G) := by
  refine zMet npX1_giveFirstInstruction rfl (Nat.le_of_ble_eq_true rfl) ?_
  intro p e s m args below meth cd hargs cx hr hin0
  have cx : Cx p s m args meth cd cX1_giveFirstInstruction 1 RX1 G := cx
  refine x_ls (ls' := [some (.ref (zad G i (t + 3)))]) rfl (fun _ h => h) ?_
  refine x_aload_n cx dX1_giveFirstInstruction_0 rfl rfl ?_
  refine x_aload_n cx dX1_giveFirstInstruction_1 rfl rfl ?_
  refine x_getX1 cx 1 (by decide) (fl_X1_15 cx) (zok_c hi (by omega)) (zix_c hi (by omega)) (pcC' hi _ _) rfl dX1_giveFirstInstruction_2 ?_
  refine x_if_eq (tgt := 12) cx dX1_giveFirstInstruction_5 (by decide) (fun hb5 => ?_) (fun hb5 => ?_)
  · refine x_aload_n cx dX1_giveFirstInstruction_12 rfl rfl ?_
    refine x_getX1 cx 0 (by decide) (fl_X1_9 cx) (zok_c hi (by omega)) (zix_c hi (by omega)) (pcC' hi _ _) rfl dX1_giveFirstInstruction_13 ?_
    refine x_SNi (rest := [_]) cx (c_X6_allOnes l G _ _ _) (zG0 zt218) (ml_X1_43 cx) zt32 zt217 ndX6_allOnes ⟨Nat.le_of_ble_eq_true rfl, Nat.le_of_ble_eq_true rfl⟩ rfl rfl (Nat.le_of_ble_eq_true rfl) dX1_giveFirstInstruction_16 ⟨Nat.le_of_ble_eq_true rfl, Nat.le_of_ble_eq_true rfl⟩ ?_
    refine x_Vv (C := RX1) (T := TX1) (N := 9) (rest := []) cx (c_X1_giveInstruction l G _ i t hi (by omega) _ _ _) gV_X1_54 ndX1_giveInstruction rfl ⟨Nat.le_of_ble_eq_true rfl, Nat.le_of_ble_eq_true rfl⟩ (zok_c hi (by omega)) (zix_c hi (by omega)) (pcC' hi _ _) rfl rfl rfl (Nat.le_of_ble_eq_true rfl) dX1_giveFirstInstruction_19 ⟨Nat.le_of_ble_eq_true rfl, Nat.le_of_ble_eq_true rfl⟩ ?_
    exact x_vret cx hr (by intro _ _ _ _; simp [zFirst, zFI, hb5]) dX1_giveFirstInstruction_22
  · refine x_iconst (v := 1) cx dX1_giveFirstInstruction_8 (by decide) ?_
    refine x_goto (tgt := 19) cx dX1_giveFirstInstruction_9 (by decide) ?_
    refine x_Vv (C := RX1) (T := TX1) (N := 9) (rest := []) cx (c_X1_giveInstruction l G _ i t hi (by omega) _ _ _) gV_X1_54 ndX1_giveInstruction rfl ⟨Nat.le_of_ble_eq_true rfl, Nat.le_of_ble_eq_true rfl⟩ (zok_c hi (by omega)) (zix_c hi (by omega)) (pcC' hi _ _) rfl rfl rfl (Nat.le_of_ble_eq_true rfl) dX1_giveFirstInstruction_19 ⟨Nat.le_of_ble_eq_true rfl, Nat.le_of_ble_eq_true rfl⟩ ?_
    exact x_vret cx hr (by intro _ _ _ _; simp [zFirst, zFI, hb5]) dX1_giveFirstInstruction_22

set_option maxHeartbeats 4000000 in
set_option maxRecDepth 100000 in
theorem c_X1_beNew (l : Launch) (G : zG) (S : zS) (i t : Nat) (hi : i < 7) (ht : t < 6) (X : zCV) (c : Nat → Int32) (cl : Int32) (id : Int32) (ce : Int32) : Met l yX1_beNew (zws yX1_beNew cX1_beNew 4 none) (zrm 2 0 0 41) (zPc G 75 (pic G (up S i (uj X (t + 3) c))) [.ref (zad G i (t + 3)), .int cl, .int id, .int ce]) (zQv G 75 (pic G (up S i (uj X (t + 3) (zNew cl id ce))))) 0 0 (zA G) := by
  refine zMet npX1_beNew rfl (Nat.le_of_ble_eq_true rfl) ?_
  intro p e s m args below meth cd hargs cx hr hin0
  have cx : Cx p s m args meth cd cX1_beNew 4 RX1 G := cx
  refine x_ls (ls' := [some (.ref (zad G i (t + 3))), some (.int cl), some (.int id), some (.int ce)]) rfl (fun _ h => h) ?_
  refine x_aload_n cx dX1_beNew_0 rfl rfl ?_
  refine x_iload_n cx dX1_beNew_1 rfl rfl ?_
  refine x_putX1 cx 0 (by decide) (fl_X1_9 cx) (zok_c hi (by omega)) (zix_c hi (by omega)) (pcC' hi _ _) rfl rfl rfl (Nat.le_of_ble_eq_true rfl) (ppC' hi (by decide)) dX1_beNew_2 ?_
  refine x_aload_n cx dX1_beNew_5 rfl rfl ?_
  refine x_iload_n cx dX1_beNew_6 rfl rfl ?_
  refine x_putX1 cx 1 (by decide) (fl_X1_15 cx) (zok_c hi (by omega)) (zix_c hi (by omega)) (pcC' hi _ _) rfl rfl rfl (Nat.le_of_ble_eq_true rfl) (ppC' hi (by decide)) dX1_beNew_7 ?_
  refine x_aload_n cx dX1_beNew_10 rfl rfl ?_
  refine x_iload_n cx dX1_beNew_11 rfl rfl ?_
  refine x_putX1 cx 2 (by decide) (fl_X1_18 cx) (zok_c hi (by omega)) (zix_c hi (by omega)) (pcC' hi _ _) rfl rfl rfl (Nat.le_of_ble_eq_true rfl) (ppC' hi (by decide)) dX1_beNew_12 ?_
  refine x_aload_n cx dX1_beNew_15 rfl rfl ?_
  refine x_iconst (v := 0) cx dX1_beNew_16 (by decide) ?_
  refine x_putX1 cx 3 (by decide) (fl_X1_21 cx) (zok_c hi (by omega)) (zix_c hi (by omega)) (pcC' hi _ _) rfl rfl rfl (Nat.le_of_ble_eq_true rfl) (ppC' hi (by decide)) dX1_beNew_17 ?_
  refine x_aload_n cx dX1_beNew_20 rfl rfl ?_
  refine x_iconst (v := 0) cx dX1_beNew_21 (by decide) ?_
  refine x_putX1 cx 4 (by decide) (fl_X1_24 cx) (zok_c hi (by omega)) (zix_c hi (by omega)) (pcC' hi _ _) rfl rfl rfl (Nat.le_of_ble_eq_true rfl) (ppC' hi (by decide)) dX1_beNew_22 ?_
  refine x_aload_n cx dX1_beNew_25 rfl rfl ?_
  refine x_iconst (v := 0) cx dX1_beNew_26 (by decide) ?_
  refine x_putX1 cx 5 (by decide) (fl_X1_27 cx) (zok_c hi (by omega)) (zix_c hi (by omega)) (pcC' hi _ _) rfl rfl rfl (Nat.le_of_ble_eq_true rfl) (ppC' hi (by decide)) dX1_beNew_27 ?_
  refine x_aload_n cx dX1_beNew_30 rfl rfl ?_
  refine x_iconst (v := 0) cx dX1_beNew_31 (by decide) ?_
  refine x_putX1 cx 7 (by decide) (fl_X1_31 cx) (zok_c hi (by omega)) (zix_c hi (by omega)) (pcC' hi _ _) rfl rfl rfl (Nat.le_of_ble_eq_true rfl) (ppC' hi (by decide)) dX1_beNew_32 ?_
  refine x_aload_n cx dX1_beNew_35 rfl rfl ?_
  refine x_Vv (C := RX1) (T := TX1) (N := 9) (rest := []) cx (c_X1_giveFirstInstruction l G _ i t hi (by omega) _ _) gV_X1_34 ndX1_giveFirstInstruction rfl ⟨Nat.le_of_ble_eq_true rfl, Nat.le_of_ble_eq_true rfl⟩ (zok_c hi (by omega)) (zix_c hi (by omega)) (pcC' hi _ _) rfl rfl rfl (Nat.le_of_ble_eq_true rfl) dX1_beNew_36 ⟨Nat.le_of_ble_eq_true rfl, Nat.le_of_ble_eq_true rfl⟩ ?_
  exact x_vret cx hr (eqS_pic_up (Or.inl hi) (eqX_uj (k9 rfl rfl rfl rfl rfl rfl (by simp [zNew, zFirst, zFI, zGive, upd]) rfl rfl))) dX1_beNew_39

set_option maxHeartbeats 4000000 in
set_option maxRecDepth 100000 in
theorem c_X1_changePins (l : Launch) (G : zG) (S : zS) (i t : Nat) (hi : i < 7) (ht : t < 6) (X : zCV) (c : Nat → Int32) (v : Int32) : Met l yX1_changePins (zws yX1_changePins cX1_changePins 3 (some .int)) (zrm 1 0 0 20) (zPc G 75 (pic G (up S i (uj X (t + 3) c))) [.ref (zad G i (t + 3)), .int v]) (zQi G 75 (c 3) (pic G (up S i (uj X (t + 3) (zPins c v))))) 0 0 (zA G) := by
  refine zMet npX1_changePins rfl (Nat.le_of_ble_eq_true rfl) ?_
  intro p e s m args below meth cd hargs cx hr hin0
  have cx : Cx p s m args meth cd cX1_changePins 3 RX1 G := cx
  refine x_ls (ls' := [some (.ref (zad G i (t + 3))), some (.int v), none]) rfl (fun _ h => h) ?_
  refine x_aload_n cx dX1_changePins_0 rfl rfl ?_
  refine x_getX1 cx 3 (by decide) (fl_X1_21 cx) (zok_c hi (by omega)) (zix_c hi (by omega)) (pcC' hi _ _) rfl dX1_changePins_1 ?_
  refine x_istore_n (ls' := [_, _, _]) cx dX1_changePins_4 rfl (by decide) rfl ?_
  refine x_aload_n cx dX1_changePins_5 rfl rfl ?_
  refine x_iload_n cx dX1_changePins_6 rfl rfl ?_
  refine x_aload_n cx dX1_changePins_7 rfl rfl ?_
  refine x_getX1 cx 2 (by decide) (fl_X1_18 cx) (zok_c hi (by omega)) (zix_c hi (by omega)) (pcC' hi _ _) rfl dX1_changePins_8 ?_
  refine x_SNi (rest := [_, _]) cx (c_X6_allOnes l G _ _ _) (zG0 zt218) (ml_X1_43 cx) zt32 zt217 ndX6_allOnes ⟨Nat.le_of_ble_eq_true rfl, Nat.le_of_ble_eq_true rfl⟩ rfl rfl (Nat.le_of_ble_eq_true rfl) dX1_changePins_11 ⟨Nat.le_of_ble_eq_true rfl, Nat.le_of_ble_eq_true rfl⟩ ?_
  refine x_iand cx dX1_changePins_14 ?_
  refine x_putX1 cx 3 (by decide) (fl_X1_21 cx) (zok_c hi (by omega)) (zix_c hi (by omega)) (pcC' hi _ _) rfl rfl rfl (Nat.le_of_ble_eq_true rfl) (ppC' hi (by decide)) dX1_changePins_15 ?_
  refine x_iload_n cx dX1_changePins_18 rfl rfl ?_
  exact x_iret cx hr rfl (fun _ _ _ _ => rfl) dX1_changePins_19

set_option maxHeartbeats 4000000 in
set_option maxRecDepth 100000 in
theorem c_X1_captureData (l : Launch) (G : zG) (S : zS) (i t : Nat) (hi : i < 7) (ht : t < 6) (X : zCV) (c : Nat → Int32) : Met l yX1_captureData (zws yX1_captureData cX1_captureData 1 none) (zrm 1 0 0 20) (zPc G 75 (pic G (up S i (uj X (t + 3) c))) [.ref (zad G i (t + 3))]) (zQv G 75 (pic G (up S i (uj X (t + 3) (zCap c))))) 0 0 (zA G) := by
  refine zMet npX1_captureData rfl (Nat.le_of_ble_eq_true rfl) ?_
  intro p e s m args below meth cd hargs cx hr hin0
  have cx : Cx p s m args meth cd cX1_captureData 1 RX1 G := cx
  refine x_ls (ls' := [some (.ref (zad G i (t + 3)))]) rfl (fun _ h => h) ?_
  refine x_aload_n cx dX1_captureData_0 rfl rfl ?_
  refine x_Vi (C := RX1) (T := TX1) (N := 9) (rest := []) cx (c_X1_selectsCells l G _ i t hi (by omega) _ _) gV_X1_47 ndX1_selectsCells rfl ⟨Nat.le_of_ble_eq_true rfl, Nat.le_of_ble_eq_true rfl⟩ (zok_c hi (by omega)) (zix_c hi (by omega)) (pcC' hi _ _) rfl rfl rfl (Nat.le_of_ble_eq_true rfl) dX1_captureData_1 ⟨Nat.le_of_ble_eq_true rfl, Nat.le_of_ble_eq_true rfl⟩ ?_
  refine x_if_eq (tgt := 18) cx dX1_captureData_4 (by decide) (fun hb4 => ?_) (fun hb4 => ?_)
  · refine x_aload_n cx dX1_captureData_18 rfl rfl ?_
    refine x_aload_n cx dX1_captureData_19 rfl rfl ?_
    refine x_Vi (C := RX1) (T := TX1) (N := 9) (rest := [_]) cx (c_X1_selectsIdentity l G _ i t hi (by omega) _ _) gV_X1_51 ndX1_selectsIdentity rfl ⟨Nat.le_of_ble_eq_true rfl, Nat.le_of_ble_eq_true rfl⟩ (zok_c hi (by omega)) (zix_c hi (by omega)) (pcC' hi _ _) rfl rfl rfl (Nat.le_of_ble_eq_true rfl) dX1_captureData_20 ⟨Nat.le_of_ble_eq_true rfl, Nat.le_of_ble_eq_true rfl⟩ ?_
    refine x_if_eq (tgt := 33) cx dX1_captureData_23 (by decide) (fun hb23 => ?_) (fun hb23 => ?_)
    · refine x_iconst (v := 0) cx dX1_captureData_33 (by decide) ?_
      refine x_putX1 cx 8 (by decide) (fl_X1_40 cx) (zok_c hi (by omega)) (zix_c hi (by omega)) (pcC' hi _ _) rfl rfl rfl (Nat.le_of_ble_eq_true rfl) (ppC' hi (by decide)) dX1_captureData_34 ?_
      exact x_vret cx hr (by simp only [zselC_0, zselI_0, Decidable.not_not] at hb4 hb23; unfold zCap zCapV; (repeat' split) <;> first | exact fun _ _ _ _ => rfl | contradiction) dX1_captureData_37
    · refine x_aload_n cx dX1_captureData_26 rfl rfl ?_
      refine x_getX1 cx 1 (by decide) (fl_X1_15 cx) (zok_c hi (by omega)) (zix_c hi (by omega)) (pcC' hi _ _) rfl dX1_captureData_27 ?_
      refine x_goto (tgt := 34) cx dX1_captureData_30 (by decide) ?_
      refine x_putX1 cx 8 (by decide) (fl_X1_40 cx) (zok_c hi (by omega)) (zix_c hi (by omega)) (pcC' hi _ _) rfl rfl rfl (Nat.le_of_ble_eq_true rfl) (ppC' hi (by decide)) dX1_captureData_34 ?_
      exact x_vret cx hr (by simp only [zselC_0, zselI_0, Decidable.not_not] at hb4 hb23; unfold zCap zCapV; (repeat' split) <;> first | exact fun _ _ _ _ => rfl | contradiction) dX1_captureData_37
  · refine x_aload_n cx dX1_captureData_7 rfl rfl ?_
    refine x_aload_n cx dX1_captureData_8 rfl rfl ?_
    refine x_getX1 cx 3 (by decide) (fl_X1_21 cx) (zok_c hi (by omega)) (zix_c hi (by omega)) (pcC' hi _ _) rfl dX1_captureData_9 ?_
    refine x_putX1 cx 8 (by decide) (fl_X1_40 cx) (zok_c hi (by omega)) (zix_c hi (by omega)) (pcC' hi _ _) rfl rfl rfl (Nat.le_of_ble_eq_true rfl) (ppC' hi (by decide)) dX1_captureData_12 ?_
    refine x_goto (tgt := 37) cx dX1_captureData_15 (by decide) ?_
    exact x_vret cx hr (by simp only [zselC_0, zselI_0, Decidable.not_not] at hb4; unfold zCap zCapV; (repeat' split) <;> first | exact fun _ _ _ _ => rfl | contradiction) dX1_captureData_37

set_option maxHeartbeats 4000000 in
set_option maxRecDepth 100000 in
theorem c_X1_updateData (l : Launch) (G : zG) (S : zS) (i t : Nat) (hi : i < 7) (ht : t < 6) (X : zCV) (c : Nat → Int32) : Met l yX1_updateData (zws yX1_updateData cX1_updateData 1 none) (zrm 0 0 0 0) (zPc G 75 (pic G (up S i (uj X (t + 3) c))) [.ref (zad G i (t + 3))]) (zQv G 75 (pic G (up S i (uj X (t + 3) (zUpd c))))) 0 0 (zA G) := by
  refine zMet npX1_updateData rfl (Nat.le_of_ble_eq_true rfl) ?_
  intro p e s m args below meth cd hargs cx hr hin0
  have cx : Cx p s m args meth cd cX1_updateData 1 RX1 G := cx
  refine x_ls (ls' := [some (.ref (zad G i (t + 3)))]) rfl (fun _ h => h) ?_
  refine x_aload_n cx dX1_updateData_0 rfl rfl ?_
  refine x_getX1 cx 6 (by decide) (fl_X1_37 cx) (zok_c hi (by omega)) (zix_c hi (by omega)) (pcC' hi _ _) rfl dX1_updateData_1 ?_
  refine x_if_ne (tgt := 15) cx dX1_updateData_4 (by decide) (fun hb4 => ?_) (fun hb4 => ?_)
  · exact x_vret cx hr (by intro _ _ _ _; simp [zUpd, hb4]) dX1_updateData_15
  · refine x_aload_n cx dX1_updateData_7 rfl rfl ?_
    refine x_aload_n cx dX1_updateData_8 rfl rfl ?_
    refine x_getX1 cx 8 (by decide) (fl_X1_40 cx) (zok_c hi (by omega)) (zix_c hi (by omega)) (pcC' hi _ _) rfl dX1_updateData_9 ?_
    refine x_putX1 cx 4 (by decide) (fl_X1_24 cx) (zok_c hi (by omega)) (zix_c hi (by omega)) (pcC' hi _ _) rfl rfl rfl (Nat.le_of_ble_eq_true rfl) (ppC' hi (by decide)) dX1_updateData_12 ?_
    exact x_vret cx hr (by intro _ _ _ _; simp [zUpd, hb4]) dX1_updateData_15

set_option maxHeartbeats 4000000 in
set_option maxRecDepth 100000 in
theorem c_X1_dataOutput (l : Launch) (G : zG) (S : zS) (i t : Nat) (hi : i < 7) (ht : t < 6) (X : zCV) (c : Nat → Int32) : Met l yX1_dataOutput (zws yX1_dataOutput cX1_dataOutput 1 (some .int)) (zrm 0 0 0 0) (zPc G 75 (pic G (up S i (uj X (t + 3) c))) [.ref (zad G i (t + 3))]) (zQi G 75 (zDO c) (pic G (up S i (uj X (t + 3) (c))))) 0 0 (zA G) := by
  refine zMet npX1_dataOutput rfl (Nat.le_of_ble_eq_true rfl) ?_
  intro p e s m args below meth cd hargs cx hr hin0
  have cx : Cx p s m args meth cd cX1_dataOutput 1 RX1 G := cx
  refine x_ls (ls' := [some (.ref (zad G i (t + 3)))]) rfl (fun _ h => h) ?_
  refine x_aload_n cx dX1_dataOutput_0 rfl rfl ?_
  refine x_getX1 cx 5 (by decide) (fl_X1_27 cx) (zok_c hi (by omega)) (zix_c hi (by omega)) (pcC' hi _ _) rfl dX1_dataOutput_1 ?_
  refine x_if_eq (tgt := 11) cx dX1_dataOutput_4 (by decide) (fun hb4 => ?_) (fun hb4 => ?_)
  · refine x_aload_n cx dX1_dataOutput_11 rfl rfl ?_
    refine x_getX1 cx 8 (by decide) (fl_X1_40 cx) (zok_c hi (by omega)) (zix_c hi (by omega)) (pcC' hi _ _) rfl dX1_dataOutput_12 ?_
    refine x_iconst (v := 1) cx dX1_dataOutput_15 (by decide) ?_
    refine x_iand cx dX1_dataOutput_16 ?_
    exact x_iret cx hr (by simp [zDO, hb4]) (fun _ _ _ _ => rfl) dX1_dataOutput_17
  · refine x_iconst (v := 1) cx dX1_dataOutput_7 (by decide) ?_
    refine x_goto (tgt := 17) cx dX1_dataOutput_8 (by decide) ?_
    exact x_iret cx hr (by simp [zDO, hb4]) (fun _ _ _ _ => rfl) dX1_dataOutput_17

set_option maxHeartbeats 4000000 in
set_option maxRecDepth 100000 in
theorem c_X1_codeOutput (l : Launch) (G : zG) (S : zS) (i t : Nat) (hi : i < 7) (ht : t < 6) (X : zCV) (c : Nat → Int32) : Met l yX1_codeOutput (zws yX1_codeOutput cX1_codeOutput 1 (some .int)) (zrm 0 0 0 0) (zPc G 75 (pic G (up S i (uj X (t + 3) c))) [.ref (zad G i (t + 3))]) (zQi G 75 (zCO c) (pic G (up S i (uj X (t + 3) (c))))) 0 0 (zA G) := by
  refine zMet npX1_codeOutput rfl (Nat.le_of_ble_eq_true rfl) ?_
  intro p e s m args below meth cd hargs cx hr hin0
  have cx : Cx p s m args meth cd cX1_codeOutput 1 RX1 G := cx
  refine x_ls (ls' := [some (.ref (zad G i (t + 3)))]) rfl (fun _ h => h) ?_
  refine x_aload_n cx dX1_codeOutput_0 rfl rfl ?_
  refine x_getX1 cx 5 (by decide) (fl_X1_27 cx) (zok_c hi (by omega)) (zix_c hi (by omega)) (pcC' hi _ _) rfl dX1_codeOutput_1 ?_
  refine x_if_eq (tgt := 11) cx dX1_codeOutput_4 (by decide) (fun hb4 => ?_) (fun hb4 => ?_)
  · refine x_aload_n cx dX1_codeOutput_11 rfl rfl ?_
    refine x_getX1 cx 7 (by decide) (fl_X1_31 cx) (zok_c hi (by omega)) (zix_c hi (by omega)) (pcC' hi _ _) rfl dX1_codeOutput_12 ?_
    refine x_iconst (v := 1) cx dX1_codeOutput_15 (by decide) ?_
    refine x_iand cx dX1_codeOutput_16 ?_
    exact x_iret cx hr (by simp [zCO, hb4]) (fun _ _ _ _ => rfl) dX1_codeOutput_17
  · refine x_iconst (v := 1) cx dX1_codeOutput_7 (by decide) ?_
    refine x_goto (tgt := 17) cx dX1_codeOutput_8 (by decide) ?_
    exact x_iret cx hr (by simp [zCO, hb4]) (fun _ _ _ _ => rfl) dX1_codeOutput_17

set_option maxHeartbeats 4000000 in
set_option maxRecDepth 100000 in
theorem c_X1_shiftData (l : Launch) (G : zG) (S : zS) (i t : Nat) (hi : i < 7) (ht : t < 6) (X : zCV) (c : Nat → Int32) (x : Int32) : Met l yX1_shiftData (zws yX1_shiftData cX1_shiftData 2 none) (zrm 2 0 0 40) (zPc G 75 (pic G (up S i (uj X (t + 3) c))) [.ref (zad G i (t + 3)), .int x]) (zQv G 75 (pic G (up S i (uj X (t + 3) (zShD c x))))) 0 0 (zA G) := by
  refine zMet npX1_shiftData rfl (Nat.le_of_ble_eq_true rfl) ?_
  intro p e s m args below meth cd hargs cx hr hin0
  have cx : Cx p s m args meth cd cX1_shiftData 2 RX1 G := cx
  refine x_ls (ls' := [some (.ref (zad G i (t + 3))), some (.int x)]) rfl (fun _ h => h) ?_
  refine x_aload_n cx dX1_shiftData_0 rfl rfl ?_
  refine x_aload_n cx dX1_shiftData_1 rfl rfl ?_
  refine x_getX1 cx 8 (by decide) (fl_X1_40 cx) (zok_c hi (by omega)) (zix_c hi (by omega)) (pcC' hi _ _) rfl dX1_shiftData_2 ?_
  refine x_aload_n cx dX1_shiftData_5 rfl rfl ?_
  refine x_Vi (C := RX1) (T := TX1) (N := 9) (rest := [_, _]) cx (c_X1_dataBits l G _ i t hi (by omega) _ _) gV_X1_58 ndX1_dataBits rfl ⟨Nat.le_of_ble_eq_true rfl, Nat.le_of_ble_eq_true rfl⟩ (zok_c hi (by omega)) (zix_c hi (by omega)) (pcC' hi _ _) rfl rfl rfl (Nat.le_of_ble_eq_true rfl) dX1_shiftData_6 ⟨Nat.le_of_ble_eq_true rfl, Nat.le_of_ble_eq_true rfl⟩ ?_
  refine x_iload_n cx dX1_shiftData_9 rfl rfl ?_
  refine x_Si (rest := [_]) cx (c_X1_shifted l G _ _ _ _ _) gS_X1_62 ndX1_shifted ⟨Nat.le_of_ble_eq_true rfl, Nat.le_of_ble_eq_true rfl⟩ rfl rfl (Nat.le_of_ble_eq_true rfl) dX1_shiftData_10 ⟨Nat.le_of_ble_eq_true rfl, Nat.le_of_ble_eq_true rfl⟩ ?_
  refine x_putX1 cx 8 (by decide) (fl_X1_40 cx) (zok_c hi (by omega)) (zix_c hi (by omega)) (pcC' hi _ _) rfl rfl rfl (Nat.le_of_ble_eq_true rfl) (ppC' hi (by decide)) dX1_shiftData_13 ?_
  exact x_vret cx hr (fun _ _ _ _ => rfl) dX1_shiftData_16

set_option maxHeartbeats 4000000 in
set_option maxRecDepth 100000 in
theorem c_X1_shiftCode (l : Launch) (G : zG) (S : zS) (i t : Nat) (hi : i < 7) (ht : t < 6) (X : zCV) (c : Nat → Int32) (x : Int32) : Met l yX1_shiftCode (zws yX1_shiftCode cX1_shiftCode 2 none) (zrm 1 0 0 22) (zPc G 75 (pic G (up S i (uj X (t + 3) c))) [.ref (zad G i (t + 3)), .int x]) (zQv G 75 (pic G (up S i (uj X (t + 3) (zShC c x))))) 0 0 (zA G) := by
  refine zMet npX1_shiftCode rfl (Nat.le_of_ble_eq_true rfl) ?_
  intro p e s m args below meth cd hargs cx hr hin0
  have cx : Cx p s m args meth cd cX1_shiftCode 2 RX1 G := cx
  refine x_ls (ls' := [some (.ref (zad G i (t + 3))), some (.int x)]) rfl (fun _ h => h) ?_
  refine x_aload_n cx dX1_shiftCode_0 rfl rfl ?_
  refine x_aload_n cx dX1_shiftCode_1 rfl rfl ?_
  refine x_getX1 cx 7 (by decide) (fl_X1_31 cx) (zok_c hi (by omega)) (zix_c hi (by omega)) (pcC' hi _ _) rfl dX1_shiftCode_2 ?_
  refine x_aload_n cx dX1_shiftCode_5 rfl rfl ?_
  refine x_getX1 cx 0 (by decide) (fl_X1_9 cx) (zok_c hi (by omega)) (zix_c hi (by omega)) (pcC' hi _ _) rfl dX1_shiftCode_6 ?_
  refine x_iload_n cx dX1_shiftCode_9 rfl rfl ?_
  refine x_Si (rest := [_]) cx (c_X1_shifted l G _ _ _ _ _) gS_X1_62 ndX1_shifted ⟨Nat.le_of_ble_eq_true rfl, Nat.le_of_ble_eq_true rfl⟩ rfl rfl (Nat.le_of_ble_eq_true rfl) dX1_shiftCode_10 ⟨Nat.le_of_ble_eq_true rfl, Nat.le_of_ble_eq_true rfl⟩ ?_
  refine x_putX1 cx 7 (by decide) (fl_X1_31 cx) (zok_c hi (by omega)) (zix_c hi (by omega)) (pcC' hi _ _) rfl rfl rfl (Nat.le_of_ble_eq_true rfl) (ppC' hi (by decide)) dX1_shiftCode_13 ?_
  exact x_vret cx hr (fun _ _ _ _ => rfl) dX1_shiftCode_16

theorem zTell_out {c : Nat → Int32} {x : Int32} (h : x.toInt < 0 ∨ (9 : Int) < x.toInt) : zTell c x = -2 := by
  have key : ∀ k : Nat, k ≤ 9 → ¬ x = nI k := by
    intro k hk he
    rw [he, nI_toInt (by omega)] at h
    omega
  unfold zTell
  rw [if_neg (show ¬ x = 0 from key 0 (by decide)), if_neg (show ¬ x = 1 from key 1 (by decide)), if_neg (show ¬ x = 2 from key 2 (by decide)), if_neg (show ¬ x = 3 from key 3 (by decide)), if_neg (show ¬ x = 4 from key 4 (by decide)), if_neg (show ¬ x = 5 from key 5 (by decide)), if_neg (show ¬ x = 6 from key 6 (by decide)), if_neg (show ¬ x = 7 from key 7 (by decide)), if_neg (show ¬ x = 8 from key 8 (by decide)), if_neg (show ¬ x = 9 from key 9 (by decide))]
theorem zTell_in {c : Nat → Int32} : zTell c (nI 0) = c 0 ∧ zTell c (nI 1) = c 1 ∧ zTell c (nI 2) = c 2 ∧ zTell c (nI 3) = c 3 ∧ zTell c (nI 4) = c 4 ∧ zTell c (nI 5) = (if c 5 = 0 then 0 else 1) ∧ zTell c (nI 6) = c 6 ∧ zTell c (nI 7) = c 7 ∧ zTell c (nI 8) = c 8 ∧ zTell c (nI 9) = zBits c := ⟨rfl, rfl, rfl, rfl, rfl, rfl, rfl, rfl, rfl, rfl⟩

set_option maxHeartbeats 4000000 in
set_option maxRecDepth 100000 in
theorem c_X1_tell (l : Launch) (G : zG) (S : zS) (i t : Nat) (hi : i < 7) (ht : t < 6) (X : zCV) (c : Nat → Int32) (x : Int32) : Met l yX1_tell (zws yX1_tell cX1_tell 2 (some .int)) (zrm 2 0 0 40) (zPc G 75 (pic G (up S i (uj X (t + 3) c))) [.ref (zad G i (t + 3)), .int x]) (zQi G 75 (zTell c x) (pic G (up S i (uj X (t + 3) (c))))) 0 0 (zA G) := by
  refine zMet npX1_tell rfl (Nat.le_of_ble_eq_true rfl) ?_
  intro p e s m args below meth cd hargs cx hr hin0
  have cx : Cx p s m args meth cd cX1_tell 2 RX1 G := cx
  refine x_ls (ls' := [some (.ref (zad G i (t + 3))), some (.int x)]) rfl (fun _ h => h) ?_
  refine x_iload_n cx dX1_tell_0 rfl rfl ?_
  rcases sw_cases x 9 (by decide) with hsw | hsw | ⟨w, hw, rfl⟩
  · refine x_tableOut (tgt := 114) cx dX1_tell_1 (Or.inl hsw) (by decide) ?_
    refine x_bipush (v := (-2)) cx dX1_tell_114 (by decide) ?_
    exact x_iret cx hr (zTell_out (by first | exact Or.inl hsw | exact Or.inr hsw)).symm (fun _ _ _ _ => rfl) dX1_tell_116
  · refine x_tableOut (tgt := 114) cx dX1_tell_1 (Or.inr hsw) (by decide) ?_
    refine x_bipush (v := (-2)) cx dX1_tell_114 (by decide) ?_
    exact x_iret cx hr (zTell_out (by first | exact Or.inl hsw | exact Or.inr hsw)).symm (fun _ _ _ _ => rfl) dX1_tell_116
  · rcases (show w = 0 ∨ w = 1 ∨ w = 2 ∨ w = 3 ∨ w = 4 ∨ w = 5 ∨ w = 6 ∨ w = 7 ∨ w = 8 ∨ w = 9 by omega) with rfl | rfl | rfl | rfl | rfl | rfl | rfl | rfl | rfl | rfl
    · refine x_tableIn (tgt := 56) (off := 55) cx dX1_tell_1 (by decide +kernel) (by decide +kernel) (by decide +kernel) (by decide) ?_
      refine x_aload_n cx dX1_tell_56 rfl rfl ?_
      refine x_getX1 cx 0 (by decide) (fl_X1_9 cx) (zok_c hi (by omega)) (zix_c hi (by omega)) (pcC' hi _ _) rfl dX1_tell_57 ?_
      exact x_iret cx hr (zTell_in.1).symm (fun _ _ _ _ => rfl) dX1_tell_60
    · refine x_tableIn (tgt := 61) (off := 60) cx dX1_tell_1 (by decide +kernel) (by decide +kernel) (by decide +kernel) (by decide) ?_
      refine x_aload_n cx dX1_tell_61 rfl rfl ?_
      refine x_getX1 cx 1 (by decide) (fl_X1_15 cx) (zok_c hi (by omega)) (zix_c hi (by omega)) (pcC' hi _ _) rfl dX1_tell_62 ?_
      exact x_iret cx hr (zTell_in.2.1).symm (fun _ _ _ _ => rfl) dX1_tell_65
    · refine x_tableIn (tgt := 66) (off := 65) cx dX1_tell_1 (by decide +kernel) (by decide +kernel) (by decide +kernel) (by decide) ?_
      refine x_aload_n cx dX1_tell_66 rfl rfl ?_
      refine x_getX1 cx 2 (by decide) (fl_X1_18 cx) (zok_c hi (by omega)) (zix_c hi (by omega)) (pcC' hi _ _) rfl dX1_tell_67 ?_
      exact x_iret cx hr (zTell_in.2.2.1).symm (fun _ _ _ _ => rfl) dX1_tell_70
    · refine x_tableIn (tgt := 71) (off := 70) cx dX1_tell_1 (by decide +kernel) (by decide +kernel) (by decide +kernel) (by decide) ?_
      refine x_aload_n cx dX1_tell_71 rfl rfl ?_
      refine x_getX1 cx 3 (by decide) (fl_X1_21 cx) (zok_c hi (by omega)) (zix_c hi (by omega)) (pcC' hi _ _) rfl dX1_tell_72 ?_
      exact x_iret cx hr (zTell_in.2.2.2.1).symm (fun _ _ _ _ => rfl) dX1_tell_75
    · refine x_tableIn (tgt := 76) (off := 75) cx dX1_tell_1 (by decide +kernel) (by decide +kernel) (by decide +kernel) (by decide) ?_
      refine x_aload_n cx dX1_tell_76 rfl rfl ?_
      refine x_getX1 cx 4 (by decide) (fl_X1_24 cx) (zok_c hi (by omega)) (zix_c hi (by omega)) (pcC' hi _ _) rfl dX1_tell_77 ?_
      exact x_iret cx hr (zTell_in.2.2.2.2.1).symm (fun _ _ _ _ => rfl) dX1_tell_80
    · refine x_tableIn (tgt := 81) (off := 80) cx dX1_tell_1 (by decide +kernel) (by decide +kernel) (by decide +kernel) (by decide) ?_
      refine x_aload_n cx dX1_tell_81 rfl rfl ?_
      refine x_getX1 cx 5 (by decide) (fl_X1_27 cx) (zok_c hi (by omega)) (zix_c hi (by omega)) (pcC' hi _ _) rfl dX1_tell_82 ?_
      refine x_if_eq (tgt := 92) cx dX1_tell_85 (by decide) (fun hb85 => ?_) (fun hb85 => ?_)
      · refine x_iconst (v := 0) cx dX1_tell_92 (by decide) ?_
        exact x_iret cx hr (by rw [zTell_in.2.2.2.2.2.1]; simp [hb85]) (fun _ _ _ _ => rfl) dX1_tell_93
      · refine x_iconst (v := 1) cx dX1_tell_88 (by decide) ?_
        refine x_goto (tgt := 93) cx dX1_tell_89 (by decide) ?_
        exact x_iret cx hr (by rw [zTell_in.2.2.2.2.2.1]; simp [hb85]) (fun _ _ _ _ => rfl) dX1_tell_93
    · refine x_tableIn (tgt := 94) (off := 93) cx dX1_tell_1 (by decide +kernel) (by decide +kernel) (by decide +kernel) (by decide) ?_
      refine x_aload_n cx dX1_tell_94 rfl rfl ?_
      refine x_getX1 cx 6 (by decide) (fl_X1_37 cx) (zok_c hi (by omega)) (zix_c hi (by omega)) (pcC' hi _ _) rfl dX1_tell_95 ?_
      exact x_iret cx hr (zTell_in.2.2.2.2.2.2.1).symm (fun _ _ _ _ => rfl) dX1_tell_98
    · refine x_tableIn (tgt := 99) (off := 98) cx dX1_tell_1 (by decide +kernel) (by decide +kernel) (by decide +kernel) (by decide) ?_
      refine x_aload_n cx dX1_tell_99 rfl rfl ?_
      refine x_getX1 cx 7 (by decide) (fl_X1_31 cx) (zok_c hi (by omega)) (zix_c hi (by omega)) (pcC' hi _ _) rfl dX1_tell_100 ?_
      exact x_iret cx hr (zTell_in.2.2.2.2.2.2.2.1).symm (fun _ _ _ _ => rfl) dX1_tell_103
    · refine x_tableIn (tgt := 104) (off := 103) cx dX1_tell_1 (by decide +kernel) (by decide +kernel) (by decide +kernel) (by decide) ?_
      refine x_aload_n cx dX1_tell_104 rfl rfl ?_
      refine x_getX1 cx 8 (by decide) (fl_X1_40 cx) (zok_c hi (by omega)) (zix_c hi (by omega)) (pcC' hi _ _) rfl dX1_tell_105 ?_
      exact x_iret cx hr (zTell_in.2.2.2.2.2.2.2.2.1).symm (fun _ _ _ _ => rfl) dX1_tell_108
    · refine x_tableIn (tgt := 109) (off := 108) cx dX1_tell_1 (by decide +kernel) (by decide +kernel) (by decide +kernel) (by decide) ?_
      refine x_aload_n cx dX1_tell_109 rfl rfl ?_
      refine x_Vi (C := RX1) (T := TX1) (N := 9) (rest := []) cx (c_X1_dataBits l G _ i t hi (by omega) _ _) gV_X1_58 ndX1_dataBits rfl ⟨Nat.le_of_ble_eq_true rfl, Nat.le_of_ble_eq_true rfl⟩ (zok_c hi (by omega)) (zix_c hi (by omega)) (pcC' hi _ _) rfl rfl rfl (Nat.le_of_ble_eq_true rfl) dX1_tell_110 ⟨Nat.le_of_ble_eq_true rfl, Nat.le_of_ble_eq_true rfl⟩ ?_
      exact x_iret cx hr (zTell_in.2.2.2.2.2.2.2.2.2).symm (fun _ _ _ _ => rfl) dX1_tell_113

set_option maxHeartbeats 4000000 in
set_option maxRecDepth 100000 in
theorem c_X1_becomeCopyOf (l : Launch) (G : zG) (S : zS) (i t i2 t2 : Nat) (hi : i < 7) (ht : t < 6) (hi2 : i2 < 7) (ht2 : t2 < 6) (hne : ¬ (i2 = i ∧ t2 = t)) (hb : S i2 (t2 + 3) 5 = 0 ∨ S i2 (t2 + 3) 5 = 1) : Met l yX1_becomeCopyOf (zws yX1_becomeCopyOf cX1_becomeCopyOf 2 none) (zrm 0 0 0 0) (zPc G 75 (pic G S) [.ref (zad G i (t + 3)), .ref (zad G i2 (t2 + 3))]) (zQv G 75 (pic G (up S i (uj (S i) (t + 3) (S i2 (t2 + 3)))))) 0 0 (zA G) := by
  refine zMet npX1_becomeCopyOf rfl (Nat.le_of_ble_eq_true rfl) ?_
  intro p e s m args below meth cd hargs cx hr hin0
  have cx : Cx p s m args meth cd cX1_becomeCopyOf 2 RX1 G := cx
  refine x_ls (ls' := [some (.ref (zad G i (t + 3))), some (.ref (zad G i2 (t2 + 3)))]) rfl (fun _ h => h) ?_
  refine x_as (h' := pic G (up S i (uj (S i) (t + 3) (S i (t + 3))))) (by rw [uj_self, up_self]) ?_
  refine x_aload_n cx dX1_becomeCopyOf_0 rfl rfl ?_
  refine x_aload_n cx dX1_becomeCopyOf_1 rfl rfl ?_
  refine x_getX1 cx 0 (by decide) (fl_X1_9 cx) (zok_c hi2 (by omega)) (zix_c hi2 (by omega)) (pcC2 hi2 hne) rfl dX1_becomeCopyOf_2 ?_
  refine x_putX1 cx 0 (by decide) (fl_X1_9 cx) (zok_c hi (by omega)) (zix_c hi (by omega)) (pcC' hi _ _) rfl rfl rfl (Nat.le_of_ble_eq_true rfl) (ppC' hi (by decide)) dX1_becomeCopyOf_5 ?_
  refine x_aload_n cx dX1_becomeCopyOf_8 rfl rfl ?_
  refine x_aload_n cx dX1_becomeCopyOf_9 rfl rfl ?_
  refine x_getX1 cx 1 (by decide) (fl_X1_15 cx) (zok_c hi2 (by omega)) (zix_c hi2 (by omega)) (pcC2 hi2 hne) rfl dX1_becomeCopyOf_10 ?_
  refine x_putX1 cx 1 (by decide) (fl_X1_15 cx) (zok_c hi (by omega)) (zix_c hi (by omega)) (pcC' hi _ _) rfl rfl rfl (Nat.le_of_ble_eq_true rfl) (ppC' hi (by decide)) dX1_becomeCopyOf_13 ?_
  refine x_aload_n cx dX1_becomeCopyOf_16 rfl rfl ?_
  refine x_aload_n cx dX1_becomeCopyOf_17 rfl rfl ?_
  refine x_getX1 cx 2 (by decide) (fl_X1_18 cx) (zok_c hi2 (by omega)) (zix_c hi2 (by omega)) (pcC2 hi2 hne) rfl dX1_becomeCopyOf_18 ?_
  refine x_putX1 cx 2 (by decide) (fl_X1_18 cx) (zok_c hi (by omega)) (zix_c hi (by omega)) (pcC' hi _ _) rfl rfl rfl (Nat.le_of_ble_eq_true rfl) (ppC' hi (by decide)) dX1_becomeCopyOf_21 ?_
  refine x_aload_n cx dX1_becomeCopyOf_24 rfl rfl ?_
  refine x_aload_n cx dX1_becomeCopyOf_25 rfl rfl ?_
  refine x_getX1 cx 3 (by decide) (fl_X1_21 cx) (zok_c hi2 (by omega)) (zix_c hi2 (by omega)) (pcC2 hi2 hne) rfl dX1_becomeCopyOf_26 ?_
  refine x_putX1 cx 3 (by decide) (fl_X1_21 cx) (zok_c hi (by omega)) (zix_c hi (by omega)) (pcC' hi _ _) rfl rfl rfl (Nat.le_of_ble_eq_true rfl) (ppC' hi (by decide)) dX1_becomeCopyOf_29 ?_
  refine x_aload_n cx dX1_becomeCopyOf_32 rfl rfl ?_
  refine x_aload_n cx dX1_becomeCopyOf_33 rfl rfl ?_
  refine x_getX1 cx 4 (by decide) (fl_X1_24 cx) (zok_c hi2 (by omega)) (zix_c hi2 (by omega)) (pcC2 hi2 hne) rfl dX1_becomeCopyOf_34 ?_
  refine x_putX1 cx 4 (by decide) (fl_X1_24 cx) (zok_c hi (by omega)) (zix_c hi (by omega)) (pcC' hi _ _) rfl rfl rfl (Nat.le_of_ble_eq_true rfl) (ppC' hi (by decide)) dX1_becomeCopyOf_37 ?_
  refine x_aload_n cx dX1_becomeCopyOf_40 rfl rfl ?_
  refine x_aload_n cx dX1_becomeCopyOf_41 rfl rfl ?_
  refine x_getX1 cx 5 (by decide) (fl_X1_27 cx) (zok_c hi2 (by omega)) (zix_c hi2 (by omega)) (pcC2 hi2 hne) rfl dX1_becomeCopyOf_42 ?_
  refine x_putX1 cx 5 (by decide) (fl_X1_27 cx) (zok_c hi (by omega)) (zix_c hi (by omega)) (pcC' hi _ _) rfl (by rcases hb with h | h <;> rw [h] <;> rfl) (by rcases hb with h | h <;> rw [h] <;> rfl) (Nat.le_of_ble_eq_true rfl) (ppC' hi (by decide)) dX1_becomeCopyOf_45 ?_
  refine x_aload_n cx dX1_becomeCopyOf_48 rfl rfl ?_
  refine x_aload_n cx dX1_becomeCopyOf_49 rfl rfl ?_
  refine x_getX1 cx 6 (by decide) (fl_X1_37 cx) (zok_c hi2 (by omega)) (zix_c hi2 (by omega)) (pcC2 hi2 hne) rfl dX1_becomeCopyOf_50 ?_
  refine x_putX1 cx 6 (by decide) (fl_X1_37 cx) (zok_c hi (by omega)) (zix_c hi (by omega)) (pcC' hi _ _) rfl rfl rfl (Nat.le_of_ble_eq_true rfl) (ppC' hi (by decide)) dX1_becomeCopyOf_53 ?_
  refine x_aload_n cx dX1_becomeCopyOf_56 rfl rfl ?_
  refine x_aload_n cx dX1_becomeCopyOf_57 rfl rfl ?_
  refine x_getX1 cx 7 (by decide) (fl_X1_31 cx) (zok_c hi2 (by omega)) (zix_c hi2 (by omega)) (pcC2 hi2 hne) rfl dX1_becomeCopyOf_58 ?_
  refine x_putX1 cx 7 (by decide) (fl_X1_31 cx) (zok_c hi (by omega)) (zix_c hi (by omega)) (pcC' hi _ _) rfl rfl rfl (Nat.le_of_ble_eq_true rfl) (ppC' hi (by decide)) dX1_becomeCopyOf_61 ?_
  refine x_aload_n cx dX1_becomeCopyOf_64 rfl rfl ?_
  refine x_aload_n cx dX1_becomeCopyOf_65 rfl rfl ?_
  refine x_getX1 cx 8 (by decide) (fl_X1_40 cx) (zok_c hi2 (by omega)) (zix_c hi2 (by omega)) (pcC2 hi2 hne) rfl dX1_becomeCopyOf_66 ?_
  refine x_putX1 cx 8 (by decide) (fl_X1_40 cx) (zok_c hi (by omega)) (zix_c hi (by omega)) (pcC' hi _ _) rfl rfl rfl (Nat.le_of_ble_eq_true rfl) (ppC' hi (by decide)) dX1_becomeCopyOf_69 ?_
  exact x_vret cx hr (eqS_pic_up (Or.inl hi) (eqX_uj (k9 rfl rfl rfl rfl rfl rfl rfl rfl rfl))) dX1_becomeCopyOf_72
end
section
/-! ===== the controller: the next state, how far it is from state to state ===== -/
def zis (x : Int32) : Int32 := if x < 0 then 0 else if 16 ≤ x then 0 else 1
theorem zis_ok {a : Nat} (h : a < 16) : zis (nI a) = 1 := by
  unfold zis
  rw [if_neg (nI_pos (by omega)), if_neg (show ¬ (16 : Int32) ≤ nI a from nI_ge (b := 16) h (by decide))]
def zNx (a : Nat) (md : Int32) : Int32 := if md = 0 then zN0 a else zN1 a
theorem zNx_0 (a : Nat) : zNx a 0 = zN0 a := if_pos rfl
theorem zNx_1 (a : Nat) : zNx a 1 = zN1 a := if_neg (by decide)
def noaL (x : Int32) : Nat → Int32
  | 0 => 0
  | k + 1 => if (x >>> (nI k &&& 31)) &&& 1 = 1 then noaL x k ||| ((1 <<< (zN0 k &&& 31)) ||| (1 <<< (zN1 k &&& 31))) else noaL x k
def noa (x : Int32) : Int32 := noaL x 16
def rch (a : Nat) : Nat → Int32
  | 0 => 1 <<< (nI a &&& 31)
  | k + 1 => noa (rch a k)
def zRT : List Nat := [1, 3, 7, 527, 1599, 8063, 49151, 65535, 65535, 65535, 65535, 65535, 65535, 65535, 65535, 65535, 2, 6, 526, 1599, 8063, 49151, 65535, 65535, 65535, 65535, 65535, 65535, 65535, 65535, 65535, 65535, 4, 520, 1073, 6515, 47607, 64511, 65535, 65535, 65535, 65535, 65535, 65535, 65535, 65535, 65535, 65535, 8, 48, 368, 502, 1022, 2047, 8191, 49151, 65535, 65535, 65535, 65535, 65535, 65535, 65535, 65535, 16, 48, 368, 502, 1022, 2047, 8191, 49151, 65535, 65535, 65535, 65535, 65535, 65535, 65535, 65535, 32, 320, 198, 990, 2047, 8191, 49151, 65535, 65535, 65535, 65535, 65535, 65535, 65535, 65535, 65535, 64, 192, 464, 502, 1022, 2047, 8191, 49151, 65535, 65535, 65535, 65535, 65535, 65535, 65535, 65535, 128, 272, 54, 894, 2047, 8191, 49151, 65535, 65535, 65535, 65535, 65535, 65535, 65535, 65535, 65535, 256, 6, 526, 1599, 8063, 49151, 65535, 65535, 65535, 65535, 65535, 65535, 65535, 65535, 65535, 65535, 512, 1025, 6147, 47111, 64015, 65087, 65407, 65535, 65535, 65535, 65535, 65535, 65535, 65535, 65535, 65535, 1024, 6144, 47104, 63494, 64014, 65087, 65407, 65535, 65535, 65535, 65535, 65535, 65535, 65535, 65535, 65535, 2048, 6144, 47104, 63494, 64014, 65087, 65407, 65535, 65535, 65535, 65535, 65535, 65535, 65535, 65535, 65535, 4096, 40960, 24582, 59918, 65087, 65407, 65535, 65535, 65535, 65535, 65535, 65535, 65535, 65535, 65535, 65535, 8192, 24576, 59392, 63494, 64014, 65087, 65407, 65535, 65535, 65535, 65535, 65535, 65535, 65535, 65535, 65535, 16384, 34816, 6150, 47630, 65087, 65407, 65535, 65535, 65535, 65535, 65535, 65535, 65535, 65535, 65535, 65535, 32768, 6, 526, 1599, 8063, 49151, 65535, 65535, 65535, 65535, 65535, 65535, 65535, 65535, 65535, 65535]
def zDT : List Nat := [0, 1, 2, 3, 4, 4, 5, 6, 5, 3, 4, 5, 5, 6, 7, 6, 3, 0, 1, 2, 3, 3, 4, 5, 4, 2, 3, 4, 4, 5, 6, 5, 2, 3, 0, 1, 2, 2, 3, 4, 3, 1, 2, 3, 3, 4, 5, 4, 5, 3, 3, 0, 1, 1, 2, 3, 2, 4, 5, 6, 6, 7, 8, 7, 5, 3, 3, 4, 0, 1, 2, 3, 2, 4, 5, 6, 6, 7, 8, 7, 4, 2, 2, 3, 3, 0, 1, 2, 1, 3, 4, 5, 5, 6, 7, 6, 5, 3, 3, 4, 2, 3, 0, 1, 2, 4, 5, 6, 6, 7, 8, 7, 4, 2, 2, 3, 1, 2, 3, 0, 1, 3, 4, 5, 5, 6, 7, 6, 3, 1, 1, 2, 3, 3, 4, 5, 0, 2, 3, 4, 4, 5, 6, 5, 1, 2, 3, 4, 5, 5, 6, 7, 6, 0, 1, 2, 2, 3, 4, 3, 5, 3, 3, 4, 5, 5, 6, 7, 6, 4, 0, 1, 1, 2, 3, 2, 5, 3, 3, 4, 5, 5, 6, 7, 6, 4, 5, 0, 1, 2, 3, 2, 4, 2, 2, 3, 4, 4, 5, 6, 5, 3, 4, 3, 0, 1, 2, 1, 5, 3, 3, 4, 5, 5, 6, 7, 6, 4, 5, 2, 3, 0, 1, 2, 4, 2, 2, 3, 4, 4, 5, 6, 5, 3, 4, 1, 2, 3, 0, 1, 3, 1, 1, 2, 3, 3, 4, 5, 4, 2, 3, 4, 4, 5, 6, 0]
def rtab (a k : Nat) : Int32 := nI (zRT.getD (16 * a + k) 0)
/-- how many clocks lead from a to b -/
def dst (a b : Nat) : Nat := zDT.getD (16 * a + b) 0
set_option maxRecDepth 100000 in
theorem rtab_0 : ∀ a, a < 16 → (1 : Int32) <<< (nI a &&& 31) = rtab a 0 := by decide +kernel
set_option maxRecDepth 100000 in
theorem rtab_s : ∀ a, a < 16 → ∀ k, k < 15 → noa (rtab a k) = rtab a (k + 1) := by decide +kernel
theorem rch_tab {a : Nat} (ha : a < 16) : ∀ k, k < 16 → rch a k = rtab a k
  | 0, _ => rtab_0 a ha
  | k + 1, h => by
    show noa (rch a k) = _
    rw [rch_tab ha k (by omega)]
    exact rtab_s a ha k (by omega)
set_option maxRecDepth 100000 in
theorem dst_lt : ∀ a, a < 16 → ∀ b, b < 16 → dst a b < 16 := by decide +kernel
set_option maxRecDepth 100000 in
theorem dst_hit0 : ∀ a, a < 16 → ∀ b, b < 16 → ¬ (rtab a (dst a b) >>> (nI b &&& 31)) &&& 1 = 0 := by decide +kernel
set_option maxRecDepth 100000 in
theorem dst_miss0 : ∀ a, a < 16 → ∀ b, b < 16 → ∀ k, k < 16 → k < dst a b → (rtab a k >>> (nI b &&& 31)) &&& 1 = 0 := by decide +kernel
theorem dst_hit {a b : Nat} (ha : a < 16) (hb : b < 16) : ¬ (rch a (dst a b) >>> (nI b &&& 31)) &&& 1 = 0 := by
  rw [rch_tab ha _ (dst_lt a ha b hb)]
  exact dst_hit0 a ha b hb
theorem dst_miss {a b k : Nat} (ha : a < 16) (hb : b < 16) (hk : k < dst a b) : (rch a k >>> (nI b &&& 31)) &&& 1 = 0 := by
  have := dst_lt a ha b hb
  rw [rch_tab ha _ (by omega)]
  exact dst_miss0 a ha b hb k (by omega) hk
/-- the next state as a number -/
def nx (a : Nat) (md : Int32) : Nat := (zNx a md).toNatClampNeg
set_option maxRecDepth 100000 in
theorem zN_tab : ∀ a, a < 16 → (zN0 a = nI (zN0 a).toNatClampNeg ∧ (zN0 a).toNatClampNeg < 16) ∧ zN1 a = nI (zN1 a).toNatClampNeg ∧ (zN1 a).toNatClampNeg < 16 := by decide +kernel
theorem nx_eq {a : Nat} (ha : a < 16) (md : Int32) : zNx a md = nI (nx a md) := by
  unfold nx zNx
  by_cases h : md = 0
  · rw [if_pos h]; exact (zN_tab a ha).1.1
  · rw [if_neg h]; exact (zN_tab a ha).2.1
theorem nx_lt {a : Nat} (ha : a < 16) (md : Int32) : nx a md < 16 := by
  unfold nx zNx
  by_cases h : md = 0
  · rw [if_pos h]; exact (zN_tab a ha).1.2
  · rw [if_neg h]; exact (zN_tab a ha).2.2
/-- the mode of the first clock of a move -/
def zMd (a b : Nat) : Int32 := if dst (nx a 0) b < dst a b then 0 else 1
set_option maxRecDepth 100000 in
theorem dst_0 : ∀ a, a < 16 → ∀ b, b < 16 → (dst a b = 0 ↔ a = b) := by decide +kernel
set_option maxRecDepth 100000 in
theorem dst_s : ∀ a, a < 16 → ∀ b, b < 16 → a ≠ b → dst (nx a (zMd a b)) b + 1 = dst a b := by decide +kernel
set_option maxRecDepth 100000 in
theorem dst_t : ∀ a, a < 16 → ∀ b, b < 16 → a ≠ b → (dst (nx a 0) b + 1 = dst a b ↔ dst (nx a 0) b < dst a b) := by decide +kernel
end
section
set_option maxHeartbeats 4000000 in
set_option maxRecDepth 100000 in
theorem c_X2_isState (l : Launch) (G : zG) (n : Nat) (h : zH) (x : Int32) : Met l yX2_isState (zws yX2_isState cX2_isState 1 (some .boolean)) (zrm 0 0 0 0) (zPc G n (h) [.int x]) (zQi G n (zis x) (h)) 0 0 (zA G) := by
  refine zMet npX2_isState rfl (Nat.le_of_ble_eq_true rfl) ?_
  intro p e s m args below meth cd hargs cx hr hin0
  have cx : Cx p s m args meth cd cX2_isState 1 RX2 G := cx
  refine x_ls (ls' := [some (.int x)]) rfl (fun _ h => h) ?_
  refine x_iload_n cx dX2_isState_0 rfl rfl ?_
  refine x_if_lt (tgt := 14) cx dX2_isState_1 (by decide) (fun hb1 => ?_) (fun hb1 => ?_)
  · refine x_iconst (v := 0) cx dX2_isState_14 (by decide) ?_
    exact x_zret cx hr (by simp [zis, hb1]) (by first | exact Or.inl rfl | exact Or.inr rfl) (fun _ _ _ _ => rfl) dX2_isState_15
  · refine x_iload_n cx dX2_isState_4 rfl rfl ?_
    refine x_bipush (v := 16) cx dX2_isState_5 (by decide) ?_
    refine x_icmp_ge (tgt := 14) cx dX2_isState_7 (by decide) (fun hb7 => ?_) (fun hb7 => ?_)
    · refine x_iconst (v := 0) cx dX2_isState_14 (by decide) ?_
      exact x_zret cx hr (by simp [zis, hb1, hb7]) (by first | exact Or.inl rfl | exact Or.inr rfl) (fun _ _ _ _ => rfl) dX2_isState_15
    · refine x_iconst (v := 1) cx dX2_isState_10 (by decide) ?_
      refine x_goto (tgt := 15) cx dX2_isState_11 (by decide) ?_
      exact x_zret cx hr (by simp [zis, hb1, hb7]) (by first | exact Or.inl rfl | exact Or.inr rfl) (fun _ _ _ _ => rfl) dX2_isState_15

set_option maxHeartbeats 4000000 in
set_option maxRecDepth 100000 in
theorem c_X2_next (l : Launch) (G : zG) (n : Nat) (h : zH) (a : Nat) (ha : a < 16) (md : Int32) : Met l yX2_next (zws yX2_next cX2_next 2 (some .int)) (zrm 1 0 0 20) (zPc G n (h) [.int (nI a), .int md]) (zQi G n (zNx a md) (h)) 0 0 (zA G) := by
  refine zMet npX2_next rfl (Nat.le_of_ble_eq_true rfl) ?_
  intro p e s m args below meth cd hargs cx hr hin0
  have cx : Cx p s m args meth cd cX2_next 2 RX2 G := cx
  refine x_ls (ls' := [some (.int (nI a)), some (.int md)]) rfl (fun _ h => h) ?_
  refine x_iload_n cx dX2_next_0 rfl rfl ?_
  refine x_Si (rest := []) cx (c_X2_isState l G _ _ _) gS_X2_9 ndX2_isState ⟨Nat.le_of_ble_eq_true rfl, Nat.le_of_ble_eq_true rfl⟩ rfl rfl (Nat.le_of_ble_eq_true rfl) dX2_next_1 ⟨Nat.le_of_ble_eq_true rfl, Nat.le_of_ble_eq_true rfl⟩ ?_
  refine x_if_ne_t (tgt := 9) cx dX2_next_4 (by decide) (by rw [zis_ok ha]; decide) ?_
  refine x_iload_n cx dX2_next_9 rfl rfl ?_
  refine x_if_ne (tgt := 21) cx dX2_next_10 (by decide) (fun hb10 => ?_) (fun hb10 => ?_)
  · refine x_gets1 cx (cx.1.2.2.2.2 _ zt328) dX2_next_21 (fun tN21 hN21 => ?_)
    refine x_iload_n cx dX2_next_24 rfl rfl ?_
    refine x_tald (t := a) cx hN21 rfl (by omega) (by decide) rfl dX2_next_25 ?_
    exact x_iret cx hr (by simp [zNx, hb10]) (fun _ _ _ _ => rfl) dX2_next_26
  · refine x_gets0 cx (cx.1.2.2.2.2 _ zt326) dX2_next_13 (fun tN13 hN13 => ?_)
    refine x_iload_n cx dX2_next_16 rfl rfl ?_
    refine x_tald (t := a) cx hN13 rfl (by omega) (by decide) rfl dX2_next_17 ?_
    refine x_goto (tgt := 26) cx dX2_next_18 (by decide) ?_
    exact x_iret cx hr (by simp [zNx, hb10]) (fun _ _ _ _ => rfl) dX2_next_26

set_option maxHeartbeats 4000000 in
set_option maxRecDepth 100000 in
theorem c_X2_nextOfAll (l : Launch) (G : zG) (n : Nat) (h : zH) (x : Int32) : Met l yX2_nextOfAll (zws yX2_nextOfAll cX2_nextOfAll 3 (some .int)) (zrm 2 0 0 41) (zPc G n (h) [.int x]) (zQi G n (noa x) (h)) 0 0 (zA G) := by
  refine zMet npX2_nextOfAll rfl (Nat.le_of_ble_eq_true rfl) ?_
  intro p e s m args below meth cd hargs cx hr hin0
  have cx : Cx p s m args meth cd cX2_nextOfAll 3 RX2 G := cx
  refine x_ls (ls' := [some (.int x), none, none]) rfl (fun _ h => h) ?_
  refine x_iconst (v := 0) cx dX2_nextOfAll_0 (by decide) ?_
  refine x_istore_n (ls' := [_, _, _]) cx dX2_nextOfAll_1 rfl (by decide) rfl ?_
  refine x_iconst (v := 0) cx dX2_nextOfAll_2 (by decide) ?_
  refine x_istore_n (ls' := [_, _, _]) cx dX2_nextOfAll_3 rfl (by decide) rfl ?_
  suffices K : ∀ f k : Nat, k + f = 16 → Xh p l e _ s m args below meth cd 3 G _ 0 0 n h 4 [some (.int x), some (.int (noaL x k)), some (.int (nI k))] [] from K 16 0 rfl
  intro f
  induction f with
  | zero =>
    intro k hk
    obtain rfl : k = 16 := by omega
    refine x_iload_n cx dX2_nextOfAll_4 rfl rfl ?_
    refine x_bipush (v := 16) cx dX2_nextOfAll_5 (by decide) ?_
    refine x_icmp_ge_t (tgt := 43) cx dX2_nextOfAll_7 (by decide) (by decide) ?_
    refine x_iload_n cx dX2_nextOfAll_43 rfl rfl ?_
    exact x_iret cx hr rfl (fun _ _ _ _ => rfl) dX2_nextOfAll_44
  | succ f ih =>
    intro k hk
    refine x_iload_n cx dX2_nextOfAll_4 rfl rfl ?_
    refine x_bipush (v := 16) cx dX2_nextOfAll_5 (by decide) ?_
    refine x_icmp_ge_f (tgt := 43) cx dX2_nextOfAll_7 (by decide) (nI_ge (b := 16) (by omega) (by decide)) ?_
    refine x_iload_n cx dX2_nextOfAll_10 rfl rfl ?_
    refine x_iload_n cx dX2_nextOfAll_11 rfl rfl ?_
    refine x_ishr cx dX2_nextOfAll_12 ?_
    refine x_iconst (v := 1) cx dX2_nextOfAll_13 (by decide) ?_
    refine x_iand cx dX2_nextOfAll_14 ?_
    refine x_iconst (v := 1) cx dX2_nextOfAll_15 (by decide) ?_
    refine x_icmp_ne (tgt := 37) cx dX2_nextOfAll_16 (by decide) (fun hb16 => ?_) (fun hb16 => ?_)
    · refine x_iinc (v := nI (k + 1)) (ls' := [_, _, _]) cx dX2_nextOfAll_37 rfl (nI_inc _) (by decide) rfl ?_
      refine x_goto (tgt := 4) cx dX2_nextOfAll_40 (by decide) ?_
      have h9 := ih (k + 1) (by omega)
      rw [noaL, if_neg hb16] at h9
      exact h9
    · refine x_iload_n cx dX2_nextOfAll_19 rfl rfl ?_
      refine x_iconst (v := 1) cx dX2_nextOfAll_20 (by decide) ?_
      refine x_iload_n cx dX2_nextOfAll_21 rfl rfl ?_
      refine x_iconst (v := 0) cx dX2_nextOfAll_22 (by decide) ?_
      refine x_Si (rest := [_, _]) cx (c_X2_next l G _ _ k (by omega) _) gS_X2_24 ndX2_next ⟨Nat.le_of_ble_eq_true rfl, Nat.le_of_ble_eq_true rfl⟩ rfl rfl (Nat.le_of_ble_eq_true rfl) dX2_nextOfAll_23 ⟨Nat.le_of_ble_eq_true rfl, Nat.le_of_ble_eq_true rfl⟩ ?_
      refine x_eqi (zNx_0 _) ?_
      refine x_ishl cx dX2_nextOfAll_26 ?_
      refine x_iconst (v := 1) cx dX2_nextOfAll_27 (by decide) ?_
      refine x_iload_n cx dX2_nextOfAll_28 rfl rfl ?_
      refine x_iconst (v := 1) cx dX2_nextOfAll_29 (by decide) ?_
      refine x_Si (rest := [_, _, _]) cx (c_X2_next l G _ _ k (by omega) _) gS_X2_24 ndX2_next ⟨Nat.le_of_ble_eq_true rfl, Nat.le_of_ble_eq_true rfl⟩ rfl rfl (Nat.le_of_ble_eq_true rfl) dX2_nextOfAll_30 ⟨Nat.le_of_ble_eq_true rfl, Nat.le_of_ble_eq_true rfl⟩ ?_
      refine x_eqi (zNx_1 _) ?_
      refine x_ishl cx dX2_nextOfAll_33 ?_
      refine x_ior cx dX2_nextOfAll_34 ?_
      refine x_ior cx dX2_nextOfAll_35 ?_
      refine x_istore_n (ls' := [_, _, _]) cx dX2_nextOfAll_36 rfl (by decide) rfl ?_
      refine x_iinc (v := nI (k + 1)) (ls' := [_, _, _]) cx dX2_nextOfAll_37 rfl (nI_inc _) (by decide) rfl ?_
      refine x_goto (tgt := 4) cx dX2_nextOfAll_40 (by decide) ?_
      have h9 := ih (k + 1) (by omega)
      rw [noaL, if_pos hb16] at h9
      exact h9

set_option maxHeartbeats 4000000 in
set_option maxRecDepth 100000 in
theorem c_X2_clocksBetween (l : Launch) (G : zG) (n : Nat) (h : zH) (a b : Nat) (ha : a < 16) (hb : b < 16) : Met l yX2_clocksBetween (zws yX2_clocksBetween cX2_clocksBetween 4 (some .int)) (zrm 3 0 0 63) (zPc G n (h) [.int (nI a), .int (nI b)]) (zQi G n (nI (dst a b)) (h)) 0 0 (zA G) := by
  refine zMet npX2_clocksBetween rfl (Nat.le_of_ble_eq_true rfl) ?_
  intro p e s m args below meth cd hargs cx hr hin0
  have cx : Cx p s m args meth cd cX2_clocksBetween 4 RX2 G := cx
  refine x_ls (ls' := [some (.int (nI a)), some (.int (nI b)), none, none]) rfl (fun _ h => h) ?_
  refine x_iconst (v := 1) cx dX2_clocksBetween_0 (by decide) ?_
  refine x_iload_n cx dX2_clocksBetween_1 rfl rfl ?_
  refine x_ishl cx dX2_clocksBetween_2 ?_
  refine x_istore_n (ls' := [_, _, _, _]) cx dX2_clocksBetween_3 rfl (by decide) rfl ?_
  refine x_iconst (v := 0) cx dX2_clocksBetween_4 (by decide) ?_
  refine x_istore_n (ls' := [_, _, _, _]) cx dX2_clocksBetween_5 rfl (by decide) rfl ?_
  have hd := dst_lt a ha b hb
  suffices K : ∀ f k : Nat, k + f = dst a b → Xh p l e _ s m args below meth cd 4 G _ 0 0 n h 6 [some (.int (nI a)), some (.int (nI b)), some (.int (rch a k)), some (.int (nI k))] [] from K (dst a b) 0 (by omega)
  intro f
  induction f with
  | zero =>
    intro k hk
    obtain rfl : k = dst a b := by omega
    refine x_iload_n cx dX2_clocksBetween_6 rfl rfl ?_
    refine x_bipush (v := 16) cx dX2_clocksBetween_7 (by decide) ?_
    refine x_icmp_ge_f (tgt := 31) cx dX2_clocksBetween_9 (by decide) (nI_ge (b := 16) (by omega) (by decide)) ?_
    refine x_iload_n cx dX2_clocksBetween_12 rfl rfl ?_
    refine x_iload_n cx dX2_clocksBetween_13 rfl rfl ?_
    refine x_ishr cx dX2_clocksBetween_14 ?_
    refine x_iconst (v := 1) cx dX2_clocksBetween_15 (by decide) ?_
    refine x_iand cx dX2_clocksBetween_16 ?_
    refine x_if_ne_t (tgt := 31) cx dX2_clocksBetween_17 (by decide) (dst_hit ha hb) ?_
    refine x_iload_n cx dX2_clocksBetween_31 rfl rfl ?_
    exact x_iret cx hr rfl (fun _ _ _ _ => rfl) dX2_clocksBetween_32
  | succ f ih =>
    intro k hk
    refine x_iload_n cx dX2_clocksBetween_6 rfl rfl ?_
    refine x_bipush (v := 16) cx dX2_clocksBetween_7 (by decide) ?_
    refine x_icmp_ge_f (tgt := 31) cx dX2_clocksBetween_9 (by decide) (nI_ge (b := 16) (by omega) (by decide)) ?_
    refine x_iload_n cx dX2_clocksBetween_12 rfl rfl ?_
    refine x_iload_n cx dX2_clocksBetween_13 rfl rfl ?_
    refine x_ishr cx dX2_clocksBetween_14 ?_
    refine x_iconst (v := 1) cx dX2_clocksBetween_15 (by decide) ?_
    refine x_iand cx dX2_clocksBetween_16 ?_
    refine x_if_ne_f (tgt := 31) cx dX2_clocksBetween_17 (by decide) (dst_miss ha hb (by omega)) ?_
    refine x_iload_n cx dX2_clocksBetween_20 rfl rfl ?_
    refine x_Si (rest := []) cx (c_X2_nextOfAll l G _ _ _) gS_X2_20 ndX2_nextOfAll ⟨Nat.le_of_ble_eq_true rfl, Nat.le_of_ble_eq_true rfl⟩ rfl rfl (Nat.le_of_ble_eq_true rfl) dX2_clocksBetween_21 ⟨Nat.le_of_ble_eq_true rfl, Nat.le_of_ble_eq_true rfl⟩ ?_
    refine x_istore_n (ls' := [_, _, _, _]) cx dX2_clocksBetween_24 rfl (by decide) rfl ?_
    refine x_iinc (v := nI (k + 1)) (ls' := [_, _, _, _]) cx dX2_clocksBetween_25 rfl (nI_inc _) (by decide) rfl ?_
    refine x_goto (tgt := 6) cx dX2_clocksBetween_28 (by decide) ?_
    exact ih (k + 1) (by omega)
end
section
/-! ===== a chain's value: size, state, clocks, count at X 0; identities at X 2; chips at X (t + 3) ===== -/
def num (X : zCV) : Nat := (X 0 0).toNatClampNeg
def stt (X : zCV) : Nat := (X 0 1).toNatClampNeg
def cnt (X : zCV) : Nat := (X 0 3).toNatClampNeg
/-- a chip's numbers are within their bounds -/
def cWF (c : Nat → Int32) : Prop := (∃ L, 2 ≤ L ∧ L ≤ 6 ∧ c 0 = nI L) ∧ (∃ K, 1 ≤ K ∧ K ≤ 8 ∧ c 2 = nI K) ∧ (c 5 = 0 ∨ c 5 = 1) ∧ 0 ≤ c 1
def zWF (X : zCV) : Prop := (X 0 0 = nI (num X) ∧ num X ≤ 6) ∧ (X 0 1 = nI (stt X) ∧ stt X < 16) ∧ (X 0 3 = nI (cnt X) ∧ cnt X ≤ 8) ∧ ∀ t, t < num X → cWF (X (t + 3))
theorem zWF.sz {X : zCV} (h : zWF X) : X 0 0 = nI (num X) := h.1.1
theorem zWF.n6 {X : zCV} (h : zWF X) : num X ≤ 6 := h.1.2
theorem zWF.s1 {X : zCV} (h : zWF X) : X 0 1 = nI (stt X) := h.2.1.1
theorem zWF.s16 {X : zCV} (h : zWF X) : stt X < 16 := h.2.1.2
theorem zWF.c3 {X : zCV} (h : zWF X) : X 0 3 = nI (cnt X) := h.2.2.1.1
theorem zWF.c8 {X : zCV} (h : zWF X) : cnt X ≤ 8 := h.2.2.1.2
theorem zWF.chip {X : zCV} (h : zWF X) {t : Nat} (ht : t < num X) : cWF (X (t + 3)) := h.2.2.2 t ht
def zMap (f : Nat → (Nat → Int32) → (Nat → Int32)) (n : Nat) (X : zCV) : zCV := fun j => if j < 3 then X j else if j - 3 < n then f (j - 3) (X j) else X j
theorem zMap_lo {f : Nat → (Nat → Int32) → (Nat → Int32)} {n : Nat} {X : zCV} {j : Nat} (h : j < 3) : zMap f n X j = X j := if_pos h
theorem zMap_in {f : Nat → (Nat → Int32) → (Nat → Int32)} {n : Nat} {X : zCV} {t : Nat} (h : t < n) : zMap f n X (t + 3) = f t (X (t + 3)) := by
  unfold zMap
  rw [if_neg (by omega), if_pos (by omega), Nat.add_sub_cancel]
theorem zMap_out {f : Nat → (Nat → Int32) → (Nat → Int32)} {n : Nat} {X : zCV} {t : Nat} (h : n ≤ t) : zMap f n X (t + 3) = X (t + 3) := by
  unfold zMap
  rw [if_neg (by omega), if_neg (by omega)]
theorem zMap_z (f : Nat → (Nat → Int32) → (Nat → Int32)) (X : zCV) : zMap f 0 X = X := by
  funext j
  unfold zMap
  by_cases h : j < 3
  · rw [if_pos h]
  · rw [if_neg h, if_neg (by omega)]
theorem zMap_s (f : Nat → (Nat → Int32) → (Nat → Int32)) (k : Nat) (X : zCV) : zMap f (k + 1) X = uj (zMap f k X) (k + 3) (f k (X (k + 3))) := by
  funext j
  unfold uj
  by_cases hj : j = k + 3
  · subst hj
    rw [if_pos rfl, zMap_in (by omega)]
  · rw [if_neg hj]
    unfold zMap
    by_cases h : j < 3
    · rw [if_pos h, if_pos h]
    · rw [if_neg h, if_neg h]
      by_cases h2 : j - 3 < k
      · rw [if_pos h2, if_pos (by omega)]
      · rw [if_neg h2, if_neg (by omega)]
theorem zMap_num (f : Nat → (Nat → Int32) → (Nat → Int32)) (k : Nat) (X : zCV) : zMap f k X 0 = X 0 := zMap_lo (by decide)
/-- the bit that comes into the chip k -/
def zInc (O : (Nat → Int32) → Int32) (X : zCV) (inp : Int32) : Nat → Int32
  | 0 => inp
  | k + 1 => O (X (k + 3))
def zShiftD (X : zCV) (inp : Int32) : zCV := zMap (fun k c => zShD c (zInc zDO X inp k)) (num X) X
def zShiftC (X : zCV) (inp : Int32) : zCV := zMap (fun k c => zShC c (zInc zCO X inp k)) (num X) X
def zWork (s : Int32) (c : Nat → Int32) : Nat → Int32 := if s = 0 then zFirst c else if s = 3 then zCap c else if s = 8 then zUpd c else if s = 10 then upd c 7 1 else if s = 15 then zGive c (c 7) else c
def zWorkAll (X : zCV) (inp : Int32) : zCV := if X 0 1 = 4 then zShiftD X inp else if X 0 1 = 11 then zShiftC X inp else zMap (fun _ c => zWork (X 0 1) c) (num X) X
def zTick (X : zCV) (md inp : Int32) : zCV := uj (zWorkAll X inp) 0 (upd (upd (X 0) 1 (zNx (stt X) md)) 2 (X 0 2 + 1))
def zOut (X : zCV) (inp : Int32) : Int32 := if X 0 1 = 4 then (if num X = 0 then inp else zDO (X (num X - 1 + 3))) else if X 0 1 = 11 then (if num X = 0 then inp else zCO (X (num X - 1 + 3))) else 1
theorem zWorkAll_0 (X : zCV) (inp : Int32) : zWorkAll X inp 0 = X 0 := by
  unfold zWorkAll zShiftD zShiftC
  repeat' split
  all_goals exact zMap_num _ _ _
def zSumL (f : (Nat → Int32) → Int32) (X : zCV) : Nat → Int32
  | 0 => 0
  | k + 1 => zSumL f X k + f (X (k + 3))
def zSum (f : (Nat → Int32) → Int32) (X : zCV) : Int32 := zSumL f X (num X)
def zBrk (c : Nat → Int32) : Int32 := if c 5 = 0 then 0 else 1
def zByp (c : Nat → Int32) : Int32 := if zselB c = 0 then 0 else 1
def zHas (X : zCV) (x : Int32) : Int32 := if x < 0 then 0 else if X 0 0 ≤ x then 0 else 1
def zAdd (X : zCV) (cl id ce : Int32) : zCV := uj (uj X (num X + 3) (zNew cl id ce)) 0 (upd (X 0) 0 (X 0 0 + 1))
/-- k chips behind p have moved up -/
def zTakL (X : zCV) (p k : Nat) : zCV := fun j => if j < 3 then X j else if p ≤ j - 3 ∧ j - 3 < p + k then X (j + 1) else X j
def zTake (X : zCV) (p : Nat) : zCV := uj (zTakL X p (num X - 1 - p)) 0 (upd (X 0) 0 (X 0 0 - 1))
theorem zTakL_z (X : zCV) (p : Nat) : zTakL X p 0 = X := by
  funext j
  unfold zTakL
  by_cases h : j < 3
  · rw [if_pos h]
  · rw [if_neg h, if_neg (by omega)]
theorem zTakL_s (X : zCV) (p k : Nat) : zTakL X p (k + 1) = uj (zTakL X p k) (p + k + 3) (X (p + k + 4)) := by
  funext j
  unfold uj zTakL
  by_cases hj : j = p + k + 3
  · subst hj
    rw [if_pos rfl, if_neg (by omega), if_pos (by omega)]
  · rw [if_neg hj]
    by_cases h : j < 3
    · rw [if_pos h, if_pos h]
    · rw [if_neg h, if_neg h]
      by_cases h2 : p ≤ j - 3 ∧ j - 3 < p + k
      · rw [if_pos h2, if_pos (by omega)]
      · rw [if_neg h2, if_neg (by omega)]
theorem zTakL_0 (X : zCV) (p k : Nat) : zTakL X p k 0 = X 0 := if_pos (by decide)
theorem zTakL_ge (X : zCV) {p k t : Nat} (h : p + k ≤ t) : zTakL X p k (t + 3) = X (t + 3) := by
  unfold zTakL
  rw [if_neg (by omega), if_neg (by omega)]
/-- Y, with what of X is alive -/
def zCopy (Y X : zCV) : zCV := fun j => if j = 0 then X 0 else if j = 2 then (fun k => if k < cnt X then X 2 k else Y 2 k) else if j < 3 then Y j else if j - 3 < num X then X j else Y j
def zForget (X : zCV) : zCV := uj X 0 (upd (X 0) 3 0)
def zKeep (X : zCV) (v : Int32) : zCV := uj (uj X 2 (upd (X 2) (cnt X) v)) 0 (upd (X 0) 3 (X 0 3 + 1))
theorem num_of {X : zCV} {n : Nat} (h : X 0 0 = nI n) (hn : n < 2 ^ 31) : num X = n := by
  unfold num
  rw [h, nI_clamp hn]
theorem nI_sub1 {n : Nat} (h : 0 < n) : nI n - 1 = nI (n - 1) := by
  obtain ⟨k, rfl⟩ : ∃ k, n = k + 1 := ⟨n - 1, by omega⟩
  exact nI_pred k
/-! rows that name one chip's value, and the other way -/
section ZK
variable {p : Program} {l : Launch} {e : Env} {R : Room} {s : State} {m : MethodId} {args : Array Value} {below : List Frame} {meth : Method} {c : Code} {nL : Nat} {G : zG} {Q : State → Prop} {cells slots n : Nat} {S S' : zS} {i : Nat} {X X' : zCV} {pc : Nat} {ls : List (Option Value)} {st : List Value}
theorem x_chip (t : Nat) (kk : Xh p l e R s m args below meth c nL G Q cells slots n (pic G (up S i (uj X (t + 3) (X (t + 3))))) pc ls st) : Xh p l e R s m args below meth c nL G Q cells slots n (pic G (up S i X)) pc ls st := by
  rw [uj_self] at kk
  exact kk
theorem x_unchip {t : Nat} (kk : Xh p l e R s m args below meth c nL G Q cells slots n (pic G (up S i X)) pc ls st) : Xh p l e R s m args below meth c nL G Q cells slots n (pic G (up S i (uj X (t + 3) (X (t + 3))))) pc ls st := by
  rw [uj_self]
  exact kk
theorem x_up (hX : X = X') (kk : Xh p l e R s m args below meth c nL G Q cells slots n (pic G (up S i X')) pc ls st) : Xh p l e R s m args below meth c nL G Q cells slots n (pic G (up S i X)) pc ls st := hX ▸ kk
theorem x_S (hS : S = S') (kk : Xh p l e R s m args below meth c nL G Q cells slots n (pic G S') pc ls st) : Xh p l e R s m args below meth c nL G Q cells slots n (pic G S) pc ls st := hS ▸ kk
end ZK
/-! another chain's cells, where one chain's value is named -/
section PC2
variable {G : zG} {S : zS} {i i2 : Nat} {Y : zCV}
theorem pcO2 (hi2 : i2 < 7) (h : i2 ≠ i) : pic G (up S i Y) i2 0 = .inr (0, [.ref (zad G i2 1), .int (S i2 0 0), .int (S i2 0 1), .int (S i2 0 2), .ref (zad G i2 2), .int (S i2 0 3)]) := by
  rw [pic_c hi2, up_ne _ _ h]; rfl
theorem pcI2 (hi2 : i2 < 7) (h : i2 ≠ i) : pic G (up S i Y) i2 2 = .inl (G.2.1 0, 8, .inl (tr 8 (S i2 2))) := by
  rw [pic_c hi2, up_ne _ _ h]; rfl
theorem pcCc (hi2 : i2 < 7) (t : Nat) : pic G S i2 (t + 3) = .inr (1, chipL (S i2 (t + 3))) := by
  rw [pic_c hi2]
  unfold picC
  rw [if_neg (by omega), if_neg (by omega), if_neg (by omega)]
end PC2
/-- the identities of the first k have been laid -/
def zCpI (Y X : zCV) (k : Nat) : zCV := uj Y 2 (fun q => if q < k then X 2 q else Y 2 q)
theorem zCpI_z (Y X : zCV) : zCpI Y X 0 = Y := by
  unfold zCpI
  have : (fun q => if q < 0 then X 2 q else Y 2 q) = Y 2 := by funext q; rw [if_neg (by omega)]
  rw [this, uj_self]
theorem zCpI_s (Y X : zCV) (k : Nat) : uj (zCpI Y X k) 2 (upd (zCpI Y X k 2) k (X 2 k)) = zCpI Y X (k + 1) := by
  unfold zCpI
  rw [uj_uj, uj_same]
  congr 1
  funext q
  by_cases hq : q = k
  · subst hq
    rw [upd_same, if_pos (by omega)]
  · rw [upd_ne _ _ hq]
    by_cases h : q < k
    · rw [if_pos h, if_pos (by omega)]
    · rw [if_neg h, if_neg (by omega)]
theorem zCopy_eq {Y X V : zCV} {f : Nat → (Nat → Int32) → (Nat → Int32)} {n : Nat} (hW : zWF X) (h0 : V 0 = upd (upd (upd (zMap f n Y 0) 0 (X 0 0)) 1 (X 0 1)) 2 (X 0 2)) (hn : ∀ j, j ≠ 0 → V j = zMap (fun t _ => X (t + 3)) (num X) Y j) : eqX (zCopy Y X) (uj (zCpI V X (cnt X)) 0 (upd (zCpI V X (cnt X) 0) 3 (X 0 3))) := by
  have h6 := hW.n6
  refine ⟨fun k hk => ?_, fun k hk => ?_, fun t ht k hk => ?_⟩
  · rw [uj_same]
    have hz : zCpI V X (cnt X) 0 = V 0 := uj_ne _ _ (by decide)
    rw [hz, h0]
    show X 0 k = _
    rcases (show k = 0 ∨ k = 1 ∨ k = 2 ∨ k = 3 by omega) with rfl | rfl | rfl | rfl <;> rfl
  · rw [uj_ne _ _ (by decide)]
    have hz : zCpI V X (cnt X) 2 = fun q => if q < cnt X then X 2 q else V 2 q := uj_same _ _ _
    rw [hz]
    have h2 : V 2 = Y 2 := by rw [hn 2 (by decide), zMap_lo (by decide)]
    rw [h2]
    rfl
  · rw [uj_ne _ _ (by omega)]
    have hz : zCpI V X (cnt X) (t + 3) = V (t + 3) := uj_ne _ _ (by omega)
    rw [hz, hn _ (by omega)]
    unfold zCopy
    rw [if_neg (by omega), if_neg (by omega), if_neg (by omega), Nat.add_sub_cancel]
    by_cases h : t < num X
    · rw [if_pos h, zMap_in h]
    · rw [if_neg h, zMap_out (by omega)]
/-! bounds stay -/
theorem cWF_upd {c : Nat → Int32} {k : Nat} {v : Int32} (h : cWF c) (hk : 6 ≤ k ∨ k = 3 ∨ k = 4) : cWF (upd c k v) := by
  unfold cWF at h ⊢
  rw [upd_ne _ _ (by omega), upd_ne _ _ (by omega), upd_ne _ _ (by omega), upd_ne _ _ (by omega)]
  exact h
theorem cWF_give {c : Nat → Int32} {v : Int32} (h : cWF c) : cWF (zGive c v) := cWF_upd (cWF_upd h (by omega)) (by omega)
theorem cWF_work {c : Nat → Int32} (s : Int32) (h : cWF c) : cWF (zWork s c) := by
  unfold zWork
  repeat' split
  · exact cWF_give h
  · exact cWF_upd h (by omega)
  · unfold zUpd
    split
    · exact cWF_upd h (by omega)
    · exact h
  · exact cWF_upd h (by omega)
  · exact cWF_give h
  · exact h
theorem zMap_WF {X : zCV} {f : Nat → (Nat → Int32) → (Nat → Int32)} {k : Nat} (h : zWF X) (hf : ∀ t c, cWF c → cWF (f t c)) : zWF (zMap f k X) := by
  have h0 : zMap f k X 0 = X 0 := zMap_num _ _ _
  obtain ⟨h1, h2, h3, h4⟩ := h
  unfold zWF num stt cnt at *
  rw [h0]
  refine ⟨h1, h2, h3, fun t ht => ?_⟩
  by_cases hk : t < k
  · rw [zMap_in hk]
    exact hf t _ (h4 t ht)
  · rw [zMap_out (by omega)]
    exact h4 t ht
end
section
set_option maxHeartbeats 4000000 in
set_option maxRecDepth 100000 in
theorem c_X0_brokenChips (l : Launch) (G : zG) (S : zS) (i : Nat) (hi : i < 7) (X : zCV) (hW : zWF X) : Met l yX0_brokenChips (zws yX0_brokenChips cX0_brokenChips 3 (some .int)) (zrm 0 0 0 0) (zPc G 75 (pic G (up S i X)) [.ref (zad G i 0)]) (zQi G 75 (zSum (zBrk) X) (pic G (up S i (X)))) 0 0 (zA G) := by
  refine zMet npX0_brokenChips rfl (Nat.le_of_ble_eq_true rfl) ?_
  intro p e s m args below meth cd hargs cx hr hin0
  have cx : Cx p s m args meth cd cX0_brokenChips 3 RX0 G := cx
  refine x_ls (ls' := [some (.ref (zad G i 0)), none, none]) rfl (fun _ h => h) ?_
  refine x_iconst (v := 0) cx dX0_brokenChips_0 (by decide) ?_
  refine x_istore_n (ls' := [_, _, _]) cx dX0_brokenChips_1 rfl (by decide) rfl ?_
  refine x_iconst (v := 0) cx dX0_brokenChips_2 (by decide) ?_
  refine x_istore_n (ls' := [_, _, _]) cx dX0_brokenChips_3 rfl (by decide) rfl ?_
  have h6 := hW.n6
  suffices K : ∀ f k : Nat, k + f = num X → Xh p l e _ s m args below meth cd 3 G _ 0 0 75 (pic G (up S i X)) 4 [some (.ref (zad G i 0)), some (.int (zSumL (zBrk) X k)), some (.int (nI k))] [] from K (num X) 0 (by omega)
  intro f
  induction f with
  | zero =>
    intro k hk
    obtain rfl : k = num X := by omega
    refine x_iload_n cx dX0_brokenChips_4 rfl rfl ?_
    refine x_aload_n cx dX0_brokenChips_5 rfl rfl ?_
    refine x_getX0 cx 1 (by decide) (fl_X0_18 cx) (zok_c hi (by decide)) (zix_c hi (by decide)) (pcO hi) rfl dX0_brokenChips_6 ?_
    refine x_eqi hW.sz ?_
    refine x_icmp_ge_t (tgt := 38) cx dX0_brokenChips_9 (by decide) (nI_le (Nat.le_refl _) (by omega)) ?_
    refine x_iload_n cx dX0_brokenChips_38 rfl rfl ?_
    exact x_iret cx hr rfl (fun _ _ _ _ => rfl) dX0_brokenChips_39
  | succ f ih =>
    intro k hk
    refine x_iload_n cx dX0_brokenChips_4 rfl rfl ?_
    refine x_aload_n cx dX0_brokenChips_5 rfl rfl ?_
    refine x_getX0 cx 1 (by decide) (fl_X0_18 cx) (zok_c hi (by decide)) (zix_c hi (by decide)) (pcO hi) rfl dX0_brokenChips_6 ?_
    refine x_eqi hW.sz ?_
    refine x_icmp_ge_f (tgt := 38) cx dX0_brokenChips_9 (by decide) (nI_ge (by omega) (by omega)) ?_
    refine x_iload_n cx dX0_brokenChips_12 rfl rfl ?_
    refine x_aload_n cx dX0_brokenChips_13 rfl rfl ?_
    refine x_getX0 cx 0 (by decide) (fl_X0_11 cx) (zok_c hi (by decide)) (zix_c hi (by decide)) (pcO hi) rfl dX0_brokenChips_14 ?_
    refine x_iload_n cx dX0_brokenChips_17 rfl rfl ?_
    refine x_aald (t := k) cx 2 rfl (zok_c hi (by decide)) (zix_c hi (by decide)) (pcA hi) rfl (by omega) (by decide) rfl dX0_brokenChips_18 ?_
    refine x_getX1 cx 5 (by decide) (fl_X0_48 cx) (zok_c hi (by omega)) (zix_c hi (by omega)) (pcC hi _) rfl dX0_brokenChips_19 ?_
    refine x_if_eq (tgt := 29) cx dX0_brokenChips_22 (by decide) (fun hb22 => ?_) (fun hb22 => ?_)
    · refine x_iconst (v := 0) cx dX0_brokenChips_29 (by decide) ?_
      refine x_iadd cx dX0_brokenChips_30 ?_
      refine x_istore_n (ls' := [_, _, _]) cx dX0_brokenChips_31 rfl (by decide) rfl ?_
      refine x_iinc (v := nI (k + 1)) (ls' := [_, _, _]) cx dX0_brokenChips_32 rfl (nI_inc _) (by decide) rfl ?_
      refine x_goto (tgt := 4) cx dX0_brokenChips_35 (by decide) ?_
      have h9 := ih (k + 1) (by omega)
      rw [zSumL, zBrk, if_pos hb22] at h9
      exact h9
    · refine x_iconst (v := 1) cx dX0_brokenChips_25 (by decide) ?_
      refine x_goto (tgt := 30) cx dX0_brokenChips_26 (by decide) ?_
      refine x_iadd cx dX0_brokenChips_30 ?_
      refine x_istore_n (ls' := [_, _, _]) cx dX0_brokenChips_31 rfl (by decide) rfl ?_
      refine x_iinc (v := nI (k + 1)) (ls' := [_, _, _]) cx dX0_brokenChips_32 rfl (nI_inc _) (by decide) rfl ?_
      refine x_goto (tgt := 4) cx dX0_brokenChips_35 (by decide) ?_
      have h9 := ih (k + 1) (by omega)
      rw [zSumL, zBrk, if_neg hb22] at h9
      exact h9

set_option maxHeartbeats 4000000 in
set_option maxRecDepth 100000 in
theorem c_X0_bypassedChips (l : Launch) (G : zG) (S : zS) (i : Nat) (hi : i < 7) (X : zCV) (hW : zWF X) : Met l yX0_bypassedChips (zws yX0_bypassedChips cX0_bypassedChips 3 (some .int)) (zrm 2 0 0 40) (zPc G 75 (pic G (up S i X)) [.ref (zad G i 0)]) (zQi G 75 (zSum (zByp) X) (pic G (up S i (X)))) 0 0 (zA G) := by
  refine zMet npX0_bypassedChips rfl (Nat.le_of_ble_eq_true rfl) ?_
  intro p e s m args below meth cd hargs cx hr hin0
  have cx : Cx p s m args meth cd cX0_bypassedChips 3 RX0 G := cx
  refine x_ls (ls' := [some (.ref (zad G i 0)), none, none]) rfl (fun _ h => h) ?_
  refine x_iconst (v := 0) cx dX0_bypassedChips_0 (by decide) ?_
  refine x_istore_n (ls' := [_, _, _]) cx dX0_bypassedChips_1 rfl (by decide) rfl ?_
  refine x_iconst (v := 0) cx dX0_bypassedChips_2 (by decide) ?_
  refine x_istore_n (ls' := [_, _, _]) cx dX0_bypassedChips_3 rfl (by decide) rfl ?_
  have h6 := hW.n6
  suffices K : ∀ f k : Nat, k + f = num X → Xh p l e _ s m args below meth cd 3 G _ 0 0 75 (pic G (up S i X)) 4 [some (.ref (zad G i 0)), some (.int (zSumL (zByp) X k)), some (.int (nI k))] [] from K (num X) 0 (by omega)
  intro f
  induction f with
  | zero =>
    intro k hk
    obtain rfl : k = num X := by omega
    refine x_iload_n cx dX0_bypassedChips_4 rfl rfl ?_
    refine x_aload_n cx dX0_bypassedChips_5 rfl rfl ?_
    refine x_getX0 cx 1 (by decide) (fl_X0_18 cx) (zok_c hi (by decide)) (zix_c hi (by decide)) (pcO hi) rfl dX0_bypassedChips_6 ?_
    refine x_eqi hW.sz ?_
    refine x_icmp_ge_t (tgt := 38) cx dX0_bypassedChips_9 (by decide) (nI_le (Nat.le_refl _) (by omega)) ?_
    refine x_iload_n cx dX0_bypassedChips_38 rfl rfl ?_
    exact x_iret cx hr rfl (fun _ _ _ _ => rfl) dX0_bypassedChips_39
  | succ f ih =>
    intro k hk
    refine x_iload_n cx dX0_bypassedChips_4 rfl rfl ?_
    refine x_aload_n cx dX0_bypassedChips_5 rfl rfl ?_
    refine x_getX0 cx 1 (by decide) (fl_X0_18 cx) (zok_c hi (by decide)) (zix_c hi (by decide)) (pcO hi) rfl dX0_bypassedChips_6 ?_
    refine x_eqi hW.sz ?_
    refine x_icmp_ge_f (tgt := 38) cx dX0_bypassedChips_9 (by decide) (nI_ge (by omega) (by omega)) ?_
    refine x_iload_n cx dX0_bypassedChips_12 rfl rfl ?_
    refine x_aload_n cx dX0_bypassedChips_13 rfl rfl ?_
    refine x_getX0 cx 0 (by decide) (fl_X0_11 cx) (zok_c hi (by decide)) (zix_c hi (by decide)) (pcO hi) rfl dX0_bypassedChips_14 ?_
    refine x_iload_n cx dX0_bypassedChips_17 rfl rfl ?_
    refine x_aald (t := k) cx 2 rfl (zok_c hi (by decide)) (zix_c hi (by decide)) (pcA hi) rfl (by omega) (by decide) rfl dX0_bypassedChips_18 ?_
    refine x_chip k ?_
    refine x_Vi (C := RX1) (T := TX1) (N := 9) (rest := [_]) cx (c_X1_selectsBypass l G _ i k hi (by omega) _ _) gV_X0_52 ndX1_selectsBypass rfl ⟨Nat.le_of_ble_eq_true rfl, Nat.le_of_ble_eq_true rfl⟩ (zok_c hi (by omega)) (zix_c hi (by omega)) (pcC hi _) rfl rfl rfl (Nat.le_of_ble_eq_true rfl) dX0_bypassedChips_19 ⟨Nat.le_of_ble_eq_true rfl, Nat.le_of_ble_eq_true rfl⟩ ?_
    refine x_unchip ?_
    refine x_if_eq (tgt := 29) cx dX0_bypassedChips_22 (by decide) (fun hb22 => ?_) (fun hb22 => ?_)
    · refine x_iconst (v := 0) cx dX0_bypassedChips_29 (by decide) ?_
      refine x_iadd cx dX0_bypassedChips_30 ?_
      refine x_istore_n (ls' := [_, _, _]) cx dX0_bypassedChips_31 rfl (by decide) rfl ?_
      refine x_iinc (v := nI (k + 1)) (ls' := [_, _, _]) cx dX0_bypassedChips_32 rfl (nI_inc _) (by decide) rfl ?_
      refine x_goto (tgt := 4) cx dX0_bypassedChips_35 (by decide) ?_
      have h9 := ih (k + 1) (by omega)
      rw [zSumL, zByp, if_pos hb22] at h9
      exact h9
    · refine x_iconst (v := 1) cx dX0_bypassedChips_25 (by decide) ?_
      refine x_goto (tgt := 30) cx dX0_bypassedChips_26 (by decide) ?_
      refine x_iadd cx dX0_bypassedChips_30 ?_
      refine x_istore_n (ls' := [_, _, _]) cx dX0_bypassedChips_31 rfl (by decide) rfl ?_
      refine x_iinc (v := nI (k + 1)) (ls' := [_, _, _]) cx dX0_bypassedChips_32 rfl (nI_inc _) (by decide) rfl ?_
      refine x_goto (tgt := 4) cx dX0_bypassedChips_35 (by decide) ?_
      have h9 := ih (k + 1) (by omega)
      rw [zSumL, zByp, if_neg hb22] at h9
      exact h9

set_option maxHeartbeats 4000000 in
set_option maxRecDepth 100000 in
theorem c_X0_sumOfCodeLengths (l : Launch) (G : zG) (S : zS) (i : Nat) (hi : i < 7) (X : zCV) (hW : zWF X) : Met l yX0_sumOfCodeLengths (zws yX0_sumOfCodeLengths cX0_sumOfCodeLengths 3 (some .int)) (zrm 0 0 0 0) (zPc G 75 (pic G (up S i X)) [.ref (zad G i 0)]) (zQi G 75 (zSum (fun c => c 0) X) (pic G (up S i (X)))) 0 0 (zA G) := by
  refine zMet npX0_sumOfCodeLengths rfl (Nat.le_of_ble_eq_true rfl) ?_
  intro p e s m args below meth cd hargs cx hr hin0
  have cx : Cx p s m args meth cd cX0_sumOfCodeLengths 3 RX0 G := cx
  refine x_ls (ls' := [some (.ref (zad G i 0)), none, none]) rfl (fun _ h => h) ?_
  refine x_iconst (v := 0) cx dX0_sumOfCodeLengths_0 (by decide) ?_
  refine x_istore_n (ls' := [_, _, _]) cx dX0_sumOfCodeLengths_1 rfl (by decide) rfl ?_
  refine x_iconst (v := 0) cx dX0_sumOfCodeLengths_2 (by decide) ?_
  refine x_istore_n (ls' := [_, _, _]) cx dX0_sumOfCodeLengths_3 rfl (by decide) rfl ?_
  have h6 := hW.n6
  suffices K : ∀ f k : Nat, k + f = num X → Xh p l e _ s m args below meth cd 3 G _ 0 0 75 (pic G (up S i X)) 4 [some (.ref (zad G i 0)), some (.int (zSumL (fun c => c 0) X k)), some (.int (nI k))] [] from K (num X) 0 (by omega)
  intro f
  induction f with
  | zero =>
    intro k hk
    obtain rfl : k = num X := by omega
    refine x_iload_n cx dX0_sumOfCodeLengths_4 rfl rfl ?_
    refine x_aload_n cx dX0_sumOfCodeLengths_5 rfl rfl ?_
    refine x_getX0 cx 1 (by decide) (fl_X0_18 cx) (zok_c hi (by decide)) (zix_c hi (by decide)) (pcO hi) rfl dX0_sumOfCodeLengths_6 ?_
    refine x_eqi hW.sz ?_
    refine x_icmp_ge_t (tgt := 30) cx dX0_sumOfCodeLengths_9 (by decide) (nI_le (Nat.le_refl _) (by omega)) ?_
    refine x_iload_n cx dX0_sumOfCodeLengths_30 rfl rfl ?_
    exact x_iret cx hr rfl (fun _ _ _ _ => rfl) dX0_sumOfCodeLengths_31
  | succ f ih =>
    intro k hk
    refine x_iload_n cx dX0_sumOfCodeLengths_4 rfl rfl ?_
    refine x_aload_n cx dX0_sumOfCodeLengths_5 rfl rfl ?_
    refine x_getX0 cx 1 (by decide) (fl_X0_18 cx) (zok_c hi (by decide)) (zix_c hi (by decide)) (pcO hi) rfl dX0_sumOfCodeLengths_6 ?_
    refine x_eqi hW.sz ?_
    refine x_icmp_ge_f (tgt := 30) cx dX0_sumOfCodeLengths_9 (by decide) (nI_ge (by omega) (by omega)) ?_
    refine x_iload_n cx dX0_sumOfCodeLengths_12 rfl rfl ?_
    refine x_aload_n cx dX0_sumOfCodeLengths_13 rfl rfl ?_
    refine x_getX0 cx 0 (by decide) (fl_X0_11 cx) (zok_c hi (by decide)) (zix_c hi (by decide)) (pcO hi) rfl dX0_sumOfCodeLengths_14 ?_
    refine x_iload_n cx dX0_sumOfCodeLengths_17 rfl rfl ?_
    refine x_aald (t := k) cx 2 rfl (zok_c hi (by decide)) (zix_c hi (by decide)) (pcA hi) rfl (by omega) (by decide) rfl dX0_sumOfCodeLengths_18 ?_
    refine x_getX1 cx 0 (by decide) (fl_X0_56 cx) (zok_c hi (by omega)) (zix_c hi (by omega)) (pcC hi _) rfl dX0_sumOfCodeLengths_19 ?_
    refine x_iadd cx dX0_sumOfCodeLengths_22 ?_
    refine x_istore_n (ls' := [_, _, _]) cx dX0_sumOfCodeLengths_23 rfl (by decide) rfl ?_
    refine x_iinc (v := nI (k + 1)) (ls' := [_, _, _]) cx dX0_sumOfCodeLengths_24 rfl (nI_inc _) (by decide) rfl ?_
    refine x_goto (tgt := 4) cx dX0_sumOfCodeLengths_27 (by decide) ?_
    exact ih (k + 1) (by omega)

set_option maxHeartbeats 4000000 in
set_option maxRecDepth 100000 in
theorem c_X0_sumOfDataBits (l : Launch) (G : zG) (S : zS) (i : Nat) (hi : i < 7) (X : zCV) (hW : zWF X) : Met l yX0_sumOfDataBits (zws yX0_sumOfDataBits cX0_sumOfDataBits 3 (some .int)) (zrm 2 0 0 40) (zPc G 75 (pic G (up S i X)) [.ref (zad G i 0)]) (zQi G 75 (zSum (zBits) X) (pic G (up S i (X)))) 0 0 (zA G) := by
  refine zMet npX0_sumOfDataBits rfl (Nat.le_of_ble_eq_true rfl) ?_
  intro p e s m args below meth cd hargs cx hr hin0
  have cx : Cx p s m args meth cd cX0_sumOfDataBits 3 RX0 G := cx
  refine x_ls (ls' := [some (.ref (zad G i 0)), none, none]) rfl (fun _ h => h) ?_
  refine x_iconst (v := 0) cx dX0_sumOfDataBits_0 (by decide) ?_
  refine x_istore_n (ls' := [_, _, _]) cx dX0_sumOfDataBits_1 rfl (by decide) rfl ?_
  refine x_iconst (v := 0) cx dX0_sumOfDataBits_2 (by decide) ?_
  refine x_istore_n (ls' := [_, _, _]) cx dX0_sumOfDataBits_3 rfl (by decide) rfl ?_
  have h6 := hW.n6
  suffices K : ∀ f k : Nat, k + f = num X → Xh p l e _ s m args below meth cd 3 G _ 0 0 75 (pic G (up S i X)) 4 [some (.ref (zad G i 0)), some (.int (zSumL (zBits) X k)), some (.int (nI k))] [] from K (num X) 0 (by omega)
  intro f
  induction f with
  | zero =>
    intro k hk
    obtain rfl : k = num X := by omega
    refine x_iload_n cx dX0_sumOfDataBits_4 rfl rfl ?_
    refine x_aload_n cx dX0_sumOfDataBits_5 rfl rfl ?_
    refine x_getX0 cx 1 (by decide) (fl_X0_18 cx) (zok_c hi (by decide)) (zix_c hi (by decide)) (pcO hi) rfl dX0_sumOfDataBits_6 ?_
    refine x_eqi hW.sz ?_
    refine x_icmp_ge_t (tgt := 30) cx dX0_sumOfDataBits_9 (by decide) (nI_le (Nat.le_refl _) (by omega)) ?_
    refine x_iload_n cx dX0_sumOfDataBits_30 rfl rfl ?_
    exact x_iret cx hr rfl (fun _ _ _ _ => rfl) dX0_sumOfDataBits_31
  | succ f ih =>
    intro k hk
    refine x_iload_n cx dX0_sumOfDataBits_4 rfl rfl ?_
    refine x_aload_n cx dX0_sumOfDataBits_5 rfl rfl ?_
    refine x_getX0 cx 1 (by decide) (fl_X0_18 cx) (zok_c hi (by decide)) (zix_c hi (by decide)) (pcO hi) rfl dX0_sumOfDataBits_6 ?_
    refine x_eqi hW.sz ?_
    refine x_icmp_ge_f (tgt := 30) cx dX0_sumOfDataBits_9 (by decide) (nI_ge (by omega) (by omega)) ?_
    refine x_iload_n cx dX0_sumOfDataBits_12 rfl rfl ?_
    refine x_aload_n cx dX0_sumOfDataBits_13 rfl rfl ?_
    refine x_getX0 cx 0 (by decide) (fl_X0_11 cx) (zok_c hi (by decide)) (zix_c hi (by decide)) (pcO hi) rfl dX0_sumOfDataBits_14 ?_
    refine x_iload_n cx dX0_sumOfDataBits_17 rfl rfl ?_
    refine x_aald (t := k) cx 2 rfl (zok_c hi (by decide)) (zix_c hi (by decide)) (pcA hi) rfl (by omega) (by decide) rfl dX0_sumOfDataBits_18 ?_
    refine x_chip k ?_
    refine x_Vi (C := RX1) (T := TX1) (N := 9) (rest := [_]) cx (c_X1_dataBits l G _ i k hi (by omega) _ _) gV_X0_59 ndX1_dataBits rfl ⟨Nat.le_of_ble_eq_true rfl, Nat.le_of_ble_eq_true rfl⟩ (zok_c hi (by omega)) (zix_c hi (by omega)) (pcC hi _) rfl rfl rfl (Nat.le_of_ble_eq_true rfl) dX0_sumOfDataBits_19 ⟨Nat.le_of_ble_eq_true rfl, Nat.le_of_ble_eq_true rfl⟩ ?_
    refine x_unchip ?_
    refine x_iadd cx dX0_sumOfDataBits_22 ?_
    refine x_istore_n (ls' := [_, _, _]) cx dX0_sumOfDataBits_23 rfl (by decide) rfl ?_
    refine x_iinc (v := nI (k + 1)) (ls' := [_, _, _]) cx dX0_sumOfDataBits_24 rfl (nI_inc _) (by decide) rfl ?_
    refine x_goto (tgt := 4) cx dX0_sumOfDataBits_27 (by decide) ?_
    exact ih (k + 1) (by omega)

set_option maxHeartbeats 4000000 in
set_option maxRecDepth 100000 in
theorem c_X0_has (l : Launch) (G : zG) (S : zS) (i : Nat) (hi : i < 7) (X : zCV) (hW : zWF X) (x : Int32) : Met l yX0_has (zws yX0_has cX0_has 2 (some .boolean)) (zrm 0 0 0 0) (zPc G 75 (pic G (up S i X)) [.ref (zad G i 0), .int x]) (zQi G 75 (zHas X x) (pic G (up S i (X)))) 0 0 (zA G) := by
  refine zMet npX0_has rfl (Nat.le_of_ble_eq_true rfl) ?_
  intro p e s m args below meth cd hargs cx hr hin0
  have cx : Cx p s m args meth cd cX0_has 2 RX0 G := cx
  refine x_ls (ls' := [some (.ref (zad G i 0)), some (.int x)]) rfl (fun _ h => h) ?_
  refine x_iload_n cx dX0_has_0 rfl rfl ?_
  refine x_if_lt (tgt := 16) cx dX0_has_1 (by decide) (fun hb1 => ?_) (fun hb1 => ?_)
  · refine x_iconst (v := 0) cx dX0_has_16 (by decide) ?_
    exact x_zret cx hr (by simp [zHas, hb1]) (by first | exact Or.inl rfl | exact Or.inr rfl) (fun _ _ _ _ => rfl) dX0_has_17
  · refine x_iload_n cx dX0_has_4 rfl rfl ?_
    refine x_aload_n cx dX0_has_5 rfl rfl ?_
    refine x_getX0 cx 1 (by decide) (fl_X0_18 cx) (zok_c hi (by decide)) (zix_c hi (by decide)) (pcO hi) rfl dX0_has_6 ?_
    refine x_icmp_ge (tgt := 16) cx dX0_has_9 (by decide) (fun hb9 => ?_) (fun hb9 => ?_)
    · refine x_iconst (v := 0) cx dX0_has_16 (by decide) ?_
      exact x_zret cx hr (by simp [zHas, hb1, hb9]) (by first | exact Or.inl rfl | exact Or.inr rfl) (fun _ _ _ _ => rfl) dX0_has_17
    · refine x_iconst (v := 1) cx dX0_has_12 (by decide) ?_
      refine x_goto (tgt := 17) cx dX0_has_13 (by decide) ?_
      exact x_zret cx hr (by simp [zHas, hb1, hb9]) (by first | exact Or.inl rfl | exact Or.inr rfl) (fun _ _ _ _ => rfl) dX0_has_17

set_option maxHeartbeats 4000000 in
set_option maxRecDepth 100000 in
theorem c_X0_forgetIdentities (l : Launch) (G : zG) (S : zS) (i : Nat) (hi : i < 7) (X : zCV) (hW : zWF X) : Met l yX0_forgetIdentities (zws yX0_forgetIdentities cX0_forgetIdentities 1 none) (zrm 0 0 0 0) (zPc G 75 (pic G (up S i X)) [.ref (zad G i 0)]) (zQv G 75 (pic G (up S i (zForget X)))) 0 0 (zA G) := by
  refine zMet npX0_forgetIdentities rfl (Nat.le_of_ble_eq_true rfl) ?_
  intro p e s m args below meth cd hargs cx hr hin0
  have cx : Cx p s m args meth cd cX0_forgetIdentities 1 RX0 G := cx
  refine x_ls (ls' := [some (.ref (zad G i 0))]) rfl (fun _ h => h) ?_
  refine x_aload_n cx dX0_forgetIdentities_0 rfl rfl ?_
  refine x_iconst (v := 0) cx dX0_forgetIdentities_1 (by decide) ?_
  refine x_putX0 cx 5 (by decide) (fl_X0_34 cx) (zok_c hi (by decide)) (zix_c hi (by decide)) (pcO hi) rfl rfl rfl (Nat.le_of_ble_eq_true rfl) (ppO3 hi) dX0_forgetIdentities_2 ?_
  exact x_vret cx hr (fun _ _ _ _ => rfl) dX0_forgetIdentities_5

set_option maxHeartbeats 4000000 in
set_option maxRecDepth 100000 in
theorem c_X0_keepIdentity (l : Launch) (G : zG) (S : zS) (i : Nat) (hi : i < 7) (X : zCV) (hW : zWF X) (hc8 : cnt X < 8) (v : Int32) : Met l yX0_keepIdentity (zws yX0_keepIdentity cX0_keepIdentity 2 none) (zrm 0 0 0 0) (zPc G 75 (pic G (up S i X)) [.ref (zad G i 0), .int v]) (zQv G 75 (pic G (up S i (zKeep X v)))) 0 0 (zA G) := by
  refine zMet npX0_keepIdentity rfl (Nat.le_of_ble_eq_true rfl) ?_
  intro p e s m args below meth cd hargs cx hr hin0
  have cx : Cx p s m args meth cd cX0_keepIdentity 2 RX0 G := cx
  refine x_ls (ls' := [some (.ref (zad G i 0)), some (.int v)]) rfl (fun _ h => h) ?_
  refine x_aload_n cx dX0_keepIdentity_0 rfl rfl ?_
  refine x_getX0 cx 5 (by decide) (fl_X0_34 cx) (zok_c hi (by decide)) (zix_c hi (by decide)) (pcO hi) rfl dX0_keepIdentity_1 ?_
  refine x_eqi hW.c3 ?_
  refine x_aload_n cx dX0_keepIdentity_4 rfl rfl ?_
  refine x_getX0 cx 4 (by decide) (fl_X0_30 cx) (zok_c hi (by decide)) (zix_c hi (by decide)) (pcO hi) rfl dX0_keepIdentity_5 ?_
  refine x_aleni cx 0 rfl (zok_c hi (by decide)) (zix_c hi (by decide)) (pcI hi) dX0_keepIdentity_8 ?_
  refine x_icmp_ge_f (tgt := 32) cx dX0_keepIdentity_9 (by decide) (nI_ge (b := 8) hc8 (by decide)) ?_
  refine x_aload_n cx dX0_keepIdentity_12 rfl rfl ?_
  refine x_getX0 cx 4 (by decide) (fl_X0_30 cx) (zok_c hi (by decide)) (zix_c hi (by decide)) (pcO hi) rfl dX0_keepIdentity_13 ?_
  refine x_aload_n cx dX0_keepIdentity_16 rfl rfl ?_
  refine x_getX0 cx 5 (by decide) (fl_X0_34 cx) (zok_c hi (by decide)) (zix_c hi (by decide)) (pcO hi) rfl dX0_keepIdentity_17 ?_
  refine x_iload_n cx dX0_keepIdentity_20 rfl rfl ?_
  refine x_iast (t := (cnt X)) cx (zok_c hi (by decide)) (zix_c hi (by decide)) (pcI hi) hW.c3 hc8 (by decide) (ppI hi hc8) dX0_keepIdentity_21 ?_
  refine x_aload_n cx dX0_keepIdentity_22 rfl rfl ?_
  refine x_dup cx dX0_keepIdentity_23 rfl ?_
  refine x_getX0 cx 5 (by decide) (fl_X0_34 cx) (zok_c hi (by decide)) (zix_c hi (by decide)) (pcO hi) rfl dX0_keepIdentity_24 ?_
  refine x_iconst (v := 1) cx dX0_keepIdentity_27 (by decide) ?_
  refine x_iadd cx dX0_keepIdentity_28 ?_
  refine x_putX0 cx 5 (by decide) (fl_X0_34 cx) (zok_c hi (by decide)) (zix_c hi (by decide)) (pcO hi) rfl rfl rfl (Nat.le_of_ble_eq_true rfl) (ppO3 hi) dX0_keepIdentity_29 ?_
  exact x_vret cx hr (fun _ _ _ _ => rfl) dX0_keepIdentity_32

set_option maxHeartbeats 4000000 in
set_option maxRecDepth 100000 in
theorem c_X0_outputWith (l : Launch) (G : zG) (S : zS) (i : Nat) (hi : i < 7) (X : zCV) (hW : zWF X) (x : Int32) : Met l yX0_outputWith (zws yX0_outputWith cX0_outputWith 3 (some .int)) (zrm 1 0 0 20) (zPc G 75 (pic G (up S i X)) [.ref (zad G i 0), .int x]) (zQi G 75 (zOut X x) (pic G (up S i (X)))) 0 0 (zA G) := by
  refine zMet npX0_outputWith rfl (Nat.le_of_ble_eq_true rfl) ?_
  intro p e s m args below meth cd hargs cx hr hin0
  have cx : Cx p s m args meth cd cX0_outputWith 3 RX0 G := cx
  refine x_ls (ls' := [some (.ref (zad G i 0)), some (.int x), none]) rfl (fun _ h => h) ?_
  have h6 := hW.n6
  have hz : 0 < X 0 0 ↔ 0 < num X := by rw [hW.sz]; exact nI_ltI (a := 0) (by decide) (by omega)
  refine x_aload_n cx dX0_outputWith_0 rfl rfl ?_
  refine x_getX0 cx 2 (by decide) (fl_X0_24 cx) (zok_c hi (by decide)) (zix_c hi (by decide)) (pcO hi) rfl dX0_outputWith_1 ?_
  refine x_iconst (v := 4) cx dX0_outputWith_4 (by decide) ?_
  refine x_icmp_eq (tgt := 19) cx dX0_outputWith_5 (by decide) (fun hb5 => ?_) (fun hb5 => ?_)
  · refine x_aload_n cx dX0_outputWith_19 rfl rfl ?_
    refine x_getX0 cx 1 (by decide) (fl_X0_18 cx) (zok_c hi (by decide)) (zix_c hi (by decide)) (pcO hi) rfl dX0_outputWith_20 ?_
    refine x_if_gt (tgt := 28) cx dX0_outputWith_23 (by decide) (fun hb23 => ?_) (fun hb23 => ?_)
    · refine x_aload_n cx dX0_outputWith_28 rfl rfl ?_
      refine x_getX0 cx 0 (by decide) (fl_X0_11 cx) (zok_c hi (by decide)) (zix_c hi (by decide)) (pcO hi) rfl dX0_outputWith_29 ?_
      refine x_aload_n cx dX0_outputWith_32 rfl rfl ?_
      refine x_getX0 cx 1 (by decide) (fl_X0_18 cx) (zok_c hi (by decide)) (zix_c hi (by decide)) (pcO hi) rfl dX0_outputWith_33 ?_
      refine x_iconst (v := 1) cx dX0_outputWith_36 (by decide) ?_
      refine x_isub cx dX0_outputWith_37 ?_
      refine x_aald (t := (num X - 1)) cx 2 rfl (zok_c hi (by decide)) (zix_c hi (by decide)) (pcA hi) (by rw [hW.sz]; exact nI_sub1 (by rw [hz] at hb23; omega)) (by rw [hz] at hb23; omega) (by decide) rfl dX0_outputWith_38 ?_
      refine x_astore_n (ls' := [_, _, _]) cx dX0_outputWith_39 rfl (by decide) rfl ?_
      refine x_aload_n cx dX0_outputWith_40 rfl rfl ?_
      refine x_getX0 cx 2 (by decide) (fl_X0_24 cx) (zok_c hi (by decide)) (zix_c hi (by decide)) (pcO hi) rfl dX0_outputWith_41 ?_
      refine x_iconst (v := 4) cx dX0_outputWith_44 (by decide) ?_
      refine x_icmp_ne (tgt := 55) cx dX0_outputWith_45 (by decide) (fun hb45 => ?_) (fun hb45 => ?_)
      · refine x_aload_n cx dX0_outputWith_55 rfl rfl ?_
        refine x_chip (num X - 1) ?_
        refine x_Vi (C := RX1) (T := TX1) (N := 9) (rest := []) cx (c_X1_codeOutput l G _ i (num X - 1) hi (by omega) _ _) gV_X0_78 ndX1_codeOutput rfl ⟨Nat.le_of_ble_eq_true rfl, Nat.le_of_ble_eq_true rfl⟩ (zok_c hi (by omega)) (zix_c hi (by omega)) (pcC hi _) rfl rfl rfl (Nat.le_of_ble_eq_true rfl) dX0_outputWith_56 ⟨Nat.le_of_ble_eq_true rfl, Nat.le_of_ble_eq_true rfl⟩ ?_
        refine x_unchip ?_
        exact x_iret cx hr (by have hn : ¬ num X = 0 := (by rw [hz] at hb23; omega); first | contradiction | (unfold zOut; rw [if_pos hb5, if_neg hn])) (fun _ _ _ _ => rfl) dX0_outputWith_59
      · refine x_aload_n cx dX0_outputWith_48 rfl rfl ?_
        refine x_chip (num X - 1) ?_
        refine x_Vi (C := RX1) (T := TX1) (N := 9) (rest := []) cx (c_X1_dataOutput l G _ i (num X - 1) hi (by omega) _ _) gV_X0_75 ndX1_dataOutput rfl ⟨Nat.le_of_ble_eq_true rfl, Nat.le_of_ble_eq_true rfl⟩ (zok_c hi (by omega)) (zix_c hi (by omega)) (pcC hi _) rfl rfl rfl (Nat.le_of_ble_eq_true rfl) dX0_outputWith_49 ⟨Nat.le_of_ble_eq_true rfl, Nat.le_of_ble_eq_true rfl⟩ ?_
        refine x_unchip ?_
        refine x_goto (tgt := 59) cx dX0_outputWith_52 (by decide) ?_
        exact x_iret cx hr (by have hn : ¬ num X = 0 := (by rw [hz] at hb23; omega); first | contradiction | (unfold zOut; rw [if_pos hb5, if_neg hn])) (fun _ _ _ _ => rfl) dX0_outputWith_59
    · refine x_iload_n cx dX0_outputWith_26 rfl rfl ?_
      exact x_iret cx hr (by have hn : num X = 0 := (by rw [hz] at hb23; omega); first | contradiction | (unfold zOut; rw [if_pos hb5, if_pos hn])) (fun _ _ _ _ => rfl) dX0_outputWith_27
  · refine x_aload_n cx dX0_outputWith_8 rfl rfl ?_
    refine x_getX0 cx 2 (by decide) (fl_X0_24 cx) (zok_c hi (by decide)) (zix_c hi (by decide)) (pcO hi) rfl dX0_outputWith_9 ?_
    refine x_bipush (v := 11) cx dX0_outputWith_12 (by decide) ?_
    refine x_icmp_eq (tgt := 19) cx dX0_outputWith_14 (by decide) (fun hb14 => ?_) (fun hb14 => ?_)
    · refine x_aload_n cx dX0_outputWith_19 rfl rfl ?_
      refine x_getX0 cx 1 (by decide) (fl_X0_18 cx) (zok_c hi (by decide)) (zix_c hi (by decide)) (pcO hi) rfl dX0_outputWith_20 ?_
      refine x_if_gt (tgt := 28) cx dX0_outputWith_23 (by decide) (fun hb23 => ?_) (fun hb23 => ?_)
      · refine x_aload_n cx dX0_outputWith_28 rfl rfl ?_
        refine x_getX0 cx 0 (by decide) (fl_X0_11 cx) (zok_c hi (by decide)) (zix_c hi (by decide)) (pcO hi) rfl dX0_outputWith_29 ?_
        refine x_aload_n cx dX0_outputWith_32 rfl rfl ?_
        refine x_getX0 cx 1 (by decide) (fl_X0_18 cx) (zok_c hi (by decide)) (zix_c hi (by decide)) (pcO hi) rfl dX0_outputWith_33 ?_
        refine x_iconst (v := 1) cx dX0_outputWith_36 (by decide) ?_
        refine x_isub cx dX0_outputWith_37 ?_
        refine x_aald (t := (num X - 1)) cx 2 rfl (zok_c hi (by decide)) (zix_c hi (by decide)) (pcA hi) (by rw [hW.sz]; exact nI_sub1 (by rw [hz] at hb23; omega)) (by rw [hz] at hb23; omega) (by decide) rfl dX0_outputWith_38 ?_
        refine x_astore_n (ls' := [_, _, _]) cx dX0_outputWith_39 rfl (by decide) rfl ?_
        refine x_aload_n cx dX0_outputWith_40 rfl rfl ?_
        refine x_getX0 cx 2 (by decide) (fl_X0_24 cx) (zok_c hi (by decide)) (zix_c hi (by decide)) (pcO hi) rfl dX0_outputWith_41 ?_
        refine x_iconst (v := 4) cx dX0_outputWith_44 (by decide) ?_
        refine x_icmp_ne (tgt := 55) cx dX0_outputWith_45 (by decide) (fun hb45 => ?_) (fun hb45 => ?_)
        · refine x_aload_n cx dX0_outputWith_55 rfl rfl ?_
          refine x_chip (num X - 1) ?_
          refine x_Vi (C := RX1) (T := TX1) (N := 9) (rest := []) cx (c_X1_codeOutput l G _ i (num X - 1) hi (by omega) _ _) gV_X0_78 ndX1_codeOutput rfl ⟨Nat.le_of_ble_eq_true rfl, Nat.le_of_ble_eq_true rfl⟩ (zok_c hi (by omega)) (zix_c hi (by omega)) (pcC hi _) rfl rfl rfl (Nat.le_of_ble_eq_true rfl) dX0_outputWith_56 ⟨Nat.le_of_ble_eq_true rfl, Nat.le_of_ble_eq_true rfl⟩ ?_
          refine x_unchip ?_
          exact x_iret cx hr (by have hn : ¬ num X = 0 := (by rw [hz] at hb23; omega); first | contradiction | (unfold zOut; rw [if_neg hb5, if_pos hb14, if_neg hn])) (fun _ _ _ _ => rfl) dX0_outputWith_59
        · refine x_aload_n cx dX0_outputWith_48 rfl rfl ?_
          refine x_chip (num X - 1) ?_
          refine x_Vi (C := RX1) (T := TX1) (N := 9) (rest := []) cx (c_X1_dataOutput l G _ i (num X - 1) hi (by omega) _ _) gV_X0_75 ndX1_dataOutput rfl ⟨Nat.le_of_ble_eq_true rfl, Nat.le_of_ble_eq_true rfl⟩ (zok_c hi (by omega)) (zix_c hi (by omega)) (pcC hi _) rfl rfl rfl (Nat.le_of_ble_eq_true rfl) dX0_outputWith_49 ⟨Nat.le_of_ble_eq_true rfl, Nat.le_of_ble_eq_true rfl⟩ ?_
          refine x_unchip ?_
          refine x_goto (tgt := 59) cx dX0_outputWith_52 (by decide) ?_
          exact x_iret cx hr (by have hn : ¬ num X = 0 := (by rw [hz] at hb23; omega); first | contradiction | (unfold zOut; rw [if_neg hb5, if_pos hb14, if_neg hn])) (fun _ _ _ _ => rfl) dX0_outputWith_59
      · refine x_iload_n cx dX0_outputWith_26 rfl rfl ?_
        exact x_iret cx hr (by have hn : num X = 0 := (by rw [hz] at hb23; omega); first | contradiction | (unfold zOut; rw [if_neg hb5, if_pos hb14, if_pos hn])) (fun _ _ _ _ => rfl) dX0_outputWith_27
    · refine x_iconst (v := 1) cx dX0_outputWith_17 (by decide) ?_
      exact x_iret cx hr (by unfold zOut; rw [if_neg hb5, if_neg hb14]) (fun _ _ _ _ => rfl) dX0_outputWith_18

set_option maxHeartbeats 4000000 in
set_option maxRecDepth 100000 in
theorem c_X0_shiftAllData (l : Launch) (G : zG) (S : zS) (i : Nat) (hi : i < 7) (X : zCV) (hW : zWF X) (inp : Int32) : Met l yX0_shiftAllData (zws yX0_shiftAllData cX0_shiftAllData 5 none) (zrm 3 0 0 61) (zPc G 75 (pic G (up S i X)) [.ref (zad G i 0), .int inp]) (zQv G 75 (pic G (up S i (zShiftD X inp)))) 0 0 (zA G) := by
  refine zMet npX0_shiftAllData rfl (Nat.le_of_ble_eq_true rfl) ?_
  intro p e s m args below meth cd hargs cx hr hin0
  have cx : Cx p s m args meth cd cX0_shiftAllData 5 RX0 G := cx
  refine x_ls (ls' := [some (.ref (zad G i 0)), some (.int inp), none, none, none]) rfl (fun _ h => h) ?_
  refine x_iload_n cx dX0_shiftAllData_0 rfl rfl ?_
  refine x_istore_n (ls' := [_, _, _, _, _]) cx dX0_shiftAllData_1 rfl (by decide) rfl ?_
  refine x_iconst (v := 0) cx dX0_shiftAllData_2 (by decide) ?_
  refine x_istore_n (ls' := [_, _, _, _, _]) cx dX0_shiftAllData_3 rfl (by decide) rfl ?_
  have h6 := hW.n6
  suffices K : ∀ f k : Nat, k + f = num X → Xh p l e _ s m args below meth cd 5 G _ 0 0 75 (pic G (up S i (zMap (fun k c => zShD c (zInc zDO X inp k)) k X))) 4 [some (.ref (zad G i 0)), some (.int inp), some (.int (zInc zDO X inp k)), some (.int (nI k)), none] [] from x_up (zMap_z (fun k c => zShD c (zInc zDO X inp k)) X).symm (K (num X) 0 (by omega))
  intro f
  induction f with
  | zero =>
    intro k hk
    obtain rfl : k = num X := by omega
    refine x_iload_n cx dX0_shiftAllData_4 rfl rfl ?_
    refine x_aload_n cx dX0_shiftAllData_5 rfl rfl ?_
    refine x_getX0 cx 1 (by decide) (fl_X0_18 cx) (zok_c hi (by decide)) (zix_c hi (by decide)) (pcO hi) rfl dX0_shiftAllData_6 ?_
    refine x_eqi (show _ = nI (num X) by rw [zMap_num]; exact hW.sz) ?_
    refine x_icmp_ge_t (tgt := 42) cx dX0_shiftAllData_9 (by decide) (nI_le (Nat.le_refl _) (by omega)) ?_
    exact x_vret cx hr (fun _ _ _ _ => rfl) dX0_shiftAllData_42
  | succ f ih =>
    intro k hk
    refine x_iload_n cx dX0_shiftAllData_4 rfl rfl ?_
    refine x_aload_n cx dX0_shiftAllData_5 rfl rfl ?_
    refine x_getX0 cx 1 (by decide) (fl_X0_18 cx) (zok_c hi (by decide)) (zix_c hi (by decide)) (pcO hi) rfl dX0_shiftAllData_6 ?_
    refine x_eqi (show _ = nI (num X) by rw [zMap_num]; exact hW.sz) ?_
    refine x_icmp_ge_f (tgt := 42) cx dX0_shiftAllData_9 (by decide) (nI_ge (by omega) (by omega)) ?_
    refine x_aload_n cx dX0_shiftAllData_12 rfl rfl ?_
    refine x_getX0 cx 0 (by decide) (fl_X0_11 cx) (zok_c hi (by decide)) (zix_c hi (by decide)) (pcO hi) rfl dX0_shiftAllData_13 ?_
    refine x_iload_n cx dX0_shiftAllData_16 rfl rfl ?_
    refine x_aald (t := k) cx 2 rfl (zok_c hi (by decide)) (zix_c hi (by decide)) (pcA hi) rfl (by omega) (by decide) rfl dX0_shiftAllData_17 ?_
    refine x_chip k ?_
    refine x_Vi (C := RX1) (T := TX1) (N := 9) (rest := []) cx (c_X1_dataOutput l G _ i k hi (by omega) _ _) gV_X0_75 ndX1_dataOutput rfl ⟨Nat.le_of_ble_eq_true rfl, Nat.le_of_ble_eq_true rfl⟩ (zok_c hi (by omega)) (zix_c hi (by omega)) (pcC hi _) rfl rfl rfl (Nat.le_of_ble_eq_true rfl) dX0_shiftAllData_18 ⟨Nat.le_of_ble_eq_true rfl, Nat.le_of_ble_eq_true rfl⟩ ?_
    refine x_unchip ?_
    refine x_eqi (by rw [zMap_out (Nat.le_refl _)]) ?_
    refine x_istore (ls' := [_, _, _, _, _]) cx dX0_shiftAllData_21 (by decide) rfl ?_
    refine x_aload_n cx dX0_shiftAllData_23 rfl rfl ?_
    refine x_getX0 cx 0 (by decide) (fl_X0_11 cx) (zok_c hi (by decide)) (zix_c hi (by decide)) (pcO hi) rfl dX0_shiftAllData_24 ?_
    refine x_iload_n cx dX0_shiftAllData_27 rfl rfl ?_
    refine x_aald (t := k) cx 2 rfl (zok_c hi (by decide)) (zix_c hi (by decide)) (pcA hi) rfl (by omega) (by decide) rfl dX0_shiftAllData_28 ?_
    refine x_iload_n cx dX0_shiftAllData_29 rfl rfl ?_
    refine x_chip k ?_
    refine x_Vv (C := RX1) (T := TX1) (N := 9) (rest := []) cx (c_X1_shiftData l G _ i k hi (by omega) _ _ _) gV_X0_105 ndX1_shiftData rfl ⟨Nat.le_of_ble_eq_true rfl, Nat.le_of_ble_eq_true rfl⟩ (zok_c hi (by omega)) (zix_c hi (by omega)) (pcC hi _) rfl rfl rfl (Nat.le_of_ble_eq_true rfl) dX0_shiftAllData_30 ⟨Nat.le_of_ble_eq_true rfl, Nat.le_of_ble_eq_true rfl⟩ ?_
    refine x_iload cx dX0_shiftAllData_33 rfl ?_
    refine x_istore_n (ls' := [_, _, _, _, _]) cx dX0_shiftAllData_35 rfl (by decide) rfl ?_
    refine x_iinc (v := nI (k + 1)) (ls' := [_, _, _, _, _]) cx dX0_shiftAllData_36 rfl (nI_inc _) (by decide) rfl ?_
    refine x_goto (tgt := 4) cx dX0_shiftAllData_39 (by decide) ?_
    refine x_up (X' := zMap (fun k c => zShD c (zInc zDO X inp k)) (k + 1) X) (by rw [zMap_s, zMap_out (Nat.le_refl _)]) ?_
    exact x_ls rfl (by simp [lo, zInc]) (ih (k + 1) (by omega))

set_option maxHeartbeats 4000000 in
set_option maxRecDepth 100000 in
theorem c_X0_shiftAllCodes (l : Launch) (G : zG) (S : zS) (i : Nat) (hi : i < 7) (X : zCV) (hW : zWF X) (inp : Int32) : Met l yX0_shiftAllCodes (zws yX0_shiftAllCodes cX0_shiftAllCodes 5 none) (zrm 2 0 0 43) (zPc G 75 (pic G (up S i X)) [.ref (zad G i 0), .int inp]) (zQv G 75 (pic G (up S i (zShiftC X inp)))) 0 0 (zA G) := by
  refine zMet npX0_shiftAllCodes rfl (Nat.le_of_ble_eq_true rfl) ?_
  intro p e s m args below meth cd hargs cx hr hin0
  have cx : Cx p s m args meth cd cX0_shiftAllCodes 5 RX0 G := cx
  refine x_ls (ls' := [some (.ref (zad G i 0)), some (.int inp), none, none, none]) rfl (fun _ h => h) ?_
  refine x_iload_n cx dX0_shiftAllCodes_0 rfl rfl ?_
  refine x_istore_n (ls' := [_, _, _, _, _]) cx dX0_shiftAllCodes_1 rfl (by decide) rfl ?_
  refine x_iconst (v := 0) cx dX0_shiftAllCodes_2 (by decide) ?_
  refine x_istore_n (ls' := [_, _, _, _, _]) cx dX0_shiftAllCodes_3 rfl (by decide) rfl ?_
  have h6 := hW.n6
  suffices K : ∀ f k : Nat, k + f = num X → Xh p l e _ s m args below meth cd 5 G _ 0 0 75 (pic G (up S i (zMap (fun k c => zShC c (zInc zCO X inp k)) k X))) 4 [some (.ref (zad G i 0)), some (.int inp), some (.int (zInc zCO X inp k)), some (.int (nI k)), none] [] from x_up (zMap_z (fun k c => zShC c (zInc zCO X inp k)) X).symm (K (num X) 0 (by omega))
  intro f
  induction f with
  | zero =>
    intro k hk
    obtain rfl : k = num X := by omega
    refine x_iload_n cx dX0_shiftAllCodes_4 rfl rfl ?_
    refine x_aload_n cx dX0_shiftAllCodes_5 rfl rfl ?_
    refine x_getX0 cx 1 (by decide) (fl_X0_18 cx) (zok_c hi (by decide)) (zix_c hi (by decide)) (pcO hi) rfl dX0_shiftAllCodes_6 ?_
    refine x_eqi (show _ = nI (num X) by rw [zMap_num]; exact hW.sz) ?_
    refine x_icmp_ge_t (tgt := 42) cx dX0_shiftAllCodes_9 (by decide) (nI_le (Nat.le_refl _) (by omega)) ?_
    exact x_vret cx hr (fun _ _ _ _ => rfl) dX0_shiftAllCodes_42
  | succ f ih =>
    intro k hk
    refine x_iload_n cx dX0_shiftAllCodes_4 rfl rfl ?_
    refine x_aload_n cx dX0_shiftAllCodes_5 rfl rfl ?_
    refine x_getX0 cx 1 (by decide) (fl_X0_18 cx) (zok_c hi (by decide)) (zix_c hi (by decide)) (pcO hi) rfl dX0_shiftAllCodes_6 ?_
    refine x_eqi (show _ = nI (num X) by rw [zMap_num]; exact hW.sz) ?_
    refine x_icmp_ge_f (tgt := 42) cx dX0_shiftAllCodes_9 (by decide) (nI_ge (by omega) (by omega)) ?_
    refine x_aload_n cx dX0_shiftAllCodes_12 rfl rfl ?_
    refine x_getX0 cx 0 (by decide) (fl_X0_11 cx) (zok_c hi (by decide)) (zix_c hi (by decide)) (pcO hi) rfl dX0_shiftAllCodes_13 ?_
    refine x_iload_n cx dX0_shiftAllCodes_16 rfl rfl ?_
    refine x_aald (t := k) cx 2 rfl (zok_c hi (by decide)) (zix_c hi (by decide)) (pcA hi) rfl (by omega) (by decide) rfl dX0_shiftAllCodes_17 ?_
    refine x_chip k ?_
    refine x_Vi (C := RX1) (T := TX1) (N := 9) (rest := []) cx (c_X1_codeOutput l G _ i k hi (by omega) _ _) gV_X0_78 ndX1_codeOutput rfl ⟨Nat.le_of_ble_eq_true rfl, Nat.le_of_ble_eq_true rfl⟩ (zok_c hi (by omega)) (zix_c hi (by omega)) (pcC hi _) rfl rfl rfl (Nat.le_of_ble_eq_true rfl) dX0_shiftAllCodes_18 ⟨Nat.le_of_ble_eq_true rfl, Nat.le_of_ble_eq_true rfl⟩ ?_
    refine x_unchip ?_
    refine x_eqi (by rw [zMap_out (Nat.le_refl _)]) ?_
    refine x_istore (ls' := [_, _, _, _, _]) cx dX0_shiftAllCodes_21 (by decide) rfl ?_
    refine x_aload_n cx dX0_shiftAllCodes_23 rfl rfl ?_
    refine x_getX0 cx 0 (by decide) (fl_X0_11 cx) (zok_c hi (by decide)) (zix_c hi (by decide)) (pcO hi) rfl dX0_shiftAllCodes_24 ?_
    refine x_iload_n cx dX0_shiftAllCodes_27 rfl rfl ?_
    refine x_aald (t := k) cx 2 rfl (zok_c hi (by decide)) (zix_c hi (by decide)) (pcA hi) rfl (by omega) (by decide) rfl dX0_shiftAllCodes_28 ?_
    refine x_iload_n cx dX0_shiftAllCodes_29 rfl rfl ?_
    refine x_chip k ?_
    refine x_Vv (C := RX1) (T := TX1) (N := 9) (rest := []) cx (c_X1_shiftCode l G _ i k hi (by omega) _ _ _) gV_X0_108 ndX1_shiftCode rfl ⟨Nat.le_of_ble_eq_true rfl, Nat.le_of_ble_eq_true rfl⟩ (zok_c hi (by omega)) (zix_c hi (by omega)) (pcC hi _) rfl rfl rfl (Nat.le_of_ble_eq_true rfl) dX0_shiftAllCodes_30 ⟨Nat.le_of_ble_eq_true rfl, Nat.le_of_ble_eq_true rfl⟩ ?_
    refine x_iload cx dX0_shiftAllCodes_33 rfl ?_
    refine x_istore_n (ls' := [_, _, _, _, _]) cx dX0_shiftAllCodes_35 rfl (by decide) rfl ?_
    refine x_iinc (v := nI (k + 1)) (ls' := [_, _, _, _, _]) cx dX0_shiftAllCodes_36 rfl (nI_inc _) (by decide) rfl ?_
    refine x_goto (tgt := 4) cx dX0_shiftAllCodes_39 (by decide) ?_
    refine x_up (X' := zMap (fun k c => zShC c (zInc zCO X inp k)) (k + 1) X) (by rw [zMap_s, zMap_out (Nat.le_refl _)]) ?_
    exact x_ls rfl (by simp [lo, zInc]) (ih (k + 1) (by omega))

set_option maxHeartbeats 4000000 in
set_option maxRecDepth 100000 in
theorem c_X0_workOf (l : Launch) (G : zG) (S : zS) (i : Nat) (hi : i < 7) (X : zCV) (hW : zWF X) (t : Nat) (ht : t < 6) : Met l yX0_workOf (zws yX0_workOf cX0_workOf 2 none) (zrm 2 0 0 41) (zPc G 75 (pic G (up S i X)) [.ref (zad G i 0), .ref (zad G i (t + 3))]) (zQv G 75 (pic G (up S i (uj X (t + 3) (zWork (X 0 1) (X (t + 3))))))) 0 0 (zA G) := by
  refine zMet npX0_workOf rfl (Nat.le_of_ble_eq_true rfl) ?_
  intro p e s m args below meth cd hargs cx hr hin0
  have cx : Cx p s m args meth cd cX0_workOf 2 RX0 G := cx
  refine x_ls (ls' := [some (.ref (zad G i 0)), some (.ref (zad G i (t + 3)))]) rfl (fun _ h => h) ?_
  refine x_aload_n cx dX0_workOf_0 rfl rfl ?_
  refine x_getX0 cx 2 (by decide) (fl_X0_24 cx) (zok_c hi (by decide)) (zix_c hi (by decide)) (pcO hi) rfl dX0_workOf_1 ?_
  refine x_eqi hW.s1 ?_
  have hs := hW.s1
  have h16 := hW.s16
  generalize stt X = a at hs h16 ⊢
  rcases (show a = 0 ∨ a = 1 ∨ a = 2 ∨ a = 3 ∨ a = 4 ∨ a = 5 ∨ a = 6 ∨ a = 7 ∨ a = 8 ∨ a = 9 ∨ a = 10 ∨ a = 11 ∨ a = 12 ∨ a = 13 ∨ a = 14 ∨ a = 15 by omega) with rfl | rfl | rfl | rfl | rfl | rfl | rfl | rfl | rfl | rfl | rfl | rfl | rfl | rfl | rfl | rfl
  · refine x_lookup (off := 52) (tgt := 56) cx dX0_workOf_4 (by decide +kernel) (by decide +kernel) (by decide) ?_
    rw [hs]
    have hz : zWork (nI 0) (X (t + 3)) = zFirst (X (t + 3)) := rfl
    rw [hz]
    refine x_aload_n cx dX0_workOf_56 rfl rfl ?_
    refine x_chip t ?_
    refine x_Vv (C := RX1) (T := TX1) (N := 9) (rest := []) cx (c_X1_giveFirstInstruction l G _ i t hi (by omega) _ _) gV_X0_90 ndX1_giveFirstInstruction rfl ⟨Nat.le_of_ble_eq_true rfl, Nat.le_of_ble_eq_true rfl⟩ (zok_c hi (by omega)) (zix_c hi (by omega)) (pcC hi _) rfl rfl rfl (Nat.le_of_ble_eq_true rfl) dX0_workOf_57 ⟨Nat.le_of_ble_eq_true rfl, Nat.le_of_ble_eq_true rfl⟩ ?_
    refine x_goto (tgt := 96) cx dX0_workOf_60 (by decide) ?_
    exact x_vret cx hr (fun _ _ _ _ => rfl) dX0_workOf_96
  · refine x_lookup (off := 92) (tgt := 96) cx dX0_workOf_4 (by decide +kernel) (by decide +kernel) (by decide) ?_
    rw [hs]
    have hz : zWork (nI 1) (X (t + 3)) = X (t + 3) := rfl
    rw [hz]
    refine x_chip t ?_
    exact x_vret cx hr (fun _ _ _ _ => rfl) dX0_workOf_96
  · refine x_lookup (off := 92) (tgt := 96) cx dX0_workOf_4 (by decide +kernel) (by decide +kernel) (by decide) ?_
    rw [hs]
    have hz : zWork (nI 2) (X (t + 3)) = X (t + 3) := rfl
    rw [hz]
    refine x_chip t ?_
    exact x_vret cx hr (fun _ _ _ _ => rfl) dX0_workOf_96
  · refine x_lookup (off := 59) (tgt := 63) cx dX0_workOf_4 (by decide +kernel) (by decide +kernel) (by decide) ?_
    rw [hs]
    have hz : zWork (nI 3) (X (t + 3)) = zCap (X (t + 3)) := rfl
    rw [hz]
    refine x_aload_n cx dX0_workOf_63 rfl rfl ?_
    refine x_chip t ?_
    refine x_Vv (C := RX1) (T := TX1) (N := 9) (rest := []) cx (c_X1_captureData l G _ i t hi (by omega) _ _) gV_X0_93 ndX1_captureData rfl ⟨Nat.le_of_ble_eq_true rfl, Nat.le_of_ble_eq_true rfl⟩ (zok_c hi (by omega)) (zix_c hi (by omega)) (pcC hi _) rfl rfl rfl (Nat.le_of_ble_eq_true rfl) dX0_workOf_64 ⟨Nat.le_of_ble_eq_true rfl, Nat.le_of_ble_eq_true rfl⟩ ?_
    refine x_goto (tgt := 96) cx dX0_workOf_67 (by decide) ?_
    exact x_vret cx hr (fun _ _ _ _ => rfl) dX0_workOf_96
  · refine x_lookup (off := 92) (tgt := 96) cx dX0_workOf_4 (by decide +kernel) (by decide +kernel) (by decide) ?_
    rw [hs]
    have hz : zWork (nI 4) (X (t + 3)) = X (t + 3) := rfl
    rw [hz]
    refine x_chip t ?_
    exact x_vret cx hr (fun _ _ _ _ => rfl) dX0_workOf_96
  · refine x_lookup (off := 92) (tgt := 96) cx dX0_workOf_4 (by decide +kernel) (by decide +kernel) (by decide) ?_
    rw [hs]
    have hz : zWork (nI 5) (X (t + 3)) = X (t + 3) := rfl
    rw [hz]
    refine x_chip t ?_
    exact x_vret cx hr (fun _ _ _ _ => rfl) dX0_workOf_96
  · refine x_lookup (off := 92) (tgt := 96) cx dX0_workOf_4 (by decide +kernel) (by decide +kernel) (by decide) ?_
    rw [hs]
    have hz : zWork (nI 6) (X (t + 3)) = X (t + 3) := rfl
    rw [hz]
    refine x_chip t ?_
    exact x_vret cx hr (fun _ _ _ _ => rfl) dX0_workOf_96
  · refine x_lookup (off := 92) (tgt := 96) cx dX0_workOf_4 (by decide +kernel) (by decide +kernel) (by decide) ?_
    rw [hs]
    have hz : zWork (nI 7) (X (t + 3)) = X (t + 3) := rfl
    rw [hz]
    refine x_chip t ?_
    exact x_vret cx hr (fun _ _ _ _ => rfl) dX0_workOf_96
  · refine x_lookup (off := 66) (tgt := 70) cx dX0_workOf_4 (by decide +kernel) (by decide +kernel) (by decide) ?_
    rw [hs]
    have hz : zWork (nI 8) (X (t + 3)) = zUpd (X (t + 3)) := rfl
    rw [hz]
    refine x_aload_n cx dX0_workOf_70 rfl rfl ?_
    refine x_chip t ?_
    refine x_Vv (C := RX1) (T := TX1) (N := 9) (rest := []) cx (c_X1_updateData l G _ i t hi (by omega) _ _) gV_X0_96 ndX1_updateData rfl ⟨Nat.le_of_ble_eq_true rfl, Nat.le_of_ble_eq_true rfl⟩ (zok_c hi (by omega)) (zix_c hi (by omega)) (pcC hi _) rfl rfl rfl (Nat.le_of_ble_eq_true rfl) dX0_workOf_71 ⟨Nat.le_of_ble_eq_true rfl, Nat.le_of_ble_eq_true rfl⟩ ?_
    refine x_goto (tgt := 96) cx dX0_workOf_74 (by decide) ?_
    exact x_vret cx hr (fun _ _ _ _ => rfl) dX0_workOf_96
  · refine x_lookup (off := 92) (tgt := 96) cx dX0_workOf_4 (by decide +kernel) (by decide +kernel) (by decide) ?_
    rw [hs]
    have hz : zWork (nI 9) (X (t + 3)) = X (t + 3) := rfl
    rw [hz]
    refine x_chip t ?_
    exact x_vret cx hr (fun _ _ _ _ => rfl) dX0_workOf_96
  · refine x_lookup (off := 73) (tgt := 77) cx dX0_workOf_4 (by decide +kernel) (by decide +kernel) (by decide) ?_
    rw [hs]
    have hz : zWork (nI 10) (X (t + 3)) = upd (X (t + 3)) 7 1 := rfl
    rw [hz]
    refine x_aload_n cx dX0_workOf_77 rfl rfl ?_
    refine x_iconst (v := 1) cx dX0_workOf_78 (by decide) ?_
    refine x_putX1 cx 7 (by decide) (fl_X0_99 cx) (zok_c hi (by omega)) (zix_c hi (by omega)) (pcC hi _) rfl rfl rfl (Nat.le_of_ble_eq_true rfl) (ppC hi (by decide)) dX0_workOf_79 ?_
    refine x_goto (tgt := 96) cx dX0_workOf_82 (by decide) ?_
    exact x_vret cx hr (fun _ _ _ _ => rfl) dX0_workOf_96
  · refine x_lookup (off := 92) (tgt := 96) cx dX0_workOf_4 (by decide +kernel) (by decide +kernel) (by decide) ?_
    rw [hs]
    have hz : zWork (nI 11) (X (t + 3)) = X (t + 3) := rfl
    rw [hz]
    refine x_chip t ?_
    exact x_vret cx hr (fun _ _ _ _ => rfl) dX0_workOf_96
  · refine x_lookup (off := 92) (tgt := 96) cx dX0_workOf_4 (by decide +kernel) (by decide +kernel) (by decide) ?_
    rw [hs]
    have hz : zWork (nI 12) (X (t + 3)) = X (t + 3) := rfl
    rw [hz]
    refine x_chip t ?_
    exact x_vret cx hr (fun _ _ _ _ => rfl) dX0_workOf_96
  · refine x_lookup (off := 92) (tgt := 96) cx dX0_workOf_4 (by decide +kernel) (by decide +kernel) (by decide) ?_
    rw [hs]
    have hz : zWork (nI 13) (X (t + 3)) = X (t + 3) := rfl
    rw [hz]
    refine x_chip t ?_
    exact x_vret cx hr (fun _ _ _ _ => rfl) dX0_workOf_96
  · refine x_lookup (off := 92) (tgt := 96) cx dX0_workOf_4 (by decide +kernel) (by decide +kernel) (by decide) ?_
    rw [hs]
    have hz : zWork (nI 14) (X (t + 3)) = X (t + 3) := rfl
    rw [hz]
    refine x_chip t ?_
    exact x_vret cx hr (fun _ _ _ _ => rfl) dX0_workOf_96
  · refine x_lookup (off := 81) (tgt := 85) cx dX0_workOf_4 (by decide +kernel) (by decide +kernel) (by decide) ?_
    rw [hs]
    have hz : zWork (nI 15) (X (t + 3)) = zGive (X (t + 3)) (X (t + 3) 7) := rfl
    rw [hz]
    refine x_aload_n cx dX0_workOf_85 rfl rfl ?_
    refine x_aload_n cx dX0_workOf_86 rfl rfl ?_
    refine x_getX1 cx 7 (by decide) (fl_X0_99 cx) (zok_c hi (by omega)) (zix_c hi (by omega)) (pcC hi _) rfl dX0_workOf_87 ?_
    refine x_chip t ?_
    refine x_Vv (C := RX1) (T := TX1) (N := 9) (rest := []) cx (c_X1_giveInstruction l G _ i t hi (by omega) _ _ _) gV_X0_102 ndX1_giveInstruction rfl ⟨Nat.le_of_ble_eq_true rfl, Nat.le_of_ble_eq_true rfl⟩ (zok_c hi (by omega)) (zix_c hi (by omega)) (pcC hi _) rfl rfl rfl (Nat.le_of_ble_eq_true rfl) dX0_workOf_90 ⟨Nat.le_of_ble_eq_true rfl, Nat.le_of_ble_eq_true rfl⟩ ?_
    refine x_goto (tgt := 96) cx dX0_workOf_93 (by decide) ?_
    exact x_vret cx hr (fun _ _ _ _ => rfl) dX0_workOf_96

set_option maxHeartbeats 4000000 in
set_option maxRecDepth 100000 in
theorem c_X0_work (l : Launch) (G : zG) (S : zS) (i : Nat) (hi : i < 7) (X : zCV) (hW : zWF X) (inp : Int32) : Met l yX0_work (zws yX0_work cX0_work 3 none) (zrm 4 0 0 85) (zPc G 75 (pic G (up S i X)) [.ref (zad G i 0), .int inp]) (zQv G 75 (pic G (up S i (zWorkAll X inp)))) 0 0 (zA G) := by
  refine zMet npX0_work rfl (Nat.le_of_ble_eq_true rfl) ?_
  intro p e s m args below meth cd hargs cx hr hin0
  have cx : Cx p s m args meth cd cX0_work 3 RX0 G := cx
  refine x_ls (ls' := [some (.ref (zad G i 0)), some (.int inp), none]) rfl (fun _ h => h) ?_
  refine x_aload_n cx dX0_work_0 rfl rfl ?_
  refine x_getX0 cx 2 (by decide) (fl_X0_24 cx) (zok_c hi (by decide)) (zix_c hi (by decide)) (pcO hi) rfl dX0_work_1 ?_
  refine x_iconst (v := 4) cx dX0_work_4 (by decide) ?_
  refine x_icmp_ne (tgt := 16) cx dX0_work_5 (by decide) (fun hb5 => ?_) (fun hb5 => ?_)
  · refine x_aload_n cx dX0_work_16 rfl rfl ?_
    refine x_getX0 cx 2 (by decide) (fl_X0_24 cx) (zok_c hi (by decide)) (zix_c hi (by decide)) (pcO hi) rfl dX0_work_17 ?_
    refine x_bipush (v := 11) cx dX0_work_20 (by decide) ?_
    refine x_icmp_ne (tgt := 33) cx dX0_work_22 (by decide) (fun hb22 => ?_) (fun hb22 => ?_)
    · refine x_iconst (v := 0) cx dX0_work_33 (by decide) ?_
      refine x_istore_n (ls' := [_, _, _]) cx dX0_work_34 rfl (by decide) rfl ?_
      unfold zWorkAll
      rw [if_neg hb5, if_neg hb22]
      have h6 := hW.n6
      suffices K : ∀ f k : Nat, k + f = num X → Xh p l e _ s m args below meth cd 3 G _ 0 0 75 (pic G (up S i (zMap (fun _ c => zWork (X 0 1) c) k X))) 35 [some (.ref (zad G i 0)), some (.int inp), some (.int (nI k))] [] from x_up (zMap_z (fun _ c => zWork (X 0 1) c) X).symm (K (num X) 0 (by omega))
      intro f
      induction f with
      | zero =>
        intro k hk
        obtain rfl : k = num X := by omega
        refine x_iload_n cx dX0_work_35 rfl rfl ?_
        refine x_aload_n cx dX0_work_36 rfl rfl ?_
        refine x_getX0 cx 1 (by decide) (fl_X0_18 cx) (zok_c hi (by decide)) (zix_c hi (by decide)) (pcO hi) rfl dX0_work_37 ?_
        refine x_eqi (show _ = nI (num X) by rw [zMap_num]; exact hW.sz) ?_
        refine x_icmp_ge_t (tgt := 59) cx dX0_work_40 (by decide) (nI_le (Nat.le_refl _) (by omega)) ?_
        exact x_vret cx hr (fun _ _ _ _ => rfl) dX0_work_59
      | succ f ih =>
        intro k hk
        refine x_iload_n cx dX0_work_35 rfl rfl ?_
        refine x_aload_n cx dX0_work_36 rfl rfl ?_
        refine x_getX0 cx 1 (by decide) (fl_X0_18 cx) (zok_c hi (by decide)) (zix_c hi (by decide)) (pcO hi) rfl dX0_work_37 ?_
        refine x_eqi (show _ = nI (num X) by rw [zMap_num]; exact hW.sz) ?_
        refine x_icmp_ge_f (tgt := 59) cx dX0_work_40 (by decide) (nI_ge (by omega) (by omega)) ?_
        refine x_aload_n cx dX0_work_43 rfl rfl ?_
        refine x_aload_n cx dX0_work_44 rfl rfl ?_
        refine x_getX0 cx 0 (by decide) (fl_X0_11 cx) (zok_c hi (by decide)) (zix_c hi (by decide)) (pcO hi) rfl dX0_work_45 ?_
        refine x_iload_n cx dX0_work_48 rfl rfl ?_
        refine x_aald (t := k) cx 2 rfl (zok_c hi (by decide)) (zix_c hi (by decide)) (pcA hi) rfl (by omega) (by decide) rfl dX0_work_49 ?_
        refine x_Vv (C := RX0) (T := TX0) (N := 6) (rest := []) cx (c_X0_workOf l G _ i hi _ (zMap_WF hW (fun _ _ => cWF_work _)) k (by omega)) gV_X0_87 ndX0_workOf rfl ⟨Nat.le_of_ble_eq_true rfl, Nat.le_of_ble_eq_true rfl⟩ (zok_c hi (by decide)) (zix_c hi (by decide)) (pcO hi) rfl rfl rfl (Nat.le_of_ble_eq_true rfl) dX0_work_50 ⟨Nat.le_of_ble_eq_true rfl, Nat.le_of_ble_eq_true rfl⟩ ?_
        refine x_iinc (v := nI (k + 1)) (ls' := [_, _, _]) cx dX0_work_53 rfl (nI_inc _) (by decide) rfl ?_
        refine x_goto (tgt := 35) cx dX0_work_56 (by decide) ?_
        refine x_up (X' := zMap (fun _ c => zWork (X 0 1) c) (k + 1) X) (by rw [zMap_s, zMap_out (Nat.le_refl _), zMap_num]) ?_
        exact ih (k + 1) (by omega)
    · refine x_aload_n cx dX0_work_25 rfl rfl ?_
      refine x_iload_n cx dX0_work_26 rfl rfl ?_
      refine x_Vv (C := RX0) (T := TX0) (N := 6) (rest := []) cx (c_X0_shiftAllCodes l G _ i hi _ hW _) gV_X0_84 ndX0_shiftAllCodes rfl ⟨Nat.le_of_ble_eq_true rfl, Nat.le_of_ble_eq_true rfl⟩ (zok_c hi (by decide)) (zix_c hi (by decide)) (pcO hi) rfl rfl rfl (Nat.le_of_ble_eq_true rfl) dX0_work_27 ⟨Nat.le_of_ble_eq_true rfl, Nat.le_of_ble_eq_true rfl⟩ ?_
      refine x_goto (tgt := 59) cx dX0_work_30 (by decide) ?_
      exact x_vret cx hr (by unfold zWorkAll; rw [if_neg hb5, if_pos hb22]; exact fun _ _ _ _ => rfl) dX0_work_59
  · refine x_aload_n cx dX0_work_8 rfl rfl ?_
    refine x_iload_n cx dX0_work_9 rfl rfl ?_
    refine x_Vv (C := RX0) (T := TX0) (N := 6) (rest := []) cx (c_X0_shiftAllData l G _ i hi _ hW _) gV_X0_81 ndX0_shiftAllData rfl ⟨Nat.le_of_ble_eq_true rfl, Nat.le_of_ble_eq_true rfl⟩ (zok_c hi (by decide)) (zix_c hi (by decide)) (pcO hi) rfl rfl rfl (Nat.le_of_ble_eq_true rfl) dX0_work_10 ⟨Nat.le_of_ble_eq_true rfl, Nat.le_of_ble_eq_true rfl⟩ ?_
    refine x_goto (tgt := 59) cx dX0_work_13 (by decide) ?_
    exact x_vret cx hr (by unfold zWorkAll; rw [if_pos hb5]; exact fun _ _ _ _ => rfl) dX0_work_59

set_option maxHeartbeats 4000000 in
set_option maxRecDepth 100000 in
theorem c_X0_tick (l : Launch) (G : zG) (S : zS) (i : Nat) (hi : i < 7) (X : zCV) (hW : zWF X) (md inp : Int32) : Met l yX0_tick (zws yX0_tick cX0_tick 4 (some .int)) (zrm 5 0 0 107) (zPc G 75 (pic G (up S i X)) [.ref (zad G i 0), .int md, .int inp]) (zQi G 75 (zOut X inp) (pic G (up S i (zTick X md inp)))) 0 0 (zA G) := by
  refine zMet npX0_tick rfl (Nat.le_of_ble_eq_true rfl) ?_
  intro p e s m args below meth cd hargs cx hr hin0
  have cx : Cx p s m args meth cd cX0_tick 4 RX0 G := cx
  refine x_ls (ls' := [some (.ref (zad G i 0)), some (.int md), some (.int inp), none]) rfl (fun _ h => h) ?_
  refine x_aload_n cx dX0_tick_0 rfl rfl ?_
  refine x_iload_n cx dX0_tick_1 rfl rfl ?_
  refine x_Vi (C := RX0) (T := TX0) (N := 6) (rest := []) cx (c_X0_outputWith l G _ i hi _ hW _) gV_X0_63 ndX0_outputWith rfl ⟨Nat.le_of_ble_eq_true rfl, Nat.le_of_ble_eq_true rfl⟩ (zok_c hi (by decide)) (zix_c hi (by decide)) (pcO hi) rfl rfl rfl (Nat.le_of_ble_eq_true rfl) dX0_tick_2 ⟨Nat.le_of_ble_eq_true rfl, Nat.le_of_ble_eq_true rfl⟩ ?_
  refine x_istore_n (ls' := [_, _, _, _]) cx dX0_tick_5 rfl (by decide) rfl ?_
  refine x_aload_n cx dX0_tick_6 rfl rfl ?_
  refine x_iload_n cx dX0_tick_7 rfl rfl ?_
  refine x_Vv (C := RX0) (T := TX0) (N := 6) (rest := []) cx (c_X0_work l G _ i hi _ hW _) gV_X0_67 ndX0_work rfl ⟨Nat.le_of_ble_eq_true rfl, Nat.le_of_ble_eq_true rfl⟩ (zok_c hi (by decide)) (zix_c hi (by decide)) (pcO hi) rfl rfl rfl (Nat.le_of_ble_eq_true rfl) dX0_tick_8 ⟨Nat.le_of_ble_eq_true rfl, Nat.le_of_ble_eq_true rfl⟩ ?_
  refine x_aload_n cx dX0_tick_11 rfl rfl ?_
  refine x_aload_n cx dX0_tick_12 rfl rfl ?_
  refine x_getX0 cx 2 (by decide) (fl_X0_24 cx) (zok_c hi (by decide)) (zix_c hi (by decide)) (pcO hi) rfl dX0_tick_13 ?_
  refine x_eqi (show _ = nI (stt X) by rw [zWorkAll_0]; exact hW.s1) ?_
  refine x_iload_n cx dX0_tick_16 rfl rfl ?_
  refine x_Si (rest := [_]) cx (c_X2_next l G _ _ (stt X) hW.s16 _) gS_X0_71 ndX2_next ⟨Nat.le_of_ble_eq_true rfl, Nat.le_of_ble_eq_true rfl⟩ rfl rfl (Nat.le_of_ble_eq_true rfl) dX0_tick_17 ⟨Nat.le_of_ble_eq_true rfl, Nat.le_of_ble_eq_true rfl⟩ ?_
  refine x_putX0 cx 2 (by decide) (fl_X0_24 cx) (zok_c hi (by decide)) (zix_c hi (by decide)) (pcO hi) rfl rfl rfl (Nat.le_of_ble_eq_true rfl) (ppO1 hi) dX0_tick_20 ?_
  refine x_aload_n cx dX0_tick_23 rfl rfl ?_
  refine x_dup cx dX0_tick_24 rfl ?_
  refine x_getX0 cx 3 (by decide) (fl_X0_27 cx) (zok_c hi (by decide)) (zix_c hi (by decide)) (pcO hi) rfl dX0_tick_25 ?_
  refine x_iconst (v := 1) cx dX0_tick_28 (by decide) ?_
  refine x_iadd cx dX0_tick_29 ?_
  refine x_putX0 cx 3 (by decide) (fl_X0_27 cx) (zok_c hi (by decide)) (zix_c hi (by decide)) (pcO hi) rfl rfl rfl (Nat.le_of_ble_eq_true rfl) (ppO2 hi) dX0_tick_30 ?_
  refine x_iload_n cx dX0_tick_33 rfl rfl ?_
  exact x_iret cx hr rfl (by intro _ _ _ _; unfold zTick; rw [uj_same, uj_uj, zWorkAll_0]; rfl) dX0_tick_34

set_option maxHeartbeats 4000000 in
set_option maxRecDepth 100000 in
theorem c_X0_putBehind (l : Launch) (G : zG) (S : zS) (i : Nat) (hi : i < 7) (X : zCV) (hW : zWF X) (hn : num X < 6) (cl id ce : Int32) : Met l yX0_putBehind (zws yX0_putBehind cX0_putBehind 5 (some .int)) (zrm 3 0 0 64) (zPc G 75 (pic G (up S i X)) [.ref (zad G i 0), .int cl, .int id, .int ce]) (zQi G 75 (X 0 0) (pic G (up S i (zAdd X cl id ce)))) 0 0 (zA G) := by
  refine zMet npX0_putBehind rfl (Nat.le_of_ble_eq_true rfl) ?_
  intro p e s m args below meth cd hargs cx hr hin0
  have cx : Cx p s m args meth cd cX0_putBehind 5 RX0 G := cx
  refine x_ls (ls' := [some (.ref (zad G i 0)), some (.int cl), some (.int id), some (.int ce), none]) rfl (fun _ h => h) ?_
  refine x_aload_n cx dX0_putBehind_0 rfl rfl ?_
  refine x_getX0 cx 1 (by decide) (fl_X0_18 cx) (zok_c hi (by decide)) (zix_c hi (by decide)) (pcO hi) rfl dX0_putBehind_1 ?_
  refine x_istore (ls' := [_, _, _, _, _]) cx dX0_putBehind_4 (by decide) rfl ?_
  refine x_iload cx dX0_putBehind_6 rfl ?_
  refine x_aload_n cx dX0_putBehind_8 rfl rfl ?_
  refine x_getX0 cx 0 (by decide) (fl_X0_11 cx) (zok_c hi (by decide)) (zix_c hi (by decide)) (pcO hi) rfl dX0_putBehind_9 ?_
  refine x_alenq cx 2 rfl (zok_c hi (by decide)) (zix_c hi (by decide)) (pcA hi) dX0_putBehind_12 ?_
  refine x_icmp_ge_f (tgt := 39) cx dX0_putBehind_13 (by decide) (by rw [hW.sz]; exact nI_ge (b := 6) hn (by decide)) ?_
  refine x_aload_n cx dX0_putBehind_16 rfl rfl ?_
  refine x_getX0 cx 0 (by decide) (fl_X0_11 cx) (zok_c hi (by decide)) (zix_c hi (by decide)) (pcO hi) rfl dX0_putBehind_17 ?_
  refine x_iload cx dX0_putBehind_20 rfl ?_
  refine x_aald (t := (num X)) cx 2 rfl (zok_c hi (by decide)) (zix_c hi (by decide)) (pcA hi) hW.sz hn (by decide) rfl dX0_putBehind_22 ?_
  refine x_iload_n cx dX0_putBehind_23 rfl rfl ?_
  refine x_iload_n cx dX0_putBehind_24 rfl rfl ?_
  refine x_iload_n cx dX0_putBehind_25 rfl rfl ?_
  refine x_chip (num X) ?_
  refine x_Vv (C := RX1) (T := TX1) (N := 9) (rest := []) cx (c_X1_beNew l G _ i (num X) hi (by omega) _ _ _ _ _) gV_X0_41 ndX1_beNew rfl ⟨Nat.le_of_ble_eq_true rfl, Nat.le_of_ble_eq_true rfl⟩ (zok_c hi (by omega)) (zix_c hi (by omega)) (pcC hi _) rfl rfl rfl (Nat.le_of_ble_eq_true rfl) dX0_putBehind_26 ⟨Nat.le_of_ble_eq_true rfl, Nat.le_of_ble_eq_true rfl⟩ ?_
  refine x_aload_n cx dX0_putBehind_29 rfl rfl ?_
  refine x_dup cx dX0_putBehind_30 rfl ?_
  refine x_getX0 cx 1 (by decide) (fl_X0_18 cx) (zok_c hi (by decide)) (zix_c hi (by decide)) (pcO hi) rfl dX0_putBehind_31 ?_
  refine x_iconst (v := 1) cx dX0_putBehind_34 (by decide) ?_
  refine x_iadd cx dX0_putBehind_35 ?_
  refine x_putX0 cx 1 (by decide) (fl_X0_18 cx) (zok_c hi (by decide)) (zix_c hi (by decide)) (pcO hi) rfl rfl rfl (Nat.le_of_ble_eq_true rfl) (ppO0 hi) dX0_putBehind_36 ?_
  refine x_iload cx dX0_putBehind_39 rfl ?_
  exact x_iret cx hr rfl (by intro _ _ _ _; unfold zAdd; rw [uj_ne _ _ (by omega)]) dX0_putBehind_41

set_option maxHeartbeats 4000000 in
set_option maxRecDepth 100000 in
theorem c_X0_takeOut (l : Launch) (G : zG) (S : zS) (i : Nat) (hi : i < 7) (X : zCV) (hW : zWF X) (q : Nat) (hq : q < num X) : Met l yX0_takeOut (zws yX0_takeOut cX0_takeOut 4 (some .int)) (zrm 1 0 0 21) (zPc G 75 (pic G (up S i X)) [.ref (zad G i 0), .int (nI q)]) (zQi G 75 (X (q + 3) 1) (pic G (up S i (zTake X q)))) 0 0 (zA G) := by
  refine zMet npX0_takeOut rfl (Nat.le_of_ble_eq_true rfl) ?_
  intro p e s m args below meth cd hargs cx hr hin0
  have cx : Cx p s m args meth cd cX0_takeOut 4 RX0 G := cx
  refine x_ls (ls' := [some (.ref (zad G i 0)), some (.int (nI q)), none, none]) rfl (fun _ h => h) ?_
  have h6 := hW.n6
  refine x_aload_n cx dX0_takeOut_0 rfl rfl ?_
  refine x_getX0 cx 0 (by decide) (fl_X0_11 cx) (zok_c hi (by decide)) (zix_c hi (by decide)) (pcO hi) rfl dX0_takeOut_1 ?_
  refine x_iload_n cx dX0_takeOut_4 rfl rfl ?_
  refine x_aald (t := q) cx 2 rfl (zok_c hi (by decide)) (zix_c hi (by decide)) (pcA hi) rfl (by omega) (by decide) rfl dX0_takeOut_5 ?_
  refine x_getX1 cx 1 (by decide) (fl_X0_45 cx) (zok_c hi (by omega)) (zix_c hi (by omega)) (pcC hi _) rfl dX0_takeOut_6 ?_
  refine x_istore_n (ls' := [_, _, _, _]) cx dX0_takeOut_9 rfl (by decide) rfl ?_
  refine x_iload_n cx dX0_takeOut_10 rfl rfl ?_
  refine x_iconst (v := 1) cx dX0_takeOut_11 (by decide) ?_
  refine x_iadd cx dX0_takeOut_12 ?_
  refine x_istore_n (ls' := [_, _, _, _]) cx dX0_takeOut_13 rfl (by decide) rfl ?_
  suffices K : ∀ f k : Nat, q + k + 1 + f = num X → Xh p l e _ s m args below meth cd 4 G _ 0 0 75 (pic G (up S i (zTakL X q k))) 14 [some (.ref (zad G i 0)), some (.int (nI q)), some (.int (X (q + 3) 1)), some (.int (nI (q + k + 1)))] [] from x_up (zTakL_z X q).symm (x_ls rfl (by rw [show nI q + 1 = nI (q + 0 + 1) from nI_1 q]; exact fun _ h => h) (K (num X - 1 - q) 0 (by omega)))
  intro f
  induction f with
  | zero =>
    intro k hk
    refine x_iload_n cx dX0_takeOut_14 rfl rfl ?_
    refine x_aload_n cx dX0_takeOut_15 rfl rfl ?_
    refine x_getX0 cx 1 (by decide) (fl_X0_18 cx) (zok_c hi (by decide)) (zix_c hi (by decide)) (pcO hi) rfl dX0_takeOut_16 ?_
    refine x_eqi (show _ = nI (num X) by rw [zTakL_0]; exact hW.sz) ?_
    refine x_icmp_ge_t (tgt := 45) cx dX0_takeOut_19 (by decide) (nI_le (by omega) (by omega)) ?_
    refine x_aload_n cx dX0_takeOut_45 rfl rfl ?_
    refine x_dup cx dX0_takeOut_46 rfl ?_
    refine x_getX0 cx 1 (by decide) (fl_X0_18 cx) (zok_c hi (by decide)) (zix_c hi (by decide)) (pcO hi) rfl dX0_takeOut_47 ?_
    refine x_iconst (v := 1) cx dX0_takeOut_50 (by decide) ?_
    refine x_isub cx dX0_takeOut_51 ?_
    refine x_putX0 cx 1 (by decide) (fl_X0_18 cx) (zok_c hi (by decide)) (zix_c hi (by decide)) (pcO hi) rfl rfl rfl (Nat.le_of_ble_eq_true rfl) (ppO0 hi) dX0_takeOut_52 ?_
    refine x_iload_n cx dX0_takeOut_55 rfl rfl ?_
    exact x_iret cx hr rfl (by intro _ _ _ _; unfold zTake; rw [show num X - 1 - q = k by omega, zTakL_0]) dX0_takeOut_56
  | succ f ih =>
    intro k hk
    refine x_iload_n cx dX0_takeOut_14 rfl rfl ?_
    refine x_aload_n cx dX0_takeOut_15 rfl rfl ?_
    refine x_getX0 cx 1 (by decide) (fl_X0_18 cx) (zok_c hi (by decide)) (zix_c hi (by decide)) (pcO hi) rfl dX0_takeOut_16 ?_
    refine x_eqi (show _ = nI (num X) by rw [zTakL_0]; exact hW.sz) ?_
    refine x_icmp_ge_f (tgt := 45) cx dX0_takeOut_19 (by decide) (nI_ge (by omega) (by omega)) ?_
    refine x_aload_n cx dX0_takeOut_22 rfl rfl ?_
    refine x_getX0 cx 0 (by decide) (fl_X0_11 cx) (zok_c hi (by decide)) (zix_c hi (by decide)) (pcO hi) rfl dX0_takeOut_23 ?_
    refine x_iload_n cx dX0_takeOut_26 rfl rfl ?_
    refine x_iconst (v := 1) cx dX0_takeOut_27 (by decide) ?_
    refine x_isub cx dX0_takeOut_28 ?_
    refine x_aald (t := (q + k)) cx 2 rfl (zok_c hi (by decide)) (zix_c hi (by decide)) (pcA hi) (nI_pred _) (by omega) (by decide) rfl dX0_takeOut_29 ?_
    refine x_aload_n cx dX0_takeOut_30 rfl rfl ?_
    refine x_getX0 cx 0 (by decide) (fl_X0_11 cx) (zok_c hi (by decide)) (zix_c hi (by decide)) (pcO hi) rfl dX0_takeOut_31 ?_
    refine x_iload_n cx dX0_takeOut_34 rfl rfl ?_
    refine x_aald (t := (q + k + 1)) cx 2 rfl (zok_c hi (by decide)) (zix_c hi (by decide)) (pcA hi) rfl (by omega) (by decide) rfl dX0_takeOut_35 ?_
    refine x_Vv (C := RX1) (T := TX1) (N := 9) (rest := []) cx (c_X1_becomeCopyOf l G _ i (q + k) i (q + k + 1) hi (by omega) hi (by omega) (by omega) (by rw [up_same, zTakL_ge _ (by omega)]; exact (hW.chip (by omega)).2.2.1)) gV_X0_37 ndX1_becomeCopyOf rfl ⟨Nat.le_of_ble_eq_true rfl, Nat.le_of_ble_eq_true rfl⟩ (zok_c hi (by omega)) (zix_c hi (by omega)) (pcC hi _) rfl rfl rfl (Nat.le_of_ble_eq_true rfl) dX0_takeOut_36 ⟨Nat.le_of_ble_eq_true rfl, Nat.le_of_ble_eq_true rfl⟩ ?_
    refine x_S (S' := up S i (uj (zTakL X q k) (q + k + 3) (X (q + k + 4)))) (by rw [up_same, up_up, zTakL_ge _ (by omega)]) ?_
    refine x_iinc (v := nI ((q + k + 1) + 1)) (ls' := [_, _, _, _]) cx dX0_takeOut_39 rfl (nI_inc _) (by decide) rfl ?_
    refine x_goto (tgt := 14) cx dX0_takeOut_42 (by decide) ?_
    refine x_up (X' := zTakL X q (k + 1)) (by rw [zTakL_s]) ?_
    exact x_ls rfl (by rw [show q + k + 1 + 1 = q + (k + 1) + 1 by omega]; exact fun _ h => h) (ih (k + 1) (by omega))

set_option maxHeartbeats 4000000 in
set_option maxRecDepth 100000 in
theorem c_X0_becomeCopyOf (l : Launch) (G : zG) (S : zS) (i i2 : Nat) (hi : i < 7) (hi2 : i2 < 7) (hne : i2 ≠ i) (hW : zWF (S i2)) : Met l yX0_becomeCopyOf (zws yX0_becomeCopyOf cX0_becomeCopyOf 3 none) (zrm 1 0 0 21) (zPc G 75 (pic G S) [.ref (zad G i 0), .ref (zad G i2 0)]) (zQv G 75 (pic G (up S i (zCopy (S i) (S i2))))) 0 0 (zA G) := by
  refine zMet npX0_becomeCopyOf rfl (Nat.le_of_ble_eq_true rfl) ?_
  intro p e s m args below meth cd hargs cx hr hin0
  have cx : Cx p s m args meth cd cX0_becomeCopyOf 3 RX0 G := cx
  refine x_ls (ls' := [some (.ref (zad G i 0)), some (.ref (zad G i2 0)), none]) rfl (fun _ h => h) ?_
  refine x_S (up_self S i).symm ?_
  have h6 := hW.n6
  refine x_iconst (v := 0) cx dX0_becomeCopyOf_0 (by decide) ?_
  refine x_istore_n (ls' := [_, _, _]) cx dX0_becomeCopyOf_1 rfl (by decide) rfl ?_
  suffices K : ∀ f k : Nat, k + f = num (S i2) → Xh p l e _ s m args below meth cd 3 G _ 0 0 75 (pic G (up S i (zMap (fun t _ => S i2 (t + 3)) k (S i)))) 2 [some (.ref (zad G i 0)), some (.ref (zad G i2 0)), some (.int (nI k))] [] from x_up (zMap_z (fun t _ => S i2 (t + 3)) (S i)).symm (K (num (S i2)) 0 (by omega))
  intro f
  induction f with
  | zero =>
    intro k hk
    obtain rfl : k = num (S i2) := by omega
    refine x_iload_n cx dX0_becomeCopyOf_2 rfl rfl ?_
    refine x_aload_n cx dX0_becomeCopyOf_3 rfl rfl ?_
    refine x_getX0 cx 1 (by decide) (fl_X0_18 cx) (zok_c hi2 (by decide)) (zix_c hi2 (by decide)) (pcO2 hi2 hne) rfl dX0_becomeCopyOf_4 ?_
    refine x_eqi hW.sz ?_
    refine x_icmp_ge_t (tgt := 31) cx dX0_becomeCopyOf_7 (by decide) (nI_le (Nat.le_refl _) (by omega)) ?_
    refine x_aload_n cx dX0_becomeCopyOf_31 rfl rfl ?_
    refine x_aload_n cx dX0_becomeCopyOf_32 rfl rfl ?_
    refine x_getX0 cx 1 (by decide) (fl_X0_18 cx) (zok_c hi2 (by decide)) (zix_c hi2 (by decide)) (pcO2 hi2 hne) rfl dX0_becomeCopyOf_33 ?_
    refine x_putX0 cx 1 (by decide) (fl_X0_18 cx) (zok_c hi (by decide)) (zix_c hi (by decide)) (pcO hi) rfl rfl rfl (Nat.le_of_ble_eq_true rfl) (ppO0 hi) dX0_becomeCopyOf_36 ?_
    refine x_aload_n cx dX0_becomeCopyOf_39 rfl rfl ?_
    refine x_aload_n cx dX0_becomeCopyOf_40 rfl rfl ?_
    refine x_getX0 cx 2 (by decide) (fl_X0_24 cx) (zok_c hi2 (by decide)) (zix_c hi2 (by decide)) (pcO2 hi2 hne) rfl dX0_becomeCopyOf_41 ?_
    refine x_putX0 cx 2 (by decide) (fl_X0_24 cx) (zok_c hi (by decide)) (zix_c hi (by decide)) (pcO hi) rfl rfl rfl (Nat.le_of_ble_eq_true rfl) (ppO1 hi) dX0_becomeCopyOf_44 ?_
    refine x_aload_n cx dX0_becomeCopyOf_47 rfl rfl ?_
    refine x_aload_n cx dX0_becomeCopyOf_48 rfl rfl ?_
    refine x_getX0 cx 3 (by decide) (fl_X0_27 cx) (zok_c hi2 (by decide)) (zix_c hi2 (by decide)) (pcO2 hi2 hne) rfl dX0_becomeCopyOf_49 ?_
    refine x_putX0 cx 3 (by decide) (fl_X0_27 cx) (zok_c hi (by decide)) (zix_c hi (by decide)) (pcO hi) rfl rfl rfl (Nat.le_of_ble_eq_true rfl) (ppO2 hi) dX0_becomeCopyOf_52 ?_
    refine x_iconst (v := 0) cx dX0_becomeCopyOf_55 (by decide) ?_
    refine x_istore_n (ls' := [_, _, _]) cx dX0_becomeCopyOf_56 rfl (by decide) rfl ?_
    have h8 := hW.c8
    refine x_up (X' := (uj (zMap (fun t _ => S i2 (t + 3)) (num (S i2)) (S i)) 0 (upd (upd (upd (zMap (fun t _ => S i2 (t + 3)) (num (S i2)) (S i) 0) 0 (S i2 0 0)) 1 (S i2 0 1)) 2 (S i2 0 2)))) (by simp only [uj_uj, uj_same]) ?_
    have hY0 : (uj (zMap (fun t _ => S i2 (t + 3)) (num (S i2)) (S i)) 0 (upd (upd (upd (zMap (fun t _ => S i2 (t + 3)) (num (S i2)) (S i) 0) 0 (S i2 0 0)) 1 (S i2 0 1)) 2 (S i2 0 2))) 0 = upd (upd (upd (zMap (fun t _ => S i2 (t + 3)) (num (S i2)) (S i) 0) 0 (S i2 0 0)) 1 (S i2 0 1)) 2 (S i2 0 2) := uj_same _ _ _
    have hYn : ∀ j, j ≠ 0 → (uj (zMap (fun t _ => S i2 (t + 3)) (num (S i2)) (S i)) 0 (upd (upd (upd (zMap (fun t _ => S i2 (t + 3)) (num (S i2)) (S i) 0) 0 (S i2 0 0)) 1 (S i2 0 1)) 2 (S i2 0 2))) j = zMap (fun t _ => S i2 (t + 3)) (num (S i2)) (S i) j := fun j hj => uj_ne _ _ hj
    generalize (uj (zMap (fun t _ => S i2 (t + 3)) (num (S i2)) (S i)) 0 (upd (upd (upd (zMap (fun t _ => S i2 (t + 3)) (num (S i2)) (S i) 0) 0 (S i2 0 0)) 1 (S i2 0 1)) 2 (S i2 0 2))) = Y at hY0 hYn ⊢
    suffices K : ∀ f k : Nat, k + f = cnt (S i2) → Xh p l e _ s m args below meth cd 3 G _ 0 0 75 (pic G (up S i (zCpI Y (S i2) k))) 57 [some (.ref (zad G i 0)), some (.ref (zad G i2 0)), some (.int (nI k))] [] from x_up (zCpI_z Y (S i2)).symm (K (cnt (S i2)) 0 (by omega))
    intro f
    induction f with
    | zero =>
      intro k hk
      obtain rfl : k = cnt (S i2) := by omega
      refine x_iload_n cx dX0_becomeCopyOf_57 rfl rfl ?_
      refine x_aload_n cx dX0_becomeCopyOf_58 rfl rfl ?_
      refine x_getX0 cx 5 (by decide) (fl_X0_34 cx) (zok_c hi2 (by decide)) (zix_c hi2 (by decide)) (pcO2 hi2 hne) rfl dX0_becomeCopyOf_59 ?_
      refine x_eqi hW.c3 ?_
      refine x_icmp_ge_t (tgt := 83) cx dX0_becomeCopyOf_62 (by decide) (nI_le (Nat.le_refl _) (by omega)) ?_
      refine x_aload_n cx dX0_becomeCopyOf_83 rfl rfl ?_
      refine x_aload_n cx dX0_becomeCopyOf_84 rfl rfl ?_
      refine x_getX0 cx 5 (by decide) (fl_X0_34 cx) (zok_c hi2 (by decide)) (zix_c hi2 (by decide)) (pcO2 hi2 hne) rfl dX0_becomeCopyOf_85 ?_
      refine x_putX0 cx 5 (by decide) (fl_X0_34 cx) (zok_c hi (by decide)) (zix_c hi (by decide)) (pcO hi) rfl rfl rfl (Nat.le_of_ble_eq_true rfl) (ppO3 hi) dX0_becomeCopyOf_88 ?_
      exact x_vret cx hr (eqS_pic_up (Or.inl hi) (zCopy_eq hW hY0 hYn)) dX0_becomeCopyOf_91
    | succ f ih =>
      intro k hk
      refine x_iload_n cx dX0_becomeCopyOf_57 rfl rfl ?_
      refine x_aload_n cx dX0_becomeCopyOf_58 rfl rfl ?_
      refine x_getX0 cx 5 (by decide) (fl_X0_34 cx) (zok_c hi2 (by decide)) (zix_c hi2 (by decide)) (pcO2 hi2 hne) rfl dX0_becomeCopyOf_59 ?_
      refine x_eqi hW.c3 ?_
      refine x_icmp_ge_f (tgt := 83) cx dX0_becomeCopyOf_62 (by decide) (nI_ge (by omega) (by omega)) ?_
      refine x_aload_n cx dX0_becomeCopyOf_65 rfl rfl ?_
      refine x_getX0 cx 4 (by decide) (fl_X0_30 cx) (zok_c hi (by decide)) (zix_c hi (by decide)) (pcO hi) rfl dX0_becomeCopyOf_66 ?_
      refine x_iload_n cx dX0_becomeCopyOf_69 rfl rfl ?_
      refine x_aload_n cx dX0_becomeCopyOf_70 rfl rfl ?_
      refine x_getX0 cx 4 (by decide) (fl_X0_30 cx) (zok_c hi2 (by decide)) (zix_c hi2 (by decide)) (pcO2 hi2 hne) rfl dX0_becomeCopyOf_71 ?_
      refine x_iload_n cx dX0_becomeCopyOf_74 rfl rfl ?_
      refine x_iald (t := k) cx (zok_c hi2 (by decide)) (zix_c hi2 (by decide)) (pcI2 hi2 hne) rfl (by omega) (by decide) (tr_lt (by omega)) dX0_becomeCopyOf_75 ?_
      refine x_iast (t := k) cx (zok_c hi (by decide)) (zix_c hi (by decide)) (pcI hi) rfl (by omega) (by decide) (ppI hi (by omega)) dX0_becomeCopyOf_76 ?_
      refine x_iinc (v := nI (k + 1)) (ls' := [_, _, _]) cx dX0_becomeCopyOf_77 rfl (nI_inc _) (by decide) rfl ?_
      refine x_goto (tgt := 57) cx dX0_becomeCopyOf_80 (by decide) ?_
      exact x_up (zCpI_s Y (S i2) k) (ih (k + 1) (by omega))
  | succ f ih =>
    intro k hk
    refine x_iload_n cx dX0_becomeCopyOf_2 rfl rfl ?_
    refine x_aload_n cx dX0_becomeCopyOf_3 rfl rfl ?_
    refine x_getX0 cx 1 (by decide) (fl_X0_18 cx) (zok_c hi2 (by decide)) (zix_c hi2 (by decide)) (pcO2 hi2 hne) rfl dX0_becomeCopyOf_4 ?_
    refine x_eqi hW.sz ?_
    refine x_icmp_ge_f (tgt := 31) cx dX0_becomeCopyOf_7 (by decide) (nI_ge (by omega) (by omega)) ?_
    refine x_aload_n cx dX0_becomeCopyOf_10 rfl rfl ?_
    refine x_getX0 cx 0 (by decide) (fl_X0_11 cx) (zok_c hi (by decide)) (zix_c hi (by decide)) (pcO hi) rfl dX0_becomeCopyOf_11 ?_
    refine x_iload_n cx dX0_becomeCopyOf_14 rfl rfl ?_
    refine x_aald (t := k) cx 2 rfl (zok_c hi (by decide)) (zix_c hi (by decide)) (pcA hi) rfl (by omega) (by decide) rfl dX0_becomeCopyOf_15 ?_
    refine x_aload_n cx dX0_becomeCopyOf_16 rfl rfl ?_
    refine x_getX0 cx 0 (by decide) (fl_X0_11 cx) (zok_c hi2 (by decide)) (zix_c hi2 (by decide)) (pcO2 hi2 hne) rfl dX0_becomeCopyOf_17 ?_
    refine x_iload_n cx dX0_becomeCopyOf_20 rfl rfl ?_
    refine x_aald (t := k) cx 2 rfl (zok_c hi2 (by decide)) (zix_c hi2 (by decide)) (pcA hi2) rfl (by omega) (by decide) rfl dX0_becomeCopyOf_21 ?_
    refine x_Vv (C := RX1) (T := TX1) (N := 9) (rest := []) cx (c_X1_becomeCopyOf l G _ i k i2 k hi (by omega) hi2 (by omega) (by omega) (by rw [up_ne _ _ hne]; exact (hW.chip (by omega)).2.2.1)) gV_X0_37 ndX1_becomeCopyOf rfl ⟨Nat.le_of_ble_eq_true rfl, Nat.le_of_ble_eq_true rfl⟩ (zok_c hi (by omega)) (zix_c hi (by omega)) (pcCc hi _) rfl rfl rfl (Nat.le_of_ble_eq_true rfl) dX0_becomeCopyOf_22 ⟨Nat.le_of_ble_eq_true rfl, Nat.le_of_ble_eq_true rfl⟩ ?_
    refine x_S (S' := up S i (zMap (fun t _ => S i2 (t + 3)) (k + 1) (S i))) (by rw [up_same, up_up, up_ne _ _ hne, zMap_s]) ?_
    refine x_iinc (v := nI (k + 1)) (ls' := [_, _, _]) cx dX0_becomeCopyOf_25 rfl (nI_inc _) (by decide) rfl ?_
    refine x_goto (tgt := 2) cx dX0_becomeCopyOf_28 (by decide) ?_
    exact ih (k + 1) (by omega)
end
section
/-! ===== the text, the history, the master ===== -/
section P7
variable {G : zG} {S : zS} {i n : Nat} {X : zCV}
theorem p_SC : pic G S 7 0 = .inr (4, [.ref (zad G 0 0), .ref (zad G 1 0), .ref (zad G 2 0), .int (S 7 0 1), .ref (zad G 7 1), .ref (zad G 7 3)]) := rfl
theorem p_hist : pic G S 7 1 = .inr (2, [.ref (zad G 7 2), .int (S 7 0 0)]) := rfl
theorem p_recs : pic G S 7 2 = .inl (G.2.1 3, 4, .inr (.inr (.inr (.inr (fun k => if k < 4 then some (zad G (rc S k) 0) else none))))) := rfl
theorem p_script : pic G S 7 3 = .inr (3, [.ref (zad G 7 4), .int (S 7 0 2)]) := rfl
theorem p_chars : pic G S 7 4 = .inl (G.2.1 1, 80, .inl (tr 80 (S 7 2))) := rfl
theorem p_script' (hi : i < 7) : pic G (up S i X) 7 3 = .inr (3, [.ref (zad G 7 4), .int (S 7 0 2)]) := by rw [p_script, up_ne _ _ (by omega)]
theorem p_chars' (hi : i < 7) : pic G (up S i X) 7 4 = .inl (G.2.1 1, 80, .inl (tr 80 (S 7 2))) := by rw [p_chars, up_ne _ _ (by omega)]
theorem pp7 {Y : zCV} {j : Nat} {x : va_E} (hj : pic7 G (up S 7 Y) j = x) (hq : ∀ j', j' < 5 → j' ≠ j → pic7 G (up S 7 Y) j' = pic7 G S j') : ∀ i' j', zok i' j' → zix i' j' < n → pic G (up S 7 Y) i' j' = hset (pic G S) 7 j x i' j' := by
  intro i' j' hok _
  unfold hset
  by_cases hc : i' = 7 ∧ j' = j
  · rw [if_pos hc]
    obtain ⟨rfl, rfl⟩ := hc
    exact hj
  · rw [if_neg hc]
    by_cases h1 : i' = 7
    · subst h1
      have hj9 : j' < 5 := by rcases hok with h | h | h <;> omega
      exact hq j' hj9 (fun z => hc ⟨rfl, z⟩)
    · unfold pic
      rw [if_neg h1, if_neg h1]
      by_cases h8 : i' = 8
      · rw [if_pos h8, if_pos h8]
        unfold pic8 pf
        rw [up_ne _ _ (by omega), up_ne _ _ (by omega), up_ne _ _ (by omega), up_ne _ _ (by omega)]
        have : ∀ t, fl (up S 7 Y (11 + t / 66)) (t % 66) = fl (S (11 + t / 66)) (t % 66) := fun t => by rw [up_ne _ _ (by omega)]
        simp only [this]
      · rw [if_neg h8, if_neg h8, up_ne _ _ h1]
theorem pic7_uj {Y : zCV} {j : Nat} (h0 : j = 0 → Y 0 1 = S 7 0 1) (h1 : j = 1 → Y 0 0 = S 7 0 0) (h2 : j = 2 → ∀ k, k < 4 → Y 1 k = S 7 1 k) (h3 : j = 3 → Y 0 2 = S 7 0 2) (h4 : j = 4 → ∀ k, k < 80 → Y 2 k = S 7 2 k) (hj : j < 5) : pic7 G (up S 7 Y) j = pic7 G S j := by
  unfold pic7
  rw [up_same]
  rcases (show j = 0 ∨ j = 1 ∨ j = 2 ∨ j = 3 ∨ j = 4 by omega) with rfl | rfl | rfl | rfl | rfl
  · simp only [Nat.reduceEqDiff, ↓reduceIte]; rw [h0 rfl]
  · simp only [Nat.reduceEqDiff, ↓reduceIte]; rw [h1 rfl]
  · have : (fun k => if k < 4 then some (zad G (rc (up S 7 Y) k) 0) else none) = fun k => if k < 4 then some (zad G (rc S k) 0) else none := by
      funext k
      by_cases hk : k < 4
      · rw [if_pos hk, if_pos hk, rc, rc, up_same, h2 rfl k hk]
      · rw [if_neg hk, if_neg hk]
    simp only [Nat.reduceEqDiff, ↓reduceIte]
    rw [this]
  · simp only [Nat.reduceEqDiff, ↓reduceIte]; rw [h3 rfl]
  · simp only [Nat.reduceEqDiff, ↓reduceIte]; rw [tr_congr (h4 rfl)]
theorem pp_hist_size {v : Int32} : ∀ i' j', zok i' j' → zix i' j' < n → pic G (up S 7 (uj (S 7) 0 (upd (S 7 0) 0 v))) i' j' = hset (pic G S) 7 1 (.inr (2, [.ref (zad G 7 2), .int v])) i' j' :=
  pp7 rfl (fun j hj h => pic7_uj (fun _ => rfl) (fun z => absurd z h) (fun _ _ _ => rfl) (fun _ => rfl) (fun _ _ _ => rfl) hj)
theorem pp_SC_hasSnapshot {v : Int32} : ∀ i' j', zok i' j' → zix i' j' < n → pic G (up S 7 (uj (S 7) 0 (upd (S 7 0) 1 v))) i' j' = hset (pic G S) 7 0 (.inr (4, [.ref (zad G 0 0), .ref (zad G 1 0), .ref (zad G 2 0), .int v, .ref (zad G 7 1), .ref (zad G 7 3)])) i' j' :=
  pp7 rfl (fun j hj h => pic7_uj (fun z => absurd z h) (fun _ => rfl) (fun _ _ _ => rfl) (fun _ => rfl) (fun _ _ _ => rfl) hj)
theorem pp_script_length {v : Int32} : ∀ i' j', zok i' j' → zix i' j' < n → pic G (up S 7 (uj (S 7) 0 (upd (S 7 0) 2 v))) i' j' = hset (pic G S) 7 3 (.inr (3, [.ref (zad G 7 4), .int v])) i' j' :=
  pp7 rfl (fun j hj h => pic7_uj (fun _ => rfl) (fun _ => rfl) (fun _ _ _ => rfl) (fun z => absurd z h) (fun _ _ _ => rfl) hj)
theorem pp_chars {t : Nat} {v : Int32} (ht : t < 80) : ∀ i' j', zok i' j' → zix i' j' < n → pic G (up S 7 (uj (S 7) 2 (upd (S 7 2) t v))) i' j' = hset (pic G S) 7 4 (.inl (G.2.1 1, 80, .inl (upd (tr 80 (S 7 2)) t v))) i' j' :=
  pp7 (by rw [tr_upd ht]; rfl) (fun j hj h => pic7_uj (fun _ => rfl) (fun _ => rfl) (fun _ _ _ => rfl) (fun _ => rfl) (fun z => absurd z h) hj)
theorem pp_recs {t r : Nat} (ht : t < 4) (hr : r < 7) : ∀ i' j', zok i' j' → zix i' j' < n → pic G (up S 7 (uj (S 7) 1 (upd (S 7 1) t (nI r)))) i' j' = hset (pic G S) 7 2 (.inl (G.2.1 3, 4, .inr (.inr (.inr (.inr (va_up (fun k => if k < 4 then some (zad G (rc S k) 0) else none) t (some (zad G r 0)))))))) i' j' :=
  pp7 (by
    have : (fun k => if k < 4 then some (zad G (rc (up S 7 (uj (S 7) 1 (upd (S 7 1) t (nI r)))) k) 0) else none) = va_up (fun k => if k < 4 then some (zad G (rc S k) 0) else none) t (some (zad G r 0)) := by
      funext k
      unfold va_up
      by_cases hk : k = t
      · subst hk
        rw [if_pos ht, if_pos rfl, rc, up_same, uj_same, upd_same, nI_clamp (by omega)]
      · rw [if_neg hk]
        show _ = if k < 4 then some (zad G (rc S k) 0) else none
        by_cases h4 : k < 4
        · rw [if_pos h4, if_pos h4, rc, rc, up_same, uj_same, upd_ne _ _ hk]
        · rw [if_neg h4, if_neg h4]
    unfold pic7
    rw [if_neg (by decide), if_neg (by decide), if_pos rfl, this]) (fun j hj h => pic7_uj (fun _ => rfl) (fun _ => rfl) (fun z => absurd z h) (fun _ => rfl) (fun _ _ _ => rfl) hj)
end P7
/-! the text -/
def zCh (x : Int32) : Int32 := vp_nar .char ((x.toUInt32 % 65536).toInt32)
def zItem (c : Int32) : Int32 := if c = 48 then 1 else if c = 49 then 1 else if c = 97 then 1 else if c = 98 then 1 else if c = 63 then 1 else if c = 64 then 1 else 0
def zHex2 (c : Int32) : Int32 := if c < 97 then -1 else if 102 < c then -1 else c - 97 + 10
def zHex (c : Int32) : Int32 := if c < 48 then zHex2 c else if 57 < c then zHex2 c else c - 48
def zFit (w c : Int32) : Int32 := if w = 0 then zItem c else if zHex c = -1 then 0 else 1
def zNw (w c : Int32) : Int32 := if w = 0 then (if c = 64 then 1 else 0) else 0
/-- f characters are left, k have been read, w: a digit is wanted -/
def zFltL (T : Nat → Int32) : Nat → Nat → Int32 → Int32
  | 0, k, w => if 0 < k then (if w = 0 then -4 else nI k) else nI k
  | f + 1, k, w => if zFit w (T k) = 0 then nI k else zFltL T f (k + 1) (zNw w (T k))
def zFault (T : Nat → Int32) (L : Nat) : Int32 := zFltL T L 0 0
def zText (S : zS) (L : Nat) : Prop := S 7 0 2 = nI L ∧ L ≤ 80
/-! the history -/
def hsz (S : zS) : Nat := (S 7 0 0).toNatClampNeg
def hWF (S : zS) : Prop := (S 7 0 0 = nI (hsz S) ∧ hsz S ≤ 4) ∧ (∀ k, k < 4 → S 7 1 k = nI (rc S k) ∧ 3 ≤ rc S k ∧ rc S k ≤ 6) ∧ ∀ k, k < 4 → ∀ q, q < 4 → rc S k = rc S q → k = q
/-- the first k have moved up -/
def rotL (f : Nat → Int32) (k : Nat) : Nat → Int32 := fun q => if q < k then f (q + 1) else f q
theorem rotL_z (f : Nat → Int32) : rotL f 0 = f := by
  funext q
  unfold rotL
  rw [if_neg (by omega)]
theorem rotL_s (f : Nat → Int32) (k : Nat) : upd (rotL f k) k (f (k + 1)) = rotL f (k + 1) := by
  funext q
  by_cases hq : q = k
  · subst hq
    rw [upd_same]
    unfold rotL
    rw [if_pos (by omega)]
  · rw [upd_ne _ _ hq]
    unfold rotL
    by_cases h : q < k
    · rw [if_pos h, if_pos (by omega)]
    · rw [if_neg h, if_neg (by omega)]
theorem rotL_ge {f : Nat → Int32} {k q : Nat} (h : k ≤ q) : rotL f k q = f q := if_neg (by omega)
def zDrop (S : zS) : zS := up S 7 (uj (uj (S 7) 1 (upd (rotL (S 7 1) 3) 3 (S 7 1 0))) 0 (upd (S 7 0) 0 3))
def zRec0 (S : zS) : zS := if hsz S < 4 then S else zDrop S
def zRec1 (S : zS) : zS := up (up S (rc S (hsz S)) (zCopy (S (rc S (hsz S))) (S 0))) 7 (uj (S 7) 0 (upd (S 7 0) 0 (S 7 0 0 + 1)))
def zRec (S : zS) : zS := zRec1 (zRec0 S)
def zBack (S : zS) : zS := up (up S 7 (uj (S 7) 0 (upd (S 7 0) 0 (S 7 0 0 - 1)))) 0 (zCopy (S 0) (S (rc S (hsz S - 1))))
/-! the master -/
def zGoL : Nat → zCV → Nat → zCV
  | 0, X, _ => X
  | d + 1, X, b => zGoL d (zTick X (zMd (stt X) b) 1) b
def zGo (X : zCV) (b : Nat) : zCV := zGoL (dst (stt X) b) X b
def zLm (la : Int32) (L b : Nat) : Int32 := if la = 0 then 0 else if b + 1 = L then 1 else 0
def zBit (x : Int32) (b : Nat) : Int32 := (x >>> (nI b &&& 31)) &&& 1
def zThX (x : Int32) (L : Nat) (la : Int32) : Nat → zCV → zCV
  | 0, X => X
  | b + 1, X => zTick (zThX x L la b X) (zLm la L b) (zBit x b)
def zThO (x : Int32) (L : Nat) (la : Int32) : Nat → zCV → Int32
  | 0, _ => 0
  | b + 1, X => zThO x L la b X ||| (zOut (zThX x L la b X) (zBit x b) <<< (nI b &&& 31))
def zRdV (X : zCV) : Int32 := if zOut X 1 = 0 then 0 else (1 : Int32) ||| (zThO (zOnes 7) 7 0 7 (zTick X 0 1) <<< ((1 : Int32) &&& 31))
def zRdX (X : zCV) : zCV := if zOut X 1 = 0 then zTick X 0 1 else zThX (zOnes 7) 7 0 7 (zTick X 0 1)
def zTkN : Nat → zCV → zCV
  | 0, X => X
  | k + 1, X => zTkN k (zTick X 1 1)
def zIdL : Nat → zCV → zCV
  | 0, X => X
  | f + 1, X => if zRdV X = 255 then zRdX X else zIdL f (zKeep (zRdX X) (zRdV X))
def zIdent (X : zCV) : zCV := zGo (zIdL 8 (zForget (zGo (zTkN 5 X) 4))) 1
def zLa (k : Nat) : Int32 := if k = 0 then 1 else 0
def zLen (X : zCV) (k : Nat) : Nat := (X (k + 3) 0).toNatClampNeg
def zCod (q : Nat) (x : Int32) (X : zCV) (k : Nat) : Int32 := if k = q then x else zOnes (X (k + 3) 0)
def zLdL (q : Nat) (x : Int32) : Nat → zCV → zCV
  | 0, X => X
  | k + 1, X => zLdL q x k (zThX (zCod q x X k) (zLen X k) (zLa k) (zLen X k) X)
def zLoad (X : zCV) (q : Nat) (x : Int32) : zCV := zGo (zLdL q x (num X) (zGo X 11)) 1
def zBtN (X : zCV) (k : Nat) : Nat := (zBits (X (k + 3))).toNatClampNeg
def zDat (q : Nat) (x : Int32) (k : Nat) : Int32 := if k = q then x else 0
def zExX (q : Nat) (x : Int32) : Nat → zCV → zCV
  | 0, X => X
  | k + 1, X => zExX q x k (zThX (zDat q x k) (zBtN X k) (zLa k) (zBtN X k) X)
def zExO (q : Nat) (x : Int32) : Nat → Int32 → zCV → Int32
  | 0, o, _ => o
  | k + 1, o, X => zExO q x k (if k = q then zThO (zDat q x k) (zBtN X k) (zLa k) (zBtN X k) X else o) (zThX (zDat q x k) (zBtN X k) (zLa k) (zBtN X k) X)
def zExch (X : zCV) (q : Nat) (x : Int32) : zCV := zGo (zExX q x (num X) (zGo X 4)) 1
def zExchO (X : zCV) (q : Nat) (x : Int32) : Int32 := zExO q x (num X) 0 (zGo X 4)
def zCm (c : Int32) : Int32 := if c = 97 then 1 else if c = 98 then 1 else 0
def zCi (c : Int32) : Int32 := if c = 49 then 1 else if c = 98 then 1 else 0
def hexN (c : Int32) : Nat := (zHex c).toNatClampNeg
/-- the number noted and the chain's value; f: fuel -/
def zRunO (T : Nat → Int32) (L : Nat) : Nat → Nat → Int32 → Nat → zCV → Int32
  | 0, _, o, _, _ => o
  | f + 1, k, o, q, X => if k < L then (if T k = 63 then (if q < 30 then zRunO T L f (k + 1) (o ||| (zOut X 1 <<< (nI q &&& 31))) (q + 1) (zTick X 0 1) else zRunO T L f (k + 1) o q (zTick X 0 1)) else if T k = 64 then zRunO T L f (k + 2) o q (zGo X (hexN (T (k + 1)))) else zRunO T L f (k + 1) o q (zTick X (zCm (T k)) (zCi (T k)))) else o
def zRunX (T : Nat → Int32) (L : Nat) : Nat → Nat → zCV → zCV
  | 0, _, X => X
  | f + 1, k, X => if k < L then (if T k = 63 then zRunX T L f (k + 1) (zTick X 0 1) else if T k = 64 then zRunX T L f (k + 2) (zGo X (hexN (T (k + 1)))) else zRunX T L f (k + 1) (zTick X (zCm (T k)) (zCi (T k)))) else X
/-! what stays, and the bounds, through the master's ways -/
theorem zTick_0 (X : zCV) (md x : Int32) : zTick X md x 0 = upd (upd (X 0) 1 (zNx (stt X) md)) 2 (X 0 2 + 1) := uj_same _ _ _
theorem num_tick (X : zCV) (md x : Int32) : num (zTick X md x) = num X := by
  unfold num
  rw [zTick_0]
  rfl
theorem cnt_tick (X : zCV) (md x : Int32) : cnt (zTick X md x) = cnt X := by
  unfold cnt
  rw [zTick_0]
  rfl
theorem stt_tick (X : zCV) (md x : Int32) : stt (zTick X md x) = nx (stt X) md := by
  unfold stt nx
  rw [zTick_0]
  rfl
theorem zWorkAll_WF {X : zCV} {x : Int32} (h : zWF X) : zWF (zWorkAll X x) := by
  unfold zWorkAll zShiftD zShiftC
  repeat' split
  · exact zMap_WF h (fun _ _ z => cWF_upd z (by omega))
  · exact zMap_WF h (fun _ _ z => cWF_upd z (by omega))
  · exact zMap_WF h (fun _ _ z => cWF_work _ z)
theorem zTick_WF {X : zCV} {md x : Int32} (h : zWF X) : zWF (zTick X md x) := by
  have hw := zWorkAll_WF (x := x) h
  have hn := num_tick X md x
  have hc := cnt_tick X md x
  have hs := stt_tick X md x
  refine ⟨⟨?_, by rw [hn]; exact h.n6⟩, ⟨?_, by rw [hs]; exact nx_lt h.s16 md⟩, ⟨?_, by rw [hc]; exact h.c8⟩, fun t ht => ?_⟩
  · rw [hn, zTick_0]; exact h.sz
  · rw [hs, zTick_0]; exact nx_eq h.s16 md
  · rw [hc, zTick_0]; exact h.c3
  · rw [hn] at ht
    have hz : zTick X md x (t + 3) = zWorkAll X x (t + 3) := uj_ne _ _ (by omega)
    rw [hz]
    exact hw.chip (by unfold num at ht ⊢; rw [zWorkAll_0]; exact ht)
theorem zGoL_WF {b : Nat} : ∀ (d : Nat) {X : zCV}, zWF X → zWF (zGoL d X b)
  | 0, _, h => h
  | d + 1, _, h => zGoL_WF d (zTick_WF h)
theorem zGo_WF {X : zCV} {b : Nat} (h : zWF X) : zWF (zGo X b) := zGoL_WF _ h
theorem num_goL {b : Nat} : ∀ (d : Nat) (X : zCV), num (zGoL d X b) = num X
  | 0, _ => rfl
  | d + 1, X => by
    show num (zGoL d _ b) = _
    rw [num_goL d, num_tick]
theorem num_go (X : zCV) (b : Nat) : num (zGo X b) = num X := num_goL _ X
theorem cnt_goL {b : Nat} : ∀ (d : Nat) (X : zCV), cnt (zGoL d X b) = cnt X
  | 0, _ => rfl
  | d + 1, X => by
    show cnt (zGoL d _ b) = _
    rw [cnt_goL d, cnt_tick]
theorem cnt_go (X : zCV) (b : Nat) : cnt (zGo X b) = cnt X := cnt_goL _ X
theorem zThX_WF {x : Int32} {L : Nat} {la : Int32} {X : zCV} (h : zWF X) : ∀ b, zWF (zThX x L la b X)
  | 0 => h
  | b + 1 => zTick_WF (zThX_WF h b)
theorem num_thX {x : Int32} {L : Nat} {la : Int32} (X : zCV) : ∀ b, num (zThX x L la b X) = num X
  | 0 => rfl
  | b + 1 => by
    show num (zTick _ _ _) = _
    rw [num_tick, num_thX X b]
theorem cnt_thX {x : Int32} {L : Nat} {la : Int32} (X : zCV) : ∀ b, cnt (zThX x L la b X) = cnt X
  | 0 => rfl
  | b + 1 => by
    show cnt (zTick _ _ _) = _
    rw [cnt_tick, cnt_thX X b]
theorem zTkN_WF : ∀ (k : Nat) {X : zCV}, zWF X → zWF (zTkN k X)
  | 0, _, h => h
  | k + 1, _, h => zTkN_WF k (zTick_WF h)
theorem num_tkN : ∀ (k : Nat) (X : zCV), num (zTkN k X) = num X
  | 0, _ => rfl
  | k + 1, X => by
    show num (zTkN k _) = _
    rw [num_tkN k, num_tick]
theorem zRdX_WF {X : zCV} (h : zWF X) : zWF (zRdX X) := by
  unfold zRdX
  split
  · exact zTick_WF h
  · exact zThX_WF (zTick_WF h) _
theorem cnt_rdX (X : zCV) : cnt (zRdX X) = cnt X := by
  unfold zRdX
  split
  · exact cnt_tick _ _ _
  · rw [cnt_thX, cnt_tick]
theorem num_rdX (X : zCV) : num (zRdX X) = num X := by
  unfold zRdX
  split
  · exact num_tick _ _ _
  · rw [num_thX, num_tick]
theorem zForget_WF {X : zCV} (h : zWF X) : zWF (zForget X) := by
  obtain ⟨h1, h2, h3, h4⟩ := h
  have h0 : zForget X 0 = upd (X 0) 3 0 := uj_same _ _ _
  have hc : cnt (zForget X) = 0 := by unfold cnt; rw [h0]; rfl
  refine ⟨?_, ?_, ⟨?_, by omega⟩, fun t ht => ?_⟩
  · unfold num at h1 ⊢; rw [h0]; exact h1
  · unfold stt at h2 ⊢; rw [h0]; exact h2
  · rw [hc, h0]; rfl
  · have ht' : t < num X := by unfold num at ht ⊢; rw [h0] at ht; exact ht
    have hz : zForget X (t + 3) = X (t + 3) := uj_ne _ _ (by omega)
    rw [hz]
    exact h4 t ht'
theorem cnt_forget (X : zCV) : cnt (zForget X) = 0 := by
  unfold cnt zForget
  rw [uj_same]
  rfl
theorem num_forget (X : zCV) : num (zForget X) = num X := by
  unfold num zForget
  rw [uj_same]
  rfl
theorem cnt_keep {X : zCV} {v : Int32} (h : zWF X) : cnt (zKeep X v) = cnt X + 1 := by
  have h8 := h.c8
  have h0 : zKeep X v 0 = upd (X 0) 3 (X 0 3 + 1) := uj_same _ _ _
  have : zKeep X v 0 3 = nI (cnt X + 1) := by rw [h0, upd_same, h.c3]; exact nI_1 _
  show (zKeep X v 0 3).toNatClampNeg = _
  rw [this, nI_clamp (by omega)]
theorem num_keep (X : zCV) (v : Int32) : num (zKeep X v) = num X := by
  unfold num zKeep
  rw [uj_same]
  rfl
theorem zKeep_WF {X : zCV} {v : Int32} (h : zWF X) (hc : cnt X < 8) : zWF (zKeep X v) := by
  have hk := cnt_keep (v := v) h
  have h0 : zKeep X v 0 = upd (X 0) 3 (X 0 3 + 1) := uj_same _ _ _
  have hc3 := h.c3
  obtain ⟨h1, h2, h3, h4⟩ := h
  refine ⟨?_, ?_, ⟨?_, by omega⟩, fun t ht => ?_⟩
  · unfold num at h1 ⊢; rw [h0]; exact h1
  · unfold stt at h2 ⊢; rw [h0]; exact h2
  · rw [hk, h0, upd_same, hc3]; exact nI_1 _
  · rw [num_keep] at ht
    have hz : zKeep X v (t + 3) = X (t + 3) := by
      unfold zKeep
      rw [uj_ne _ _ (by omega), uj_ne _ _ (by omega)]
    rw [hz]
    exact h4 t ht
theorem zIdL_WF : ∀ (f : Nat) {X : zCV}, zWF X → cnt X + f = 8 → zWF (zIdL f X)
  | 0, _, h, _ => h
  | f + 1, X, h, hc => by
    have hw := zRdX_WF h
    have hcr := cnt_rdX X
    show zWF (if zRdV X = 255 then zRdX X else zIdL f (zKeep (zRdX X) (zRdV X)))
    split
    · exact hw
    · exact zIdL_WF f (zKeep_WF hw (by omega)) (by rw [cnt_keep hw]; omega)
theorem num_idL : ∀ (f : Nat) (X : zCV), num (zIdL f X) = num X
  | 0, _ => rfl
  | f + 1, X => by
    show num (if zRdV X = 255 then zRdX X else zIdL f (zKeep (zRdX X) (zRdV X))) = _
    split
    · exact num_rdX X
    · rw [num_idL f, num_keep, num_rdX]
theorem zIdent_WF {X : zCV} (h : zWF X) : zWF (zIdent X) := zGo_WF (zIdL_WF 8 (zForget_WF (zGo_WF (zTkN_WF 5 h))) (by rw [cnt_forget]))
theorem zLdL_WF {q : Nat} {x : Int32} : ∀ (k : Nat) {X : zCV}, zWF X → zWF (zLdL q x k X)
  | 0, _, h => h
  | k + 1, _, h => zLdL_WF k (zThX_WF h _)
theorem num_ldL {q : Nat} {x : Int32} : ∀ (k : Nat) (X : zCV), num (zLdL q x k X) = num X
  | 0, _ => rfl
  | k + 1, X => by
    show num (zLdL q x k _) = _
    rw [num_ldL k, num_thX]
theorem zLoad_WF {X : zCV} {q : Nat} {x : Int32} (h : zWF X) : zWF (zLoad X q x) := zGo_WF (zLdL_WF _ (zGo_WF h))
theorem num_load (X : zCV) (q : Nat) (x : Int32) : num (zLoad X q x) = num X := by
  unfold zLoad
  rw [num_go, num_ldL, num_go]
theorem zExX_WF {q : Nat} {x : Int32} : ∀ (k : Nat) {X : zCV}, zWF X → zWF (zExX q x k X)
  | 0, _, h => h
  | k + 1, _, h => zExX_WF k (zThX_WF h _)
theorem zExch_WF {X : zCV} {q : Nat} {x : Int32} (h : zWF X) : zWF (zExch X q x) := zGo_WF (zExX_WF _ (zGo_WF h))
theorem cWF_len {c : Nat → Int32} (h : cWF c) : c 0 = nI (c 0).toNatClampNeg ∧ 2 ≤ (c 0).toNatClampNeg ∧ (c 0).toNatClampNeg ≤ 6 := by
  obtain ⟨⟨L, h1, h2, h3⟩, -⟩ := h
  have : (c 0).toNatClampNeg = L := by rw [h3, nI_clamp (by omega)]
  rw [this]
  exact ⟨h3, h1, h2⟩
theorem cWF_bits {c : Nat → Int32} (h : cWF c) : zBits c = nI (zBits c).toNatClampNeg ∧ 1 ≤ (zBits c).toNatClampNeg ∧ (zBits c).toNatClampNeg ≤ 8 := by
  obtain ⟨-, ⟨K, h1, h2, h3⟩, -⟩ := h
  have key : ∀ v : Int32, ∀ m : Nat, v = nI m → 1 ≤ m → m ≤ 8 → v = nI v.toNatClampNeg ∧ 1 ≤ v.toNatClampNeg ∧ v.toNatClampNeg ≤ 8 := by
    intro v m e a b
    have : v.toNatClampNeg = m := by rw [e, nI_clamp (by omega)]
    rw [this]
    exact ⟨e, a, b⟩
  unfold zBits
  split
  · exact key _ K h3 h1 h2
  · split
    · exact key _ 8 rfl (by decide) (by decide)
    · exact key _ 1 rfl (by decide) (by decide)
theorem nI_dec (d : Nat) : nI d + Int32.ofInt (-1) = nI d - 1 := by
  rw [Int32.sub_eq_add_neg]
  rfl
theorem zok_7 {j : Nat} (h : j < 5) : zok 7 j := Or.inr (Or.inl ⟨rfl, h⟩)
theorem zok_8 {j : Nat} (h : j < 7) : zok 8 j := Or.inr (Or.inr ⟨rfl, h⟩)
end
section
set_option maxHeartbeats 4000000 in
set_option maxRecDepth 100000 in
theorem c_X5_startsItem (l : Launch) (G : zG) (n : Nat) (h : zH) (c : Int32) : Met l yX5_startsItem (zws yX5_startsItem cX5_startsItem 1 (some .boolean)) (zrm 0 0 0 0) (zPc G n (h) [.int c]) (zQi G n (zItem c) (h)) 0 0 (zA G) := by
  refine zMet npX5_startsItem rfl (Nat.le_of_ble_eq_true rfl) ?_
  intro p e s m args below meth cd hargs cx hr hin0
  have cx : Cx p s m args meth cd cX5_startsItem 1 RX5 G := cx
  refine x_ls (ls' := [some (.int c)]) rfl (fun _ h => h) ?_
  refine x_iload_n cx dX5_startsItem_0 rfl rfl ?_
  refine x_bipush (v := 48) cx dX5_startsItem_1 (by decide) ?_
  refine x_icmp_eq (tgt := 36) cx dX5_startsItem_3 (by decide) (fun hb3 => ?_) (fun hb3 => ?_)
  · refine x_iconst (v := 1) cx dX5_startsItem_36 (by decide) ?_
    refine x_goto (tgt := 41) cx dX5_startsItem_37 (by decide) ?_
    exact x_zret cx hr (by simp [zItem, hb3]) (by first | exact Or.inl rfl | exact Or.inr rfl) (fun _ _ _ _ => rfl) dX5_startsItem_41
  · refine x_iload_n cx dX5_startsItem_6 rfl rfl ?_
    refine x_bipush (v := 49) cx dX5_startsItem_7 (by decide) ?_
    refine x_icmp_eq (tgt := 36) cx dX5_startsItem_9 (by decide) (fun hb9 => ?_) (fun hb9 => ?_)
    · refine x_iconst (v := 1) cx dX5_startsItem_36 (by decide) ?_
      refine x_goto (tgt := 41) cx dX5_startsItem_37 (by decide) ?_
      exact x_zret cx hr (by simp [zItem, hb3, hb9]) (by first | exact Or.inl rfl | exact Or.inr rfl) (fun _ _ _ _ => rfl) dX5_startsItem_41
    · refine x_iload_n cx dX5_startsItem_12 rfl rfl ?_
      refine x_bipush (v := 97) cx dX5_startsItem_13 (by decide) ?_
      refine x_icmp_eq (tgt := 36) cx dX5_startsItem_15 (by decide) (fun hb15 => ?_) (fun hb15 => ?_)
      · refine x_iconst (v := 1) cx dX5_startsItem_36 (by decide) ?_
        refine x_goto (tgt := 41) cx dX5_startsItem_37 (by decide) ?_
        exact x_zret cx hr (by simp [zItem, hb3, hb9, hb15]) (by first | exact Or.inl rfl | exact Or.inr rfl) (fun _ _ _ _ => rfl) dX5_startsItem_41
      · refine x_iload_n cx dX5_startsItem_18 rfl rfl ?_
        refine x_bipush (v := 98) cx dX5_startsItem_19 (by decide) ?_
        refine x_icmp_eq (tgt := 36) cx dX5_startsItem_21 (by decide) (fun hb21 => ?_) (fun hb21 => ?_)
        · refine x_iconst (v := 1) cx dX5_startsItem_36 (by decide) ?_
          refine x_goto (tgt := 41) cx dX5_startsItem_37 (by decide) ?_
          exact x_zret cx hr (by simp [zItem, hb3, hb9, hb15, hb21]) (by first | exact Or.inl rfl | exact Or.inr rfl) (fun _ _ _ _ => rfl) dX5_startsItem_41
        · refine x_iload_n cx dX5_startsItem_24 rfl rfl ?_
          refine x_bipush (v := 63) cx dX5_startsItem_25 (by decide) ?_
          refine x_icmp_eq (tgt := 36) cx dX5_startsItem_27 (by decide) (fun hb27 => ?_) (fun hb27 => ?_)
          · refine x_iconst (v := 1) cx dX5_startsItem_36 (by decide) ?_
            refine x_goto (tgt := 41) cx dX5_startsItem_37 (by decide) ?_
            exact x_zret cx hr (by simp [zItem, hb3, hb9, hb15, hb21, hb27]) (by first | exact Or.inl rfl | exact Or.inr rfl) (fun _ _ _ _ => rfl) dX5_startsItem_41
          · refine x_iload_n cx dX5_startsItem_30 rfl rfl ?_
            refine x_bipush (v := 64) cx dX5_startsItem_31 (by decide) ?_
            refine x_icmp_ne (tgt := 40) cx dX5_startsItem_33 (by decide) (fun hb33 => ?_) (fun hb33 => ?_)
            · refine x_iconst (v := 0) cx dX5_startsItem_40 (by decide) ?_
              exact x_zret cx hr (by simp [zItem, hb3, hb9, hb15, hb21, hb27, hb33]) (by first | exact Or.inl rfl | exact Or.inr rfl) (fun _ _ _ _ => rfl) dX5_startsItem_41
            · refine x_iconst (v := 1) cx dX5_startsItem_36 (by decide) ?_
              refine x_goto (tgt := 41) cx dX5_startsItem_37 (by decide) ?_
              exact x_zret cx hr (by simp [zItem, hb3, hb9, hb15, hb21, hb27, hb33]) (by first | exact Or.inl rfl | exact Or.inr rfl) (fun _ _ _ _ => rfl) dX5_startsItem_41

set_option maxHeartbeats 4000000 in
set_option maxRecDepth 100000 in
theorem c_X5_hexValue (l : Launch) (G : zG) (n : Nat) (h : zH) (c : Int32) : Met l yX5_hexValue (zws yX5_hexValue cX5_hexValue 1 (some .int)) (zrm 0 0 0 0) (zPc G n (h) [.int c]) (zQi G n (zHex c) (h)) 0 0 (zA G) := by
  refine zMet npX5_hexValue rfl (Nat.le_of_ble_eq_true rfl) ?_
  intro p e s m args below meth cd hargs cx hr hin0
  have cx : Cx p s m args meth cd cX5_hexValue 1 RX5 G := cx
  refine x_ls (ls' := [some (.int c)]) rfl (fun _ h => h) ?_
  refine x_iload_n cx dX5_hexValue_0 rfl rfl ?_
  refine x_bipush (v := 48) cx dX5_hexValue_1 (by decide) ?_
  refine x_icmp_lt (tgt := 17) cx dX5_hexValue_3 (by decide) (fun hb3 => ?_) (fun hb3 => ?_)
  · refine x_iload_n cx dX5_hexValue_17 rfl rfl ?_
    refine x_bipush (v := 97) cx dX5_hexValue_18 (by decide) ?_
    refine x_icmp_lt (tgt := 37) cx dX5_hexValue_20 (by decide) (fun hb20 => ?_) (fun hb20 => ?_)
    · refine x_iconst (v := (-1)) cx dX5_hexValue_37 (by decide) ?_
      exact x_iret cx hr (by simp [zHex, zHex2, hb3, hb20]) (fun _ _ _ _ => rfl) dX5_hexValue_38
    · refine x_iload_n cx dX5_hexValue_23 rfl rfl ?_
      refine x_bipush (v := 102) cx dX5_hexValue_24 (by decide) ?_
      refine x_icmp_gt (tgt := 37) cx dX5_hexValue_26 (by decide) (fun hb26 => ?_) (fun hb26 => ?_)
      · refine x_iconst (v := (-1)) cx dX5_hexValue_37 (by decide) ?_
        exact x_iret cx hr (by simp [zHex, zHex2, hb3, hb20, hb26]) (fun _ _ _ _ => rfl) dX5_hexValue_38
      · refine x_iload_n cx dX5_hexValue_29 rfl rfl ?_
        refine x_bipush (v := 97) cx dX5_hexValue_30 (by decide) ?_
        refine x_isub cx dX5_hexValue_32 ?_
        refine x_bipush (v := 10) cx dX5_hexValue_33 (by decide) ?_
        refine x_iadd cx dX5_hexValue_35 ?_
        exact x_iret cx hr (by simp [zHex, zHex2, hb3, hb20, hb26]) (fun _ _ _ _ => rfl) dX5_hexValue_36
  · refine x_iload_n cx dX5_hexValue_6 rfl rfl ?_
    refine x_bipush (v := 57) cx dX5_hexValue_7 (by decide) ?_
    refine x_icmp_gt (tgt := 17) cx dX5_hexValue_9 (by decide) (fun hb9 => ?_) (fun hb9 => ?_)
    · refine x_iload_n cx dX5_hexValue_17 rfl rfl ?_
      refine x_bipush (v := 97) cx dX5_hexValue_18 (by decide) ?_
      refine x_icmp_lt (tgt := 37) cx dX5_hexValue_20 (by decide) (fun hb20 => ?_) (fun hb20 => ?_)
      · refine x_iconst (v := (-1)) cx dX5_hexValue_37 (by decide) ?_
        exact x_iret cx hr (by simp [zHex, zHex2, hb3, hb9, hb20]) (fun _ _ _ _ => rfl) dX5_hexValue_38
      · refine x_iload_n cx dX5_hexValue_23 rfl rfl ?_
        refine x_bipush (v := 102) cx dX5_hexValue_24 (by decide) ?_
        refine x_icmp_gt (tgt := 37) cx dX5_hexValue_26 (by decide) (fun hb26 => ?_) (fun hb26 => ?_)
        · refine x_iconst (v := (-1)) cx dX5_hexValue_37 (by decide) ?_
          exact x_iret cx hr (by simp [zHex, zHex2, hb3, hb9, hb20, hb26]) (fun _ _ _ _ => rfl) dX5_hexValue_38
        · refine x_iload_n cx dX5_hexValue_29 rfl rfl ?_
          refine x_bipush (v := 97) cx dX5_hexValue_30 (by decide) ?_
          refine x_isub cx dX5_hexValue_32 ?_
          refine x_bipush (v := 10) cx dX5_hexValue_33 (by decide) ?_
          refine x_iadd cx dX5_hexValue_35 ?_
          exact x_iret cx hr (by simp [zHex, zHex2, hb3, hb9, hb20, hb26]) (fun _ _ _ _ => rfl) dX5_hexValue_36
    · refine x_iload_n cx dX5_hexValue_12 rfl rfl ?_
      refine x_bipush (v := 48) cx dX5_hexValue_13 (by decide) ?_
      refine x_isub cx dX5_hexValue_15 ?_
      exact x_iret cx hr (by simp [zHex, zHex2, hb3, hb9]) (fun _ _ _ _ => rfl) dX5_hexValue_16

set_option maxHeartbeats 4000000 in
set_option maxRecDepth 100000 in
theorem c_X5_write (l : Launch) (G : zG) (S : zS) (L : Nat) (hL : S 7 0 2 = nI L) (h80 : L < 80) (x : Int32) : Met l yX5_write (zws yX5_write cX5_write 2 (some .int)) (zrm 0 0 0 0) (zPc G 75 (pic G S) [.ref (zad G 7 3), .int x]) (zQi G 75 (nI (L + 1)) (pic G (up S 7 (uj (uj (S 7) 2 (upd (S 7 2) L (zCh x))) 0 (upd (S 7 0) 2 (nI (L + 1))))))) 0 0 (zA G) := by
  refine zMet npX5_write rfl (Nat.le_of_ble_eq_true rfl) ?_
  intro p e s m args below meth cd hargs cx hr hin0
  have cx : Cx p s m args meth cd cX5_write 2 RX5 G := cx
  refine x_ls (ls' := [some (.ref (zad G 7 3)), some (.int x)]) rfl (fun _ h => h) ?_
  refine x_aload_n cx dX5_write_0 rfl rfl ?_
  refine x_getX5 cx 1 (by decide) (fl_X5_15 cx) (zok_7 (by decide)) (by decide) (p_script) rfl dX5_write_1 ?_
  refine x_eqi hL ?_
  refine x_aload_n cx dX5_write_4 rfl rfl ?_
  refine x_getX5 cx 0 (by decide) (fl_X5_9 cx) (zok_7 (by decide)) (by decide) (p_script) rfl dX5_write_5 ?_
  refine x_aleni cx 1 rfl (zok_7 (by decide)) (by decide) (p_chars) dX5_write_8 ?_
  refine x_icmp_ge_f (tgt := 33) cx dX5_write_9 (by decide) (nI_ge (b := 80) h80 (by decide)) ?_
  refine x_aload_n cx dX5_write_12 rfl rfl ?_
  refine x_getX5 cx 0 (by decide) (fl_X5_9 cx) (zok_7 (by decide)) (by decide) (p_script) rfl dX5_write_13 ?_
  refine x_aload_n cx dX5_write_16 rfl rfl ?_
  refine x_getX5 cx 1 (by decide) (fl_X5_15 cx) (zok_7 (by decide)) (by decide) (p_script) rfl dX5_write_17 ?_
  refine x_iload_n cx dX5_write_20 rfl rfl ?_
  refine x_i2c cx dX5_write_21 rfl ?_
  refine x_cast (t := L) cx (zok_7 (by decide)) (by decide) (p_chars) hL h80 (by decide) (pp_chars h80) dX5_write_22 ?_
  refine x_aload_n cx dX5_write_23 rfl rfl ?_
  refine x_dup cx dX5_write_24 rfl ?_
  refine x_getX5 cx 1 (by decide) (fl_X5_15 cx) (zok_7 (by decide)) (by decide) (p_script) rfl dX5_write_25 ?_
  refine x_eqi (show _ = nI L from hL) ?_
  refine x_iconst (v := 1) cx dX5_write_28 (by decide) ?_
  refine x_iadd cx dX5_write_29 ?_
  refine x_eqi (nI_1 L) ?_
  refine x_putX5 cx 1 (by decide) (fl_X5_15 cx) (zok_7 (by decide)) (by decide) (p_script) rfl rfl rfl (Nat.le_of_ble_eq_true rfl) (pp_script_length) dX5_write_30 ?_
  refine x_aload_n cx dX5_write_33 rfl rfl ?_
  refine x_getX5 cx 1 (by decide) (fl_X5_15 cx) (zok_7 (by decide)) (by decide) (p_script) rfl dX5_write_34 ?_
  exact x_iret cx hr rfl (by intro _ _ _ _; rw [up_up, up_same]; rfl) dX5_write_37

set_option maxHeartbeats 4000000 in
set_option maxRecDepth 100000 in
theorem c_X5_wipe (l : Launch) (G : zG) (S : zS) : Met l yX5_wipe (zws yX5_wipe cX5_wipe 2 (some .int)) (zrm 0 0 0 0) (zPc G 75 (pic G S) [.ref (zad G 7 3)]) (zQi G 75 (S 7 0 2) (pic G (up S 7 (uj (S 7) 0 (upd (S 7 0) 2 0))))) 0 0 (zA G) := by
  refine zMet npX5_wipe rfl (Nat.le_of_ble_eq_true rfl) ?_
  intro p e s m args below meth cd hargs cx hr hin0
  have cx : Cx p s m args meth cd cX5_wipe 2 RX5 G := cx
  refine x_ls (ls' := [some (.ref (zad G 7 3)), none]) rfl (fun _ h => h) ?_
  refine x_aload_n cx dX5_wipe_0 rfl rfl ?_
  refine x_getX5 cx 1 (by decide) (fl_X5_15 cx) (zok_7 (by decide)) (by decide) (p_script) rfl dX5_wipe_1 ?_
  refine x_istore_n (ls' := [_, _]) cx dX5_wipe_4 rfl (by decide) rfl ?_
  refine x_aload_n cx dX5_wipe_5 rfl rfl ?_
  refine x_iconst (v := 0) cx dX5_wipe_6 (by decide) ?_
  refine x_putX5 cx 1 (by decide) (fl_X5_15 cx) (zok_7 (by decide)) (by decide) (p_script) rfl rfl rfl (Nat.le_of_ble_eq_true rfl) (pp_script_length) dX5_wipe_7 ?_
  refine x_iload_n cx dX5_wipe_10 rfl rfl ?_
  exact x_iret cx hr rfl (fun _ _ _ _ => rfl) dX5_wipe_11

set_option maxHeartbeats 4000000 in
set_option maxRecDepth 100000 in
theorem c_X5_hexAt (l : Launch) (G : zG) (S : zS) (i : Nat) (hi : i < 7) (X : zCV) (L k : Nat) (hL : S 7 0 2 = nI L) (h80 : L ≤ 80) (hk : k < L) : Met l yX5_hexAt (zws yX5_hexAt cX5_hexAt 2 (some .int)) (zrm 1 0 0 20) (zPc G 75 (pic G (up S i X)) [.ref (zad G 7 3), .int (nI k)]) (zQi G 75 (zHex (S 7 2 k)) (pic G (up S i X))) 0 0 (zA G) := by
  refine zMet npX5_hexAt rfl (Nat.le_of_ble_eq_true rfl) ?_
  intro p e s m args below meth cd hargs cx hr hin0
  have cx : Cx p s m args meth cd cX5_hexAt 2 RX5 G := cx
  refine x_ls (ls' := [some (.ref (zad G 7 3)), some (.int (nI k))]) rfl (fun _ h => h) ?_
  refine x_iload_n cx dX5_hexAt_0 rfl rfl ?_
  refine x_if_lt_f (tgt := 24) cx dX5_hexAt_1 (by decide) (nI_pos (by omega)) ?_
  refine x_iload_n cx dX5_hexAt_4 rfl rfl ?_
  refine x_aload_n cx dX5_hexAt_5 rfl rfl ?_
  refine x_getX5 cx 1 (by decide) (fl_X5_15 cx) (zok_7 (by decide)) (by decide) (p_script' hi) rfl dX5_hexAt_6 ?_
  refine x_eqi hL ?_
  refine x_icmp_ge_f (tgt := 24) cx dX5_hexAt_9 (by decide) (nI_ge hk (by omega)) ?_
  refine x_aload_n cx dX5_hexAt_12 rfl rfl ?_
  refine x_getX5 cx 0 (by decide) (fl_X5_9 cx) (zok_7 (by decide)) (by decide) (p_script' hi) rfl dX5_hexAt_13 ?_
  refine x_iload_n cx dX5_hexAt_16 rfl rfl ?_
  refine x_cald (t := k) cx (zok_7 (by decide)) (by decide) (p_chars' hi) rfl (by omega) (by decide) (tr_lt (by omega)) dX5_hexAt_17 ?_
  refine x_Si (rest := []) cx (c_X5_hexValue l G _ _ _) gS_X5_19 ndX5_hexValue ⟨Nat.le_of_ble_eq_true rfl, Nat.le_of_ble_eq_true rfl⟩ rfl rfl (Nat.le_of_ble_eq_true rfl) dX5_hexAt_18 ⟨Nat.le_of_ble_eq_true rfl, Nat.le_of_ble_eq_true rfl⟩ ?_
  refine x_goto (tgt := 25) cx dX5_hexAt_21 (by decide) ?_
  exact x_iret cx hr rfl (fun _ _ _ _ => rfl) dX5_hexAt_25

set_option maxHeartbeats 4000000 in
set_option maxRecDepth 100000 in
theorem c_X5_firstFault (l : Launch) (G : zG) (S : zS) (L : Nat) (hL : S 7 0 2 = nI L) (h80 : L ≤ 80) : Met l yX5_firstFault (zws yX5_firstFault cX5_firstFault 5 (some .int)) (zrm 1 0 0 20) (zPc G 75 (pic G S) [.ref (zad G 7 3)]) (zQi G 75 (zFault (S 7 2) L) (pic G S)) 0 0 (zA G) := by
  refine zMet npX5_firstFault rfl (Nat.le_of_ble_eq_true rfl) ?_
  intro p e s m args below meth cd hargs cx hr hin0
  have cx : Cx p s m args meth cd cX5_firstFault 5 RX5 G := cx
  refine x_ls (ls' := [some (.ref (zad G 7 3)), none, none, none, none]) rfl (fun _ h => h) ?_
  refine x_iconst (v := 0) cx dX5_firstFault_0 (by decide) ?_
  refine x_istore_n (ls' := [_, _, _, _, _]) cx dX5_firstFault_1 rfl (by decide) rfl ?_
  refine x_iconst (v := 0) cx dX5_firstFault_2 (by decide) ?_
  refine x_istore_n (ls' := [_, _, _, _, _]) cx dX5_firstFault_3 rfl (by decide) rfl ?_
  unfold zFault
  suffices K : ∀ (f k : Nat) (w : Int32), k + f = L → Xh p l e _ s m args below meth cd 5 G (MQ below (zQi G 75 (zFltL (S 7 2) f k w) (pic G S)) args s 0 0 (zA G)) 0 0 75 (pic G S) 4 [some (.ref (zad G 7 3)), some (.int w), some (.int (nI k)), none, none] [] from K L 0 0 (by omega)
  intro f
  induction f with
  | zero =>
    intro k w hk
    obtain rfl : k = L := by omega
    have hz : 0 < nI k ↔ 0 < k := nI_ltI (a := 0) (by decide) (by omega)
    refine x_iload_n cx dX5_firstFault_4 rfl rfl ?_
    refine x_aload_n cx dX5_firstFault_5 rfl rfl ?_
    refine x_getX5 cx 1 (by decide) (fl_X5_15 cx) (zok_7 (by decide)) (by decide) (p_script) rfl dX5_firstFault_6 ?_
    refine x_eqi hL ?_
    refine x_icmp_ge_t (tgt := 74) cx dX5_firstFault_9 (by decide) (nI_le (Nat.le_refl _) (by omega)) ?_
    refine x_aload_n cx dX5_firstFault_74 rfl rfl ?_
    refine x_getX5 cx 1 (by decide) (fl_X5_15 cx) (zok_7 (by decide)) (by decide) (p_script) rfl dX5_firstFault_75 ?_
    refine x_eqi hL ?_
    refine x_if_le (tgt := 89) cx dX5_firstFault_78 (by decide) (fun hb78 => ?_) (fun hb78 => ?_)
    · refine x_iconst (v := 0) cx dX5_firstFault_89 (by decide) ?_
      refine x_istore_n (ls' := [_, _, _, _, _]) cx dX5_firstFault_90 rfl (by decide) rfl ?_
      refine x_iload_n cx dX5_firstFault_91 rfl rfl ?_
      refine x_if_eq_t (tgt := 100) cx dX5_firstFault_92 (by decide) (by decide) ?_
      refine x_aload_n cx dX5_firstFault_100 rfl rfl ?_
      refine x_getX5 cx 1 (by decide) (fl_X5_15 cx) (zok_7 (by decide)) (by decide) (p_script) rfl dX5_firstFault_101 ?_
      refine x_eqi hL ?_
      exact x_iret cx hr (by unfold zFltL; rw [if_neg (fun z => absurd (hz.mpr z) (Int32.not_lt.mpr hb78))]) (fun _ _ _ _ => rfl) dX5_firstFault_104
    · refine x_iload_n cx dX5_firstFault_81 rfl rfl ?_
      refine x_if_ne (tgt := 89) cx dX5_firstFault_82 (by decide) (fun hb82 => ?_) (fun hb82 => ?_)
      · refine x_iconst (v := 0) cx dX5_firstFault_89 (by decide) ?_
        refine x_istore_n (ls' := [_, _, _, _, _]) cx dX5_firstFault_90 rfl (by decide) rfl ?_
        refine x_iload_n cx dX5_firstFault_91 rfl rfl ?_
        refine x_if_eq_t (tgt := 100) cx dX5_firstFault_92 (by decide) (by decide) ?_
        refine x_aload_n cx dX5_firstFault_100 rfl rfl ?_
        refine x_getX5 cx 1 (by decide) (fl_X5_15 cx) (zok_7 (by decide)) (by decide) (p_script) rfl dX5_firstFault_101 ?_
        refine x_eqi hL ?_
        exact x_iret cx hr (by unfold zFltL; have hk0 : 0 < k := (hz.mp (Int32.not_le.mp hb78)); rw [if_pos hk0, if_neg hb82]) (fun _ _ _ _ => rfl) dX5_firstFault_104
      · refine x_iconst (v := 1) cx dX5_firstFault_85 (by decide) ?_
        refine x_goto (tgt := 90) cx dX5_firstFault_86 (by decide) ?_
        refine x_istore_n (ls' := [_, _, _, _, _]) cx dX5_firstFault_90 rfl (by decide) rfl ?_
        refine x_iload_n cx dX5_firstFault_91 rfl rfl ?_
        refine x_if_eq_f (tgt := 100) cx dX5_firstFault_92 (by decide) (by decide) ?_
        refine x_bipush (v := (-4)) cx dX5_firstFault_95 (by decide) ?_
        refine x_goto (tgt := 104) cx dX5_firstFault_97 (by decide) ?_
        exact x_iret cx hr (by unfold zFltL; have hk0 : 0 < k := (hz.mp (Int32.not_le.mp hb78)); rw [if_pos hk0, if_pos hb82]) (fun _ _ _ _ => rfl) dX5_firstFault_104
  | succ f ih =>
    intro k w hk
    refine x_iload_n cx dX5_firstFault_4 rfl rfl ?_
    refine x_aload_n cx dX5_firstFault_5 rfl rfl ?_
    refine x_getX5 cx 1 (by decide) (fl_X5_15 cx) (zok_7 (by decide)) (by decide) (p_script) rfl dX5_firstFault_6 ?_
    refine x_eqi hL ?_
    refine x_icmp_ge_f (tgt := 74) cx dX5_firstFault_9 (by decide) (nI_ge (by omega) (by omega)) ?_
    refine x_aload_n cx dX5_firstFault_12 rfl rfl ?_
    refine x_getX5 cx 0 (by decide) (fl_X5_9 cx) (zok_7 (by decide)) (by decide) (p_script) rfl dX5_firstFault_13 ?_
    refine x_iload_n cx dX5_firstFault_16 rfl rfl ?_
    refine x_cald (t := k) cx (zok_7 (by decide)) (by decide) (p_chars) rfl (by omega) (by decide) (tr_lt (by omega)) dX5_firstFault_17 ?_
    refine x_istore_n (ls' := [_, _, _, _, _]) cx dX5_firstFault_18 rfl (by decide) rfl ?_
    refine x_iload_n cx dX5_firstFault_19 rfl rfl ?_
    refine x_if_eq (tgt := 39) cx dX5_firstFault_20 (by decide) (fun hb20 => ?_) (fun hb20 => ?_)
    · refine x_iload_n cx dX5_firstFault_39 rfl rfl ?_
      refine x_Si (rest := []) cx (c_X5_startsItem l G _ _ _) gS_X5_23 ndX5_startsItem ⟨Nat.le_of_ble_eq_true rfl, Nat.le_of_ble_eq_true rfl⟩ rfl rfl (Nat.le_of_ble_eq_true rfl) dX5_firstFault_40 ⟨Nat.le_of_ble_eq_true rfl, Nat.le_of_ble_eq_true rfl⟩ ?_
      refine x_istore (ls' := [_, _, _, _, _]) cx dX5_firstFault_43 (by decide) rfl ?_
      refine x_iload cx dX5_firstFault_45 rfl ?_
      refine x_if_ne (tgt := 52) cx dX5_firstFault_47 (by decide) (fun hb47 => ?_) (fun hb47 => ?_)
      · refine x_iload_n cx dX5_firstFault_52 rfl rfl ?_
        refine x_if_ne (tgt := 66) cx dX5_firstFault_53 (by decide) (fun hb53 => ?_) (fun hb53 => ?_)
        · refine x_iconst (v := 0) cx dX5_firstFault_66 (by decide) ?_
          refine x_istore_n (ls' := [_, _, _, _, _]) cx dX5_firstFault_67 rfl (by decide) rfl ?_
          refine x_iinc (v := nI (k + 1)) (ls' := [_, _, _, _, _]) cx dX5_firstFault_68 rfl (nI_inc _) (by decide) rfl ?_
          refine x_goto (tgt := 4) cx dX5_firstFault_71 (by decide) ?_
          have h9 := ih (k + 1) (zNw w (S 7 2 k)) (by omega)
          exact absurd hb20 hb53
        · refine x_iload_n cx dX5_firstFault_56 rfl rfl ?_
          refine x_bipush (v := 64) cx dX5_firstFault_57 (by decide) ?_
          refine x_icmp_ne (tgt := 66) cx dX5_firstFault_59 (by decide) (fun hb59 => ?_) (fun hb59 => ?_)
          · refine x_iconst (v := 0) cx dX5_firstFault_66 (by decide) ?_
            refine x_istore_n (ls' := [_, _, _, _, _]) cx dX5_firstFault_67 rfl (by decide) rfl ?_
            refine x_iinc (v := nI (k + 1)) (ls' := [_, _, _, _, _]) cx dX5_firstFault_68 rfl (nI_inc _) (by decide) rfl ?_
            refine x_goto (tgt := 4) cx dX5_firstFault_71 (by decide) ?_
            have h9 := ih (k + 1) (zNw w (S 7 2 k)) (by omega)
            have hw1 : zNw w (S 7 2 k) = 0 := by unfold zNw; rw [if_pos hb20, if_neg hb59]
            have hf : ¬ zFit w (S 7 2 k) = 0 := by unfold zFit; rw [if_pos hb20]; exact hb47
            unfold zFltL
            rw [if_neg hf, hw1]
            rw [hw1] at h9
            exact x_ls rfl (by simp [lo]) h9
          · refine x_iconst (v := 1) cx dX5_firstFault_62 (by decide) ?_
            refine x_goto (tgt := 67) cx dX5_firstFault_63 (by decide) ?_
            refine x_istore_n (ls' := [_, _, _, _, _]) cx dX5_firstFault_67 rfl (by decide) rfl ?_
            refine x_iinc (v := nI (k + 1)) (ls' := [_, _, _, _, _]) cx dX5_firstFault_68 rfl (nI_inc _) (by decide) rfl ?_
            refine x_goto (tgt := 4) cx dX5_firstFault_71 (by decide) ?_
            have h9 := ih (k + 1) (zNw w (S 7 2 k)) (by omega)
            have hw1 : zNw w (S 7 2 k) = 1 := by unfold zNw; rw [if_pos hb20, if_pos hb59]
            have hf : ¬ zFit w (S 7 2 k) = 0 := by unfold zFit; rw [if_pos hb20]; exact hb47
            unfold zFltL
            rw [if_neg hf, hw1]
            rw [hw1] at h9
            exact x_ls rfl (by simp [lo]) h9
      · refine x_iload_n cx dX5_firstFault_50 rfl rfl ?_
        exact x_iret cx hr (by unfold zFltL; rw [if_pos (show zFit w (S 7 2 k) = 0 by unfold zFit; rw [if_pos hb20]; exact hb47)]) (fun _ _ _ _ => rfl) dX5_firstFault_51
    · refine x_iload_n cx dX5_firstFault_23 rfl rfl ?_
      refine x_Si (rest := []) cx (c_X5_hexValue l G _ _ _) gS_X5_19 ndX5_hexValue ⟨Nat.le_of_ble_eq_true rfl, Nat.le_of_ble_eq_true rfl⟩ rfl rfl (Nat.le_of_ble_eq_true rfl) dX5_firstFault_24 ⟨Nat.le_of_ble_eq_true rfl, Nat.le_of_ble_eq_true rfl⟩ ?_
      refine x_iconst (v := (-1)) cx dX5_firstFault_27 (by decide) ?_
      refine x_icmp_eq (tgt := 35) cx dX5_firstFault_28 (by decide) (fun hb28 => ?_) (fun hb28 => ?_)
      · refine x_iconst (v := 0) cx dX5_firstFault_35 (by decide) ?_
        refine x_goto (tgt := 43) cx dX5_firstFault_36 (by decide) ?_
        refine x_istore (ls' := [_, _, _, _, _]) cx dX5_firstFault_43 (by decide) rfl ?_
        refine x_iload cx dX5_firstFault_45 rfl ?_
        refine x_if_ne_f (tgt := 52) cx dX5_firstFault_47 (by decide) (by decide) ?_
        refine x_iload_n cx dX5_firstFault_50 rfl rfl ?_
        exact x_iret cx hr (by unfold zFltL; rw [if_pos (show zFit w (S 7 2 k) = 0 by unfold zFit; rw [if_neg hb20, if_pos hb28])]) (fun _ _ _ _ => rfl) dX5_firstFault_51
      · refine x_iconst (v := 1) cx dX5_firstFault_31 (by decide) ?_
        refine x_goto (tgt := 43) cx dX5_firstFault_32 (by decide) ?_
        refine x_istore (ls' := [_, _, _, _, _]) cx dX5_firstFault_43 (by decide) rfl ?_
        refine x_iload cx dX5_firstFault_45 rfl ?_
        refine x_if_ne_t (tgt := 52) cx dX5_firstFault_47 (by decide) (by decide) ?_
        refine x_iload_n cx dX5_firstFault_52 rfl rfl ?_
        refine x_if_ne (tgt := 66) cx dX5_firstFault_53 (by decide) (fun hb53 => ?_) (fun hb53 => ?_)
        · refine x_iconst (v := 0) cx dX5_firstFault_66 (by decide) ?_
          refine x_istore_n (ls' := [_, _, _, _, _]) cx dX5_firstFault_67 rfl (by decide) rfl ?_
          refine x_iinc (v := nI (k + 1)) (ls' := [_, _, _, _, _]) cx dX5_firstFault_68 rfl (nI_inc _) (by decide) rfl ?_
          refine x_goto (tgt := 4) cx dX5_firstFault_71 (by decide) ?_
          have h9 := ih (k + 1) (zNw w (S 7 2 k)) (by omega)
          have hw1 : zNw w (S 7 2 k) = 0 := by unfold zNw; rw [if_neg hb20]
          have hf : ¬ zFit w (S 7 2 k) = 0 := by unfold zFit; rw [if_neg hb20, if_neg hb28]; decide
          unfold zFltL
          rw [if_neg hf, hw1]
          rw [hw1] at h9
          exact x_ls rfl (by simp [lo]) h9
        · refine x_iload_n cx dX5_firstFault_56 rfl rfl ?_
          refine x_bipush (v := 64) cx dX5_firstFault_57 (by decide) ?_
          refine x_icmp_ne (tgt := 66) cx dX5_firstFault_59 (by decide) (fun hb59 => ?_) (fun hb59 => ?_)
          · refine x_iconst (v := 0) cx dX5_firstFault_66 (by decide) ?_
            refine x_istore_n (ls' := [_, _, _, _, _]) cx dX5_firstFault_67 rfl (by decide) rfl ?_
            refine x_iinc (v := nI (k + 1)) (ls' := [_, _, _, _, _]) cx dX5_firstFault_68 rfl (nI_inc _) (by decide) rfl ?_
            refine x_goto (tgt := 4) cx dX5_firstFault_71 (by decide) ?_
            have h9 := ih (k + 1) (zNw w (S 7 2 k)) (by omega)
            exact absurd hb53 hb20
          · refine x_iconst (v := 1) cx dX5_firstFault_62 (by decide) ?_
            refine x_goto (tgt := 67) cx dX5_firstFault_63 (by decide) ?_
            refine x_istore_n (ls' := [_, _, _, _, _]) cx dX5_firstFault_67 rfl (by decide) rfl ?_
            refine x_iinc (v := nI (k + 1)) (ls' := [_, _, _, _, _]) cx dX5_firstFault_68 rfl (nI_inc _) (by decide) rfl ?_
            refine x_goto (tgt := 4) cx dX5_firstFault_71 (by decide) ?_
            have h9 := ih (k + 1) (zNw w (S 7 2 k)) (by omega)
            exact absurd hb53 hb20
end
section
/-! ===== small facts for the rows of History and Master ===== -/
theorem zMd_1 {a b d : Nat} (ha : a < 16) (hb : b < 16) (hd : dst a b = d + 1) (h : ¬ nI (dst (nx a 0) b) = nI d) : zMd a b = 1 := by
  have hne : a ≠ b := fun z => by have := (dst_0 a ha b hb).mpr z; omega
  have h1 := dst_t a ha b hb hne
  unfold zMd
  rw [if_neg (fun z => h (by rw [show dst (nx a 0) b = d by have := h1.mpr z; omega]))]
theorem zMd_0 {a b d : Nat} (ha : a < 16) (hb : b < 16) (hd : dst a b = d + 1) (h : nI (dst (nx a 0) b) = nI d) : zMd a b = 0 := by
  have h16 := dst_lt (nx a 0) (nx_lt ha 0) b hb
  have h17 := dst_lt a ha b hb
  have he : dst (nx a 0) b = d := (nI_eq (by omega) (by omega)).mp h
  unfold zMd
  rw [if_pos (by omega)]
theorem dst_go {a b d : Nat} (ha : a < 16) (hb : b < 16) (hd : dst a b = d + 1) : dst (nx a (zMd a b)) b = d := by
  have hne : a ≠ b := fun z => by have := (dst_0 a ha b hb).mpr z; omega
  have := dst_s a ha b hb hne
  omega
theorem zLm_0 {la : Int32} {L k : Nat} (h : la = 0) : zLm la L k = 0 := if_pos h
theorem zLm_n {la : Int32} {L k : Nat} (h : ¬ la = 0) (hk : k < L) (hL : L ≤ 8) (h2 : ¬ nI k = nI L - 1) : zLm la L k = 0 := by
  unfold zLm
  rw [if_neg h, if_neg (fun z => h2 (by rw [← z, nI_pred]))]
theorem zLm_y {la : Int32} {L k : Nat} (h : ¬ la = 0) (hk : k < L) (hL : L ≤ 8) (h2 : nI k = nI L - 1) : zLm la L k = 1 := by
  have h3 : k = L - 1 := (nI_eq (by omega) (by omega)).mp (by rw [h2, nI_sub1 (by omega)])
  unfold zLm
  rw [if_neg h, if_pos (by omega)]
theorem nI_ne4 {k : Nat} (h : k < 2 ^ 31) : ¬ nI k = -4 := fun z => by
  have h1 := nI_toInt h
  rw [z] at h1
  have h2 : (-4 : Int32).toInt = -4 := by decide
  omega
theorem flt_ot {T : Nat → Int32} {f k : Nat} (hk : k < 2 ^ 31) (h : zFltL T (f + 1) k 0 = -4) (hc : ¬ T k = 64) : zFltL T f (k + 1) 0 = -4 := by
  unfold zFltL at h
  by_cases h1 : zFit 0 (T k) = 0
  · rw [if_pos h1] at h; exact absurd h (nI_ne4 hk)
  · rw [if_neg h1] at h
    have : zNw 0 (T k) = 0 := by unfold zNw; rw [if_pos rfl, if_neg hc]
    rw [this] at h
    exact h
theorem flt_at {T : Nat → Int32} {f k : Nat} (hk : k + 1 < 2 ^ 31) (h : zFltL T (f + 1) k 0 = -4) (hc : T k = 64) : ∃ f', f = f' + 1 ∧ ¬ zHex (T (k + 1)) = -1 ∧ zFltL T f' (k + 2) 0 = -4 := by
  unfold zFltL at h
  by_cases h1 : zFit 0 (T k) = 0
  · rw [if_pos h1] at h; exact absurd h (nI_ne4 (by omega))
  · rw [if_neg h1] at h
    have : zNw 0 (T k) = 1 := by unfold zNw; rw [if_pos rfl, if_pos hc]
    rw [this] at h
    cases f with
    | zero =>
      unfold zFltL at h
      rw [if_pos (by omega), if_neg (by decide)] at h
      exact absurd h (nI_ne4 hk)
    | succ f =>
      refine ⟨f, rfl, ?_⟩
      unfold zFltL at h
      by_cases h2 : zFit 1 (T (k + 1)) = 0
      · rw [if_pos h2] at h; exact absurd h (nI_ne4 hk)
      · rw [if_neg h2] at h
        have hn : zNw 1 (T (k + 1)) = 0 := by unfold zNw; rw [if_neg (by decide)]
        rw [hn] at h
        refine ⟨fun z => h2 ?_, h⟩
        unfold zFit
        rw [if_neg (by decide), if_pos z]
theorem lt_neg {c : Int32} {k : Nat} (hk : k < 2 ^ 31) (h : c.toInt < 0) : c < nI k := by
  rw [Int32.lt_iff_toInt_lt, nI_toInt hk]
  omega
theorem lt_big {c : Int32} {k : Nat} (hk : k < 2 ^ 31) (h : (k : Int) < c.toInt) : nI k < c := by
  rw [Int32.lt_iff_toInt_lt, nI_toInt hk]
  exact h
theorem zHex_in {c : Int32} (h : ¬ zHex c = -1) : zHex c = nI (hexN c) ∧ hexN c < 16 := by
  have key : ∀ m, m < 16 → zHex c = nI m → zHex c = nI (hexN c) ∧ hexN c < 16 := by
    intro m hm e
    have : hexN c = m := by unfold hexN; rw [e, nI_clamp (by omega)]
    rw [this]
    exact ⟨e, hm⟩
  have c2 : zHex2 c = -1 ∨ ∃ m, m < 16 ∧ zHex2 c = nI m := by
    unfold zHex2
    by_cases h1 : c < 97
    · rw [if_pos h1]; exact Or.inl rfl
    · rw [if_neg h1]
      by_cases h2 : 102 < c
      · rw [if_pos h2]; exact Or.inl rfl
      · rw [if_neg h2]
        rcases sw_cases c 102 (by decide) with h3 | h3 | ⟨w, hw, rfl⟩
        · exact absurd (lt_neg (k := 97) (by decide) h3) h1
        · exact absurd (lt_big (k := 102) (by decide) h3) h2
        · have h97 : 97 ≤ w := Nat.not_lt.mp fun z => h1 (nI_lt (b := 97) z (by decide))
          refine Or.inr ⟨w - 97 + 10, by omega, ?_⟩
          rcases (show w = 97 ∨ w = 98 ∨ w = 99 ∨ w = 100 ∨ w = 101 ∨ w = 102 by omega) with rfl | rfl | rfl | rfl | rfl | rfl <;> decide
  by_cases h1 : c < 48
  · have e : zHex c = zHex2 c := by unfold zHex; rw [if_pos h1]
    rcases c2 with h2 | ⟨m, hm, h2⟩
    · exact absurd (e.trans h2) h
    · exact key m hm (e.trans h2)
  · by_cases h2 : 57 < c
    · have e : zHex c = zHex2 c := by unfold zHex; rw [if_neg h1, if_pos h2]
      rcases c2 with h3 | ⟨m, hm, h3⟩
      · exact absurd (e.trans h3) h
      · exact key m hm (e.trans h3)
    · have e : zHex c = c - 48 := by unfold zHex; rw [if_neg h1, if_neg h2]
      rcases sw_cases c 57 (by decide) with h3 | h3 | ⟨w, hw, rfl⟩
      · exact absurd (lt_neg (k := 48) (by decide) h3) h1
      · exact absurd (lt_big (k := 57) (by decide) h3) h2
      · have h48 : 48 ≤ w := Nat.not_lt.mp fun z => h1 (nI_lt (b := 48) z (by decide))
        refine key (w - 48) (by omega) (e.trans ?_)
        rcases (show w = 48 ∨ w = 49 ∨ w = 50 ∨ w = 51 ∨ w = 52 ∨ w = 53 ∨ w = 54 ∨ w = 55 ∨ w = 56 ∨ w = 57 by omega) with rfl | rfl | rfl | rfl | rfl | rfl | rfl | rfl | rfl | rfl <;> decide
theorem zRunO_end {T : Nat → Int32} {L k : Nat} (h : ¬ k < L) (f : Nat) (o : Int32) (q : Nat) (X : zCV) : zRunO T L f k o q X = o := by
  cases f with
  | zero => rfl
  | succ f => unfold zRunO; rw [if_neg h]
theorem zRunX_end {T : Nat → Int32} {L k : Nat} (h : ¬ k < L) (f : Nat) (X : zCV) : zRunX T L f k X = X := by
  cases f with
  | zero => rfl
  | succ f => unfold zRunX; rw [if_neg h]
/-! the history -/
theorem pcOg {G : zG} {S : zS} {i : Nat} (hi : i < 7) : pic G S i 0 = .inr (0, [.ref (zad G i 1), .int (S i 0 0), .int (S i 0 1), .int (S i 0 2), .ref (zad G i 2), .int (S i 0 3)]) := by
  rw [pic_c hi]; rfl
theorem rc_rot {S : zS} {k q : Nat} (h : k ≤ q) : rc (up S 7 (uj (S 7) 1 (rotL (S 7 1) k))) q = rc S q := by
  unfold rc
  rw [up_same, uj_same, rotL_ge h]
theorem rot_put {S : zS} {k : Nat} (hH : hWF S) (hk : k < 3) : up (up S 7 (uj (S 7) 1 (rotL (S 7 1) k))) 7 (uj (up S 7 (uj (S 7) 1 (rotL (S 7 1) k)) 7) 1 (upd (up S 7 (uj (S 7) 1 (rotL (S 7 1) k)) 7 1) k (nI (rc S (k + 1))))) = up S 7 (uj (S 7) 1 (rotL (S 7 1) (k + 1))) := by
  rw [up_same, up_up, uj_same, uj_uj, ← (hH.2.1 (k + 1) (by omega)).1, rotL_s]
theorem hWF_drop {S : zS} (h : hWF S) : hWF (zDrop S) ∧ hsz (zDrop S) = 3 := by
  have h0 : zDrop S 7 0 = upd (S 7 0) 0 3 := by unfold zDrop; rw [up_same, uj_same]
  have h1 : zDrop S 7 1 = upd (rotL (S 7 1) 3) 3 (S 7 1 0) := by unfold zDrop; rw [up_same, uj_ne _ _ (by decide), uj_same]
  have hz : hsz (zDrop S) = 3 := by unfold hsz; rw [h0]; rfl
  have hr : ∀ k, k < 4 → zDrop S 7 1 k = S 7 1 (if k = 3 then 0 else k + 1) := by
    intro k hk
    rw [h1]
    by_cases h3 : k = 3
    · subst h3; rw [upd_same]; rfl
    · rw [upd_ne _ _ h3, if_neg h3]
      unfold rotL
      rw [if_pos (by omega)]
  have hrc : ∀ k, k < 4 → rc (zDrop S) k = rc S (if k = 3 then 0 else k + 1) := fun k hk => by unfold rc; rw [hr k hk]
  obtain ⟨-, ha, hb⟩ := h
  refine ⟨⟨⟨by rw [hz, h0]; rfl, by omega⟩, fun k hk => ?_, fun k hk q hq e => ?_⟩, hz⟩
  · rw [hr k hk, hrc k hk]
    exact ha _ (by split <;> omega)
  · rw [hrc k hk, hrc q hq] at e
    have := hb _ (by split <;> omega) _ (by split <;> omega) e
    split at this <;> split at this <;> omega
theorem zDrop_ne {S : zS} {i : Nat} (h : i ≠ 7) : zDrop S i = S i := up_ne _ _ h
end
section
set_option maxHeartbeats 4000000 in
set_option maxRecDepth 100000 in
theorem c_X3_dropOldest (l : Launch) (G : zG) (S : zS) (hH : hWF S) : Met l yX3_dropOldest (zws yX3_dropOldest cX3_dropOldest 3 none) (zrm 0 0 0 0) (zPc G 75 (pic G S) [.ref (zad G 7 1)]) (zQv G 75 (pic G (zDrop S))) 0 0 (zA G) := by
  refine zMet npX3_dropOldest rfl (Nat.le_of_ble_eq_true rfl) ?_
  intro p e s m args below meth cd hargs cx hr hin0
  have cx : Cx p s m args meth cd cX3_dropOldest 3 RX3 G := cx
  refine x_ls (ls' := [some (.ref (zad G 7 1)), none, none]) rfl (fun _ h => h) ?_
  have hr0 : rc S 0 < 7 := by have := (hH.2.1 0 (by decide)).2.2; omega
  refine x_aload_n cx dX3_dropOldest_0 rfl rfl ?_
  refine x_getX3 cx 0 (by decide) (fl_X3_11 cx) (zok_7 (by decide)) (by decide) (p_hist) rfl dX3_dropOldest_1 ?_
  refine x_iconst (v := 0) cx dX3_dropOldest_4 (by decide) ?_
  refine x_aald (t := 0) (a := zad G (rc S 0) 0) cx 3 rfl (zok_7 (by decide)) (by decide) (p_recs) rfl (by omega) (by decide) rfl dX3_dropOldest_5 ?_
  refine x_astore_n (ls' := [_, _, _]) cx dX3_dropOldest_6 rfl (by decide) rfl ?_
  refine x_iconst (v := 1) cx dX3_dropOldest_7 (by decide) ?_
  refine x_istore_n (ls' := [_, _, _]) cx dX3_dropOldest_8 rfl (by decide) rfl ?_
  suffices K : ∀ f k : Nat, k + f = 3 → Xh p l e _ s m args below meth cd 3 G _ 0 0 75 (pic G (up S 7 (uj (S 7) 1 (rotL (S 7 1) k)))) 9 [some (.ref (zad G 7 1)), some (.ref (zad G (rc S 0) 0)), some (.int (nI (k + 1)))] [] from x_S (by rw [rotL_z, uj_self, up_self]) (K 3 0 rfl)
  intro f
  induction f with
  | zero =>
    intro k hk
    obtain rfl : k = 3 := by omega
    refine x_iload_n cx dX3_dropOldest_9 rfl rfl ?_
    refine x_aload_n cx dX3_dropOldest_10 rfl rfl ?_
    refine x_getX3 cx 0 (by decide) (fl_X3_11 cx) (zok_7 (by decide)) (by decide) (p_hist) rfl dX3_dropOldest_11 ?_
    refine x_alenq cx 3 rfl (zok_7 (by decide)) (by decide) (p_recs) dX3_dropOldest_14 ?_
    refine x_icmp_ge_t (tgt := 38) cx dX3_dropOldest_15 (by decide) (by decide) ?_
    refine x_aload_n cx dX3_dropOldest_38 rfl rfl ?_
    refine x_getX3 cx 0 (by decide) (fl_X3_11 cx) (zok_7 (by decide)) (by decide) (p_hist) rfl dX3_dropOldest_39 ?_
    refine x_aload_n cx dX3_dropOldest_42 rfl rfl ?_
    refine x_getX3 cx 0 (by decide) (fl_X3_11 cx) (zok_7 (by decide)) (by decide) (p_hist) rfl dX3_dropOldest_43 ?_
    refine x_alenq cx 3 rfl (zok_7 (by decide)) (by decide) (p_recs) dX3_dropOldest_46 ?_
    refine x_iconst (v := 1) cx dX3_dropOldest_47 (by decide) ?_
    refine x_isub cx dX3_dropOldest_48 ?_
    refine x_aload_n cx dX3_dropOldest_49 rfl rfl ?_
    refine x_aast (t := 3) (i2 := (rc S 0)) (j2 := 0) cx 3 rfl (zok_7 (by decide)) (by decide) (p_recs) (zok_c hr0 (by decide)) (zix_c hr0 (by decide)) (pcOg hr0) rfl (by decide) (by decide) (by decide) (pp_recs (by decide) hr0) dX3_dropOldest_50 ?_
    refine x_S (S' := up S 7 (uj (S 7) 1 (upd (rotL (S 7 1) 3) 3 (S 7 1 0)))) (by rw [up_same, up_up, uj_same, uj_uj, ← (hH.2.1 0 (by decide)).1]) ?_
    refine x_aload_n cx dX3_dropOldest_51 rfl rfl ?_
    refine x_aload_n cx dX3_dropOldest_52 rfl rfl ?_
    refine x_getX3 cx 0 (by decide) (fl_X3_11 cx) (zok_7 (by decide)) (by decide) (p_hist) rfl dX3_dropOldest_53 ?_
    refine x_alenq cx 3 rfl (zok_7 (by decide)) (by decide) (p_recs) dX3_dropOldest_56 ?_
    refine x_iconst (v := 1) cx dX3_dropOldest_57 (by decide) ?_
    refine x_isub cx dX3_dropOldest_58 ?_
    refine x_eqi (show nI 4 - 1 = 3 by decide) ?_
    refine x_putX3 cx 1 (by decide) (fl_X3_18 cx) (zok_7 (by decide)) (by decide) (p_hist) rfl rfl rfl (Nat.le_of_ble_eq_true rfl) (pp_hist_size) dX3_dropOldest_59 ?_
    exact x_vret cx hr (by intro _ _ _ _; unfold zDrop; rw [up_same, up_up, uj_ne _ _ (by decide)]) dX3_dropOldest_62
  | succ f ih =>
    intro k hk
    have hr1 : rc S (k + 1) < 7 := by have := (hH.2.1 (k + 1) (by omega)).2.2; omega
    refine x_iload_n cx dX3_dropOldest_9 rfl rfl ?_
    refine x_aload_n cx dX3_dropOldest_10 rfl rfl ?_
    refine x_getX3 cx 0 (by decide) (fl_X3_11 cx) (zok_7 (by decide)) (by decide) (p_hist) rfl dX3_dropOldest_11 ?_
    refine x_alenq cx 3 rfl (zok_7 (by decide)) (by decide) (p_recs) dX3_dropOldest_14 ?_
    refine x_icmp_ge_f (tgt := 38) cx dX3_dropOldest_15 (by decide) (nI_ge (b := 4) (by omega) (by decide)) ?_
    refine x_aload_n cx dX3_dropOldest_18 rfl rfl ?_
    refine x_getX3 cx 0 (by decide) (fl_X3_11 cx) (zok_7 (by decide)) (by decide) (p_hist) rfl dX3_dropOldest_19 ?_
    refine x_iload_n cx dX3_dropOldest_22 rfl rfl ?_
    refine x_iconst (v := 1) cx dX3_dropOldest_23 (by decide) ?_
    refine x_isub cx dX3_dropOldest_24 ?_
    refine x_aload_n cx dX3_dropOldest_25 rfl rfl ?_
    refine x_getX3 cx 0 (by decide) (fl_X3_11 cx) (zok_7 (by decide)) (by decide) (p_hist) rfl dX3_dropOldest_26 ?_
    refine x_iload_n cx dX3_dropOldest_29 rfl rfl ?_
    refine x_aald (t := (k + 1)) (a := zad G (rc S (k + 1)) 0) cx 3 rfl (zok_7 (by decide)) (by decide) (p_recs) rfl (by omega) (by decide) (by show (if k + 1 < 4 then some (zad G (rc (up S 7 _) (k + 1)) 0) else none) = _; rw [if_pos (by omega), rc_rot (by omega)]) dX3_dropOldest_30 ?_
    refine x_aast (t := k) (i2 := (rc S (k + 1))) (j2 := 0) cx 3 rfl (zok_7 (by decide)) (by decide) (p_recs) (zok_c hr1 (by decide)) (zix_c hr1 (by decide)) (pcOg hr1) rfl (nI_pred k) (by omega) (by decide) (pp_recs (by omega) hr1) dX3_dropOldest_31 ?_
    refine x_S (rot_put hH (by omega)) ?_
    refine x_iinc (v := nI ((k + 1) + 1)) (ls' := [_, _, _]) cx dX3_dropOldest_32 rfl (nI_inc _) (by decide) rfl ?_
    refine x_goto (tgt := 9) cx dX3_dropOldest_35 (by decide) ?_
    exact ih (k + 1) (by omega)

set_option maxHeartbeats 4000000 in
set_option maxRecDepth 100000 in
theorem c_X3_record (l : Launch) (G : zG) (S : zS) (hH : hWF S) (hW : zWF (S 0)) : Met l yX3_record (zws yX3_record cX3_record 2 none) (zrm 2 0 0 43) (zPc G 75 (pic G S) [.ref (zad G 7 1), .ref (zad G 0 0)]) (zQv G 75 (pic G (zRec S))) 0 0 (zA G) := by
  refine zMet npX3_record rfl (Nat.le_of_ble_eq_true rfl) ?_
  intro p e s m args below meth cd hargs cx hr hin0
  have cx : Cx p s m args meth cd cX3_record 2 RX3 G := cx
  refine x_ls (ls' := [some (.ref (zad G 7 1)), some (.ref (zad G 0 0))]) rfl (fun _ h => h) ?_
  have K : ∀ S1 : zS, hWF S1 → hsz S1 < 4 → zWF (S1 0) → zRec1 S1 = zRec S → Xh p l e (zrm 2 0 0 43) s m args below meth cd 2 G (MQ below (zQv G 75 (pic G (zRec S))) args s 0 0 (zA G)) 0 0 75 (pic G S1) 16 [some (.ref (zad G 7 1)), some (.ref (zad G 0 0))] [] := by
    intro S1 hH1 hlt hW1 hz
    have hrr := hH1.2.1 (hsz S1) hlt
    have hr7 : rc S1 (hsz S1) < 7 := by omega
    refine x_aload_n cx dX3_record_16 rfl rfl ?_
    refine x_getX3 cx 0 (by decide) (fl_X3_11 cx) (zok_7 (by decide)) (by decide) (p_hist) rfl dX3_record_17 ?_
    refine x_aload_n cx dX3_record_20 rfl rfl ?_
    refine x_getX3 cx 1 (by decide) (fl_X3_18 cx) (zok_7 (by decide)) (by decide) (p_hist) rfl dX3_record_21 ?_
    refine x_aald (t := (hsz S1)) (a := zad G (rc S1 (hsz S1)) 0) cx 3 rfl (zok_7 (by decide)) (by decide) (p_recs) hH1.1.1 hlt (by decide) (if_pos hlt) dX3_record_24 ?_
    refine x_aload_n cx dX3_record_25 rfl rfl ?_
    refine x_Vv (C := RX0) (T := TX0) (N := 6) (rest := []) cx (c_X0_becomeCopyOf l G _ (rc S1 (hsz S1)) 0 hr7 (by decide) (by omega) hW1) gV_X3_25 ndX0_becomeCopyOf rfl ⟨Nat.le_of_ble_eq_true rfl, Nat.le_of_ble_eq_true rfl⟩ (zok_c hr7 (by decide)) (zix_c hr7 (by decide)) (pcOg hr7) rfl rfl rfl (Nat.le_of_ble_eq_true rfl) dX3_record_26 ⟨Nat.le_of_ble_eq_true rfl, Nat.le_of_ble_eq_true rfl⟩ ?_
    refine x_aload_n cx dX3_record_29 rfl rfl ?_
    refine x_dup cx dX3_record_30 rfl ?_
    refine x_getX3 cx 1 (by decide) (fl_X3_18 cx) (zok_7 (by decide)) (by decide) (p_hist) rfl dX3_record_31 ?_
    refine x_eqi (show _ = S1 7 0 0 by rw [up_ne _ _ (by omega)]) ?_
    refine x_iconst (v := 1) cx dX3_record_34 (by decide) ?_
    refine x_iadd cx dX3_record_35 ?_
    refine x_putX3 cx 1 (by decide) (fl_X3_18 cx) (zok_7 (by decide)) (by decide) (p_hist) rfl rfl rfl (Nat.le_of_ble_eq_true rfl) (pp_hist_size) dX3_record_36 ?_
    exact x_vret cx hr (by intro _ _ _ _; rw [← hz]; unfold zRec1; rw [up_ne _ _ (by omega)]) dX3_record_39
  have h4 := hH.1.2
  refine x_aload_n cx dX3_record_0 rfl rfl ?_
  refine x_getX3 cx 1 (by decide) (fl_X3_18 cx) (zok_7 (by decide)) (by decide) (p_hist) rfl dX3_record_1 ?_
  refine x_eqi hH.1.1 ?_
  refine x_aload_n cx dX3_record_4 rfl rfl ?_
  refine x_getX3 cx 0 (by decide) (fl_X3_11 cx) (zok_7 (by decide)) (by decide) (p_hist) rfl dX3_record_5 ?_
  refine x_alenq cx 3 rfl (zok_7 (by decide)) (by decide) (p_recs) dX3_record_8 ?_
  refine x_icmp_lt (tgt := 16) cx dX3_record_9 (by decide) (fun hb9 => ?_) (fun hb9 => ?_)
  · exact K S hH ((nI_ltI (b := 4) (by omega) (by decide)).mp hb9) hW (by unfold zRec zRec0; rw [if_pos ((nI_ltI (b := 4) (by omega) (by decide)).mp hb9)])
  · refine x_aload_n cx dX3_record_12 rfl rfl ?_
    refine x_Vv (C := RX3) (T := TX3) (N := 2) (rest := []) cx (c_X3_dropOldest l G _ hH) gV_X3_22 ndX3_dropOldest rfl ⟨Nat.le_of_ble_eq_true rfl, Nat.le_of_ble_eq_true rfl⟩ (zok_7 (by decide)) (by decide) (p_hist) rfl rfl rfl (Nat.le_of_ble_eq_true rfl) dX3_record_13 ⟨Nat.le_of_ble_eq_true rfl, Nat.le_of_ble_eq_true rfl⟩ ?_
    exact K (zDrop S) (hWF_drop hH).1 (by rw [(hWF_drop hH).2]; decide) (by rw [zDrop_ne (by decide)]; exact hW) (by unfold zRec zRec0; rw [if_neg (fun z => hb9 ((nI_ltI (b := 4) (by omega) (by decide)).mpr z))])

set_option maxHeartbeats 4000000 in
set_option maxRecDepth 100000 in
theorem c_X3_takeBack (l : Launch) (G : zG) (S : zS) (hH : hWF S) (hWr : ∀ k, k < hsz S → zWF (S (rc S k))) : Met l yX3_takeBack (zws yX3_takeBack cX3_takeBack 2 (some .int)) (zrm 2 0 0 43) (zPc G 75 (pic G S) [.ref (zad G 7 1), .ref (zad G 0 0)]) (zQi G 75 (if hsz S = 0 then -4 else nI (hsz S - 1)) (pic G (if hsz S = 0 then S else zBack S))) 0 0 (zA G) := by
  refine zMet npX3_takeBack rfl (Nat.le_of_ble_eq_true rfl) ?_
  intro p e s m args below meth cd hargs cx hr hin0
  have cx : Cx p s m args meth cd cX3_takeBack 2 RX3 G := cx
  refine x_ls (ls' := [some (.ref (zad G 7 1)), some (.ref (zad G 0 0))]) rfl (fun _ h => h) ?_
  have h4 := hH.1.2
  have hz : 0 < S 7 0 0 ↔ 0 < hsz S := by rw [hH.1.1]; exact nI_ltI (a := 0) (by decide) (by omega)
  refine x_aload_n cx dX3_takeBack_0 rfl rfl ?_
  refine x_getX3 cx 1 (by decide) (fl_X3_18 cx) (zok_7 (by decide)) (by decide) (p_hist) rfl dX3_takeBack_1 ?_
  refine x_if_gt (tgt := 10) cx dX3_takeBack_4 (by decide) (fun hb4 => ?_) (fun hb4 => ?_)
  · have h0 : 0 < hsz S := hz.mp hb4
    have hrr := hH.2.1 (hsz S - 1) (by omega)
    have hr7 : rc S (hsz S - 1) < 7 := by omega
    have hv : S 7 0 0 - 1 = nI (hsz S - 1) := by rw [hH.1.1]; exact nI_sub1 h0
    refine x_aload_n cx dX3_takeBack_10 rfl rfl ?_
    refine x_dup cx dX3_takeBack_11 rfl ?_
    refine x_getX3 cx 1 (by decide) (fl_X3_18 cx) (zok_7 (by decide)) (by decide) (p_hist) rfl dX3_takeBack_12 ?_
    refine x_iconst (v := 1) cx dX3_takeBack_15 (by decide) ?_
    refine x_isub cx dX3_takeBack_16 ?_
    refine x_eqi hv ?_
    refine x_putX3 cx 1 (by decide) (fl_X3_18 cx) (zok_7 (by decide)) (by decide) (p_hist) rfl rfl rfl (Nat.le_of_ble_eq_true rfl) (pp_hist_size) dX3_takeBack_17 ?_
    refine x_aload_n cx dX3_takeBack_20 rfl rfl ?_
    refine x_aload_n cx dX3_takeBack_21 rfl rfl ?_
    refine x_getX3 cx 0 (by decide) (fl_X3_11 cx) (zok_7 (by decide)) (by decide) (p_hist) rfl dX3_takeBack_22 ?_
    refine x_aload_n cx dX3_takeBack_25 rfl rfl ?_
    refine x_getX3 cx 1 (by decide) (fl_X3_18 cx) (zok_7 (by decide)) (by decide) (p_hist) rfl dX3_takeBack_26 ?_
    refine x_eqi (show _ = nI (hsz S - 1) from rfl) ?_
    refine x_aald (t := (hsz S - 1)) (a := zad G (rc S (hsz S - 1)) 0) cx 3 rfl (zok_7 (by decide)) (by decide) (p_recs) rfl (by omega) (by decide) (if_pos (by omega)) dX3_takeBack_29 ?_
    refine x_Vv (C := RX0) (T := TX0) (N := 6) (rest := []) cx (c_X0_becomeCopyOf l G _ 0 (rc S (hsz S - 1)) (by decide) hr7 (by omega) (by rw [up_ne _ _ (by omega)]; exact hWr (hsz S - 1) (by omega))) gV_X3_25 ndX0_becomeCopyOf rfl ⟨Nat.le_of_ble_eq_true rfl, Nat.le_of_ble_eq_true rfl⟩ (zok_c (show 0 < 7 by decide) (by decide)) (zix_c (show 0 < 7 by decide) (by decide)) (pcOg (show 0 < 7 by decide)) rfl rfl rfl (Nat.le_of_ble_eq_true rfl) dX3_takeBack_30 ⟨Nat.le_of_ble_eq_true rfl, Nat.le_of_ble_eq_true rfl⟩ ?_
    refine x_aload_n cx dX3_takeBack_33 rfl rfl ?_
    refine x_getX3 cx 1 (by decide) (fl_X3_18 cx) (zok_7 (by decide)) (by decide) (p_hist) rfl dX3_takeBack_34 ?_
    refine x_eqi (show _ = nI (hsz S - 1) by rw [up_ne _ _ (by decide), up_same, uj_same, upd_same]) ?_
    exact x_iret cx hr (by rw [if_neg (by omega)]) (by intro _ _ _ _; rw [if_neg (by omega)]; unfold zBack; rw [hv, up_ne _ _ (show (0 : Nat) ≠ 7 by decide), up_ne _ _ (show rc S (hsz S - 1) ≠ 7 by omega)]) dX3_takeBack_37
  · refine x_bipush (v := (-4)) cx dX3_takeBack_7 (by decide) ?_
    exact x_iret cx hr (by rw [if_pos (show hsz S = 0 by rw [hz] at hb4; omega)]) (by intro _ _ _ _; rw [if_pos (show hsz S = 0 by rw [hz] at hb4; omega)]) dX3_takeBack_9

set_option maxHeartbeats 4000000 in
set_option maxRecDepth 100000 in
theorem c_X4_goTo (l : Launch) (G : zG) (S : zS) (i : Nat) (hi : i < 7) (X : zCV) (hW : zWF X) (b : Nat) (hb : b < 16) : Met l yX4_goTo (zws yX4_goTo cX4_goTo 6 (some .int)) (zrm 6 0 0 130) (zPc G 75 (pic G (up S i X)) [.ref (zad G i 0), .int (nI b)]) (zQi G 75 (nI (dst (stt X) b)) (pic G (up S i (zGo X b)))) 0 0 (zA G) := by
  refine zMet npX4_goTo rfl (Nat.le_of_ble_eq_true rfl) ?_
  intro p e s m args below meth cd hargs cx hr hin0
  have cx : Cx p s m args meth cd cX4_goTo 6 RX4 G := cx
  refine x_ls (ls' := [some (.ref (zad G i 0)), some (.int (nI b)), none, none, none, none]) rfl (fun _ h => h) ?_
  refine x_aload_n cx dX4_goTo_0 rfl rfl ?_
  refine x_getX0 cx 2 (by decide) (fl_X4_9 cx) (zok_c hi (by decide)) (zix_c hi (by decide)) (pcO hi) rfl dX4_goTo_1 ?_
  refine x_eqi hW.s1 ?_
  refine x_iload_n cx dX4_goTo_4 rfl rfl ?_
  refine x_Si (rest := []) cx (c_X2_clocksBetween l G _ _ (stt X) b hW.s16 hb) gS_X4_15 ndX2_clocksBetween ⟨Nat.le_of_ble_eq_true rfl, Nat.le_of_ble_eq_true rfl⟩ rfl rfl (Nat.le_of_ble_eq_true rfl) dX4_goTo_5 ⟨Nat.le_of_ble_eq_true rfl, Nat.le_of_ble_eq_true rfl⟩ ?_
  refine x_istore_n (ls' := [_, _, _, _, _, _]) cx dX4_goTo_8 rfl (by decide) rfl ?_
  refine x_iload_n cx dX4_goTo_9 rfl rfl ?_
  refine x_iconst (v := 1) cx dX4_goTo_10 (by decide) ?_
  refine x_isub cx dX4_goTo_11 ?_
  refine x_istore_n (ls' := [_, _, _, _, _, _]) cx dX4_goTo_12 rfl (by decide) rfl ?_
  suffices K : ∀ (d : Nat) (Y : zCV), zWF Y → dst (stt Y) b = d → zGoL d Y b = zGo X b → Xh p l e _ s m args below meth cd 6 G _ 0 0 75 (pic G (up S i Y)) 13 [some (.ref (zad G i 0)), some (.int (nI b)), some (.int (nI (dst (stt X) b))), some (.int (nI d - 1)), none, none] [] from K _ X hW rfl rfl
  intro d
  induction d with
  | zero =>
    intro Y hY hd hz
    refine x_iload_n cx dX4_goTo_13 rfl rfl ?_
    refine x_if_lt_t (tgt := 58) cx dX4_goTo_14 (by decide) (by decide) ?_
    refine x_iload_n cx dX4_goTo_58 rfl rfl ?_
    exact x_iret cx hr rfl (by intro _ _ _ _; rw [← hz]; rfl) dX4_goTo_59
  | succ d ih =>
    intro Y hY hd hz
    rw [nI_pred]
    have hd16 := dst_lt _ hY.s16 b hb
    refine x_iload_n cx dX4_goTo_13 rfl rfl ?_
    refine x_if_lt_f (tgt := 58) cx dX4_goTo_14 (by decide) (nI_pos (by omega)) ?_
    refine x_aload_n cx dX4_goTo_17 rfl rfl ?_
    refine x_getX0 cx 2 (by decide) (fl_X4_9 cx) (zok_c hi (by decide)) (zix_c hi (by decide)) (pcO hi) rfl dX4_goTo_18 ?_
    refine x_eqi hY.s1 ?_
    refine x_iconst (v := 0) cx dX4_goTo_21 (by decide) ?_
    refine x_Si (rest := []) cx (c_X2_next l G _ _ (stt Y) hY.s16 _) gS_X4_21 ndX2_next ⟨Nat.le_of_ble_eq_true rfl, Nat.le_of_ble_eq_true rfl⟩ rfl rfl (Nat.le_of_ble_eq_true rfl) dX4_goTo_22 ⟨Nat.le_of_ble_eq_true rfl, Nat.le_of_ble_eq_true rfl⟩ ?_
    refine x_eqi (nx_eq hY.s16 0) ?_
    refine x_istore (ls' := [_, _, _, _, _, _]) cx dX4_goTo_25 (by decide) rfl ?_
    refine x_iload cx dX4_goTo_27 rfl ?_
    refine x_iload_n cx dX4_goTo_29 rfl rfl ?_
    refine x_Si (rest := []) cx (c_X2_clocksBetween l G _ _ (nx (stt Y) 0) b (nx_lt hY.s16 0) hb) gS_X4_15 ndX2_clocksBetween ⟨Nat.le_of_ble_eq_true rfl, Nat.le_of_ble_eq_true rfl⟩ rfl rfl (Nat.le_of_ble_eq_true rfl) dX4_goTo_30 ⟨Nat.le_of_ble_eq_true rfl, Nat.le_of_ble_eq_true rfl⟩ ?_
    refine x_iload_n cx dX4_goTo_33 rfl rfl ?_
    refine x_icmp_ne (tgt := 41) cx dX4_goTo_34 (by decide) (fun hb34 => ?_) (fun hb34 => ?_)
    · refine x_iconst (v := 1) cx dX4_goTo_41 (by decide) ?_
      refine x_istore (ls' := [_, _, _, _, _, _]) cx dX4_goTo_42 (by decide) rfl ?_
      refine x_aload_n cx dX4_goTo_44 rfl rfl ?_
      refine x_iload cx dX4_goTo_45 rfl ?_
      refine x_iconst (v := 1) cx dX4_goTo_47 (by decide) ?_
      refine x_Vi (C := RX0) (T := TX0) (N := 6) (rest := []) cx (c_X0_tick l G _ i hi _ hY _ _) gV_X4_24 ndX0_tick rfl ⟨Nat.le_of_ble_eq_true rfl, Nat.le_of_ble_eq_true rfl⟩ (zok_c hi (by decide)) (zix_c hi (by decide)) (pcO hi) rfl rfl rfl (Nat.le_of_ble_eq_true rfl) dX4_goTo_48 ⟨Nat.le_of_ble_eq_true rfl, Nat.le_of_ble_eq_true rfl⟩ ?_
      refine x_pop cx dX4_goTo_51 rfl ?_
      refine x_iinc (ls' := [_, _, _, _, _, _]) cx dX4_goTo_52 rfl rfl (by decide) rfl ?_
      refine x_goto (tgt := 13) cx dX4_goTo_55 (by decide) ?_
      have hm : zMd (stt Y) b = 1 := zMd_1 hY.s16 hb hd hb34
      rw [nI_dec]
      exact x_ls rfl (by simp [lo]) (ih _ (zTick_WF hY) (by rw [stt_tick, ← hm]; exact dst_go hY.s16 hb hd) (by rw [← hz]; show _ = zGoL d (zTick Y (zMd (stt Y) b) 1) b; rw [hm]))
    · refine x_iconst (v := 0) cx dX4_goTo_37 (by decide) ?_
      refine x_goto (tgt := 42) cx dX4_goTo_38 (by decide) ?_
      refine x_istore (ls' := [_, _, _, _, _, _]) cx dX4_goTo_42 (by decide) rfl ?_
      refine x_aload_n cx dX4_goTo_44 rfl rfl ?_
      refine x_iload cx dX4_goTo_45 rfl ?_
      refine x_iconst (v := 1) cx dX4_goTo_47 (by decide) ?_
      refine x_Vi (C := RX0) (T := TX0) (N := 6) (rest := []) cx (c_X0_tick l G _ i hi _ hY _ _) gV_X4_24 ndX0_tick rfl ⟨Nat.le_of_ble_eq_true rfl, Nat.le_of_ble_eq_true rfl⟩ (zok_c hi (by decide)) (zix_c hi (by decide)) (pcO hi) rfl rfl rfl (Nat.le_of_ble_eq_true rfl) dX4_goTo_48 ⟨Nat.le_of_ble_eq_true rfl, Nat.le_of_ble_eq_true rfl⟩ ?_
      refine x_pop cx dX4_goTo_51 rfl ?_
      refine x_iinc (ls' := [_, _, _, _, _, _]) cx dX4_goTo_52 rfl rfl (by decide) rfl ?_
      refine x_goto (tgt := 13) cx dX4_goTo_55 (by decide) ?_
      have hm : zMd (stt Y) b = 0 := zMd_0 hY.s16 hb hd hb34
      rw [nI_dec]
      exact x_ls rfl (by simp [lo]) (ih _ (zTick_WF hY) (by rw [stt_tick, ← hm]; exact dst_go hY.s16 hb hd) (by rw [← hz]; show _ = zGoL d (zTick Y (zMd (stt Y) b) 1) b; rw [hm]))

set_option maxHeartbeats 4000000 in
set_option maxRecDepth 100000 in
theorem c_X4_shiftThrough (l : Launch) (G : zG) (S : zS) (i : Nat) (hi : i < 7) (X : zCV) (hW : zWF X) (x : Int32) (L : Nat) (hL : L ≤ 8) (la : Int32) (hla : la = 0 ∨ la = 1) : Met l yX4_shiftThrough (zws yX4_shiftThrough cX4_shiftThrough 7 (some .int)) (zrm 6 0 0 130) (zPc G 75 (pic G (up S i X)) [.ref (zad G i 0), .int x, .int (nI L), .int la]) (zQi G 75 (zThO x L la L X) (pic G (up S i (zThX x L la L X)))) 0 0 (zA G) := by
  refine zMet npX4_shiftThrough rfl (Nat.le_of_ble_eq_true rfl) ?_
  intro p e s m args below meth cd hargs cx hr hin0
  have cx : Cx p s m args meth cd cX4_shiftThrough 7 RX4 G := cx
  refine x_ls (ls' := [some (.ref (zad G i 0)), some (.int x), some (.int (nI L)), some (.int la), none, none, none]) rfl (fun _ h => h) ?_
  refine x_iconst (v := 0) cx dX4_shiftThrough_0 (by decide) ?_
  refine x_istore (ls' := [_, _, _, _, _, _, _]) cx dX4_shiftThrough_1 (by decide) rfl ?_
  refine x_iconst (v := 0) cx dX4_shiftThrough_3 (by decide) ?_
  refine x_istore (ls' := [_, _, _, _, _, _, _]) cx dX4_shiftThrough_4 (by decide) rfl ?_
  suffices K : ∀ f k : Nat, k + f = L → Xh p l e _ s m args below meth cd 7 G _ 0 0 75 (pic G (up S i (zThX x L la k X))) 6 [some (.ref (zad G i 0)), some (.int x), some (.int (nI L)), some (.int la), some (.int (zThO x L la k X)), some (.int (nI k)), none] [] from K L 0 (by omega)
  intro f
  induction f with
  | zero =>
    intro k hk
    obtain rfl : k = L := by omega
    refine x_iload cx dX4_shiftThrough_6 rfl ?_
    refine x_iload_n cx dX4_shiftThrough_8 rfl rfl ?_
    refine x_icmp_ge_t (tgt := 57) cx dX4_shiftThrough_9 (by decide) (nI_le (Nat.le_refl _) (by omega)) ?_
    refine x_iload cx dX4_shiftThrough_57 rfl ?_
    exact x_iret cx hr rfl (fun _ _ _ _ => rfl) dX4_shiftThrough_59
  | succ f ih =>
    intro k hk
    refine x_iload cx dX4_shiftThrough_6 rfl ?_
    refine x_iload_n cx dX4_shiftThrough_8 rfl rfl ?_
    refine x_icmp_ge_f (tgt := 57) cx dX4_shiftThrough_9 (by decide) (nI_ge (by omega) (by omega)) ?_
    refine x_iload_n cx dX4_shiftThrough_12 rfl rfl ?_
    refine x_if_eq (tgt := 28) cx dX4_shiftThrough_13 (by decide) (fun hb13 => ?_) (fun hb13 => ?_)
    · refine x_iconst (v := 0) cx dX4_shiftThrough_28 (by decide) ?_
      refine x_istore (ls' := [_, _, _, _, _, _, _]) cx dX4_shiftThrough_29 (by decide) rfl ?_
      refine x_iload cx dX4_shiftThrough_31 rfl ?_
      refine x_aload_n cx dX4_shiftThrough_33 rfl rfl ?_
      refine x_iload cx dX4_shiftThrough_34 rfl ?_
      refine x_iload_n cx dX4_shiftThrough_36 rfl rfl ?_
      refine x_iload cx dX4_shiftThrough_37 rfl ?_
      refine x_ishr cx dX4_shiftThrough_39 ?_
      refine x_iconst (v := 1) cx dX4_shiftThrough_40 (by decide) ?_
      refine x_iand cx dX4_shiftThrough_41 ?_
      refine x_Vi (C := RX0) (T := TX0) (N := 6) (rest := [_]) cx (c_X0_tick l G _ i hi _ (zThX_WF hW k) _ _) gV_X4_24 ndX0_tick rfl ⟨Nat.le_of_ble_eq_true rfl, Nat.le_of_ble_eq_true rfl⟩ (zok_c hi (by decide)) (zix_c hi (by decide)) (pcO hi) rfl rfl rfl (Nat.le_of_ble_eq_true rfl) dX4_shiftThrough_42 ⟨Nat.le_of_ble_eq_true rfl, Nat.le_of_ble_eq_true rfl⟩ ?_
      refine x_iload cx dX4_shiftThrough_45 rfl ?_
      refine x_ishl cx dX4_shiftThrough_47 ?_
      refine x_ior cx dX4_shiftThrough_48 ?_
      refine x_istore (ls' := [_, _, _, _, _, _, _]) cx dX4_shiftThrough_49 (by decide) rfl ?_
      refine x_iinc (v := nI (k + 1)) (ls' := [_, _, _, _, _, _, _]) cx dX4_shiftThrough_51 rfl (nI_inc _) (by decide) rfl ?_
      refine x_goto (tgt := 6) cx dX4_shiftThrough_54 (by decide) ?_
      have hm : zLm la L k = 0 := zLm_0 hb13
      refine x_up (X' := zThX x L la (k + 1) X) (by show _ = zTick (zThX x L la k X) (zLm la L k) (zBit x k); rw [hm]; rfl) ?_
      exact x_ls rfl (by simp [lo, zThO, zBit]) (ih (k + 1) (by omega))
    · refine x_iload cx dX4_shiftThrough_16 rfl ?_
      refine x_iload_n cx dX4_shiftThrough_18 rfl rfl ?_
      refine x_iconst (v := 1) cx dX4_shiftThrough_19 (by decide) ?_
      refine x_isub cx dX4_shiftThrough_20 ?_
      refine x_icmp_ne (tgt := 28) cx dX4_shiftThrough_21 (by decide) (fun hb21 => ?_) (fun hb21 => ?_)
      · refine x_iconst (v := 0) cx dX4_shiftThrough_28 (by decide) ?_
        refine x_istore (ls' := [_, _, _, _, _, _, _]) cx dX4_shiftThrough_29 (by decide) rfl ?_
        refine x_iload cx dX4_shiftThrough_31 rfl ?_
        refine x_aload_n cx dX4_shiftThrough_33 rfl rfl ?_
        refine x_iload cx dX4_shiftThrough_34 rfl ?_
        refine x_iload_n cx dX4_shiftThrough_36 rfl rfl ?_
        refine x_iload cx dX4_shiftThrough_37 rfl ?_
        refine x_ishr cx dX4_shiftThrough_39 ?_
        refine x_iconst (v := 1) cx dX4_shiftThrough_40 (by decide) ?_
        refine x_iand cx dX4_shiftThrough_41 ?_
        refine x_Vi (C := RX0) (T := TX0) (N := 6) (rest := [_]) cx (c_X0_tick l G _ i hi _ (zThX_WF hW k) _ _) gV_X4_24 ndX0_tick rfl ⟨Nat.le_of_ble_eq_true rfl, Nat.le_of_ble_eq_true rfl⟩ (zok_c hi (by decide)) (zix_c hi (by decide)) (pcO hi) rfl rfl rfl (Nat.le_of_ble_eq_true rfl) dX4_shiftThrough_42 ⟨Nat.le_of_ble_eq_true rfl, Nat.le_of_ble_eq_true rfl⟩ ?_
        refine x_iload cx dX4_shiftThrough_45 rfl ?_
        refine x_ishl cx dX4_shiftThrough_47 ?_
        refine x_ior cx dX4_shiftThrough_48 ?_
        refine x_istore (ls' := [_, _, _, _, _, _, _]) cx dX4_shiftThrough_49 (by decide) rfl ?_
        refine x_iinc (v := nI (k + 1)) (ls' := [_, _, _, _, _, _, _]) cx dX4_shiftThrough_51 rfl (nI_inc _) (by decide) rfl ?_
        refine x_goto (tgt := 6) cx dX4_shiftThrough_54 (by decide) ?_
        have hm : zLm la L k = 0 := zLm_n hb13 (by omega) hL hb21
        refine x_up (X' := zThX x L la (k + 1) X) (by show _ = zTick (zThX x L la k X) (zLm la L k) (zBit x k); rw [hm]; rfl) ?_
        exact x_ls rfl (by simp [lo, zThO, zBit]) (ih (k + 1) (by omega))
      · refine x_iconst (v := 1) cx dX4_shiftThrough_24 (by decide) ?_
        refine x_goto (tgt := 29) cx dX4_shiftThrough_25 (by decide) ?_
        refine x_istore (ls' := [_, _, _, _, _, _, _]) cx dX4_shiftThrough_29 (by decide) rfl ?_
        refine x_iload cx dX4_shiftThrough_31 rfl ?_
        refine x_aload_n cx dX4_shiftThrough_33 rfl rfl ?_
        refine x_iload cx dX4_shiftThrough_34 rfl ?_
        refine x_iload_n cx dX4_shiftThrough_36 rfl rfl ?_
        refine x_iload cx dX4_shiftThrough_37 rfl ?_
        refine x_ishr cx dX4_shiftThrough_39 ?_
        refine x_iconst (v := 1) cx dX4_shiftThrough_40 (by decide) ?_
        refine x_iand cx dX4_shiftThrough_41 ?_
        refine x_Vi (C := RX0) (T := TX0) (N := 6) (rest := [_]) cx (c_X0_tick l G _ i hi _ (zThX_WF hW k) _ _) gV_X4_24 ndX0_tick rfl ⟨Nat.le_of_ble_eq_true rfl, Nat.le_of_ble_eq_true rfl⟩ (zok_c hi (by decide)) (zix_c hi (by decide)) (pcO hi) rfl rfl rfl (Nat.le_of_ble_eq_true rfl) dX4_shiftThrough_42 ⟨Nat.le_of_ble_eq_true rfl, Nat.le_of_ble_eq_true rfl⟩ ?_
        refine x_iload cx dX4_shiftThrough_45 rfl ?_
        refine x_ishl cx dX4_shiftThrough_47 ?_
        refine x_ior cx dX4_shiftThrough_48 ?_
        refine x_istore (ls' := [_, _, _, _, _, _, _]) cx dX4_shiftThrough_49 (by decide) rfl ?_
        refine x_iinc (v := nI (k + 1)) (ls' := [_, _, _, _, _, _, _]) cx dX4_shiftThrough_51 rfl (nI_inc _) (by decide) rfl ?_
        refine x_goto (tgt := 6) cx dX4_shiftThrough_54 (by decide) ?_
        have hm : zLm la L k = 1 := zLm_y hb13 (by omega) hL hb21
        refine x_up (X' := zThX x L la (k + 1) X) (by show _ = zTick (zThX x L la k X) (zLm la L k) (zBit x k); rw [hm]; rfl) ?_
        exact x_ls rfl (by simp [lo, zThO, zBit]) (ih (k + 1) (by omega))

set_option maxHeartbeats 4000000 in
set_option maxRecDepth 100000 in
theorem c_X4_readIdentity (l : Launch) (G : zG) (S : zS) (i : Nat) (hi : i < 7) (X : zCV) (hW : zWF X) : Met l yX4_readIdentity (zws yX4_readIdentity cX4_readIdentity 2 (some .int)) (zrm 7 0 0 156) (zPc G 75 (pic G (up S i X)) [.ref (zad G i 0)]) (zQi G 75 (zRdV X) (pic G (up S i (zRdX X)))) 0 0 (zA G) := by
  refine zMet npX4_readIdentity rfl (Nat.le_of_ble_eq_true rfl) ?_
  intro p e s m args below meth cd hargs cx hr hin0
  have cx : Cx p s m args meth cd cX4_readIdentity 2 RX4 G := cx
  refine x_ls (ls' := [some (.ref (zad G i 0)), none]) rfl (fun _ h => h) ?_
  refine x_aload_n cx dX4_readIdentity_0 rfl rfl ?_
  refine x_iconst (v := 0) cx dX4_readIdentity_1 (by decide) ?_
  refine x_iconst (v := 1) cx dX4_readIdentity_2 (by decide) ?_
  refine x_Vi (C := RX0) (T := TX0) (N := 6) (rest := []) cx (c_X0_tick l G _ i hi _ hW _ _) gV_X4_24 ndX0_tick rfl ⟨Nat.le_of_ble_eq_true rfl, Nat.le_of_ble_eq_true rfl⟩ (zok_c hi (by decide)) (zix_c hi (by decide)) (pcO hi) rfl rfl rfl (Nat.le_of_ble_eq_true rfl) dX4_readIdentity_3 ⟨Nat.le_of_ble_eq_true rfl, Nat.le_of_ble_eq_true rfl⟩ ?_
  refine x_if_ne (tgt := 11) cx dX4_readIdentity_6 (by decide) (fun hb6 => ?_) (fun hb6 => ?_)
  · refine x_bipush (v := 7) cx dX4_readIdentity_11 (by decide) ?_
    refine x_istore_n (ls' := [_, _]) cx dX4_readIdentity_13 rfl (by decide) rfl ?_
    refine x_iconst (v := 1) cx dX4_readIdentity_14 (by decide) ?_
    refine x_aload_n cx dX4_readIdentity_15 rfl rfl ?_
    refine x_iload_n cx dX4_readIdentity_16 rfl rfl ?_
    refine x_SNi (rest := [_, _]) cx (c_X6_allOnes l G _ _ _) (zG0 zt218) (ml_X4_47 cx) zt32 zt217 ndX6_allOnes ⟨Nat.le_of_ble_eq_true rfl, Nat.le_of_ble_eq_true rfl⟩ rfl rfl (Nat.le_of_ble_eq_true rfl) dX4_readIdentity_17 ⟨Nat.le_of_ble_eq_true rfl, Nat.le_of_ble_eq_true rfl⟩ ?_
    refine x_iload_n cx dX4_readIdentity_20 rfl rfl ?_
    refine x_iconst (v := 0) cx dX4_readIdentity_21 (by decide) ?_
    refine x_Si (rest := [_]) cx (c_X4_shiftThrough l G _ i hi _ (zTick_WF hW) _ 7 (by decide) 0 (Or.inl rfl)) gS_X4_51 ndX4_shiftThrough ⟨Nat.le_of_ble_eq_true rfl, Nat.le_of_ble_eq_true rfl⟩ rfl rfl (Nat.le_of_ble_eq_true rfl) dX4_readIdentity_22 ⟨Nat.le_of_ble_eq_true rfl, Nat.le_of_ble_eq_true rfl⟩ ?_
    refine x_iconst (v := 1) cx dX4_readIdentity_25 (by decide) ?_
    refine x_ishl cx dX4_readIdentity_26 ?_
    refine x_ior cx dX4_readIdentity_27 ?_
    exact x_iret cx hr (by unfold zRdV; rw [if_neg hb6]) (by intro _ _ _ _; unfold zRdX; rw [if_neg hb6]) dX4_readIdentity_28
  · refine x_iconst (v := 0) cx dX4_readIdentity_9 (by decide) ?_
    exact x_iret cx hr (by unfold zRdV; rw [if_pos hb6]) (by intro _ _ _ _; unfold zRdX; rw [if_pos hb6]) dX4_readIdentity_10

set_option maxHeartbeats 4000000 in
set_option maxRecDepth 100000 in
theorem c_X4_readIdentities (l : Launch) (G : zG) (S : zS) (i : Nat) (hi : i < 7) (X : zCV) (hW : zWF X) : Met l yX4_readIdentities (zws yX4_readIdentities cX4_readIdentities 3 (some .int)) (zrm 8 0 0 177) (zPc G 75 (pic G (up S i X)) [.ref (zad G i 0)]) (zQi G 75 (zIdent X 0 3) (pic G (up S i (zIdent X)))) 0 0 (zA G) := by
  refine zMet npX4_readIdentities rfl (Nat.le_of_ble_eq_true rfl) ?_
  intro p e s m args below meth cd hargs cx hr hin0
  have cx : Cx p s m args meth cd cX4_readIdentities 3 RX4 G := cx
  refine x_ls (ls' := [some (.ref (zad G i 0)), none, none]) rfl (fun _ h => h) ?_
  refine x_iconst (v := 0) cx dX4_readIdentities_0 (by decide) ?_
  refine x_istore_n (ls' := [_, _, _]) cx dX4_readIdentities_1 rfl (by decide) rfl ?_
  suffices K : ∀ (f k : Nat) (Y : zCV), k + f = 5 → zWF Y → zTkN f Y = zTkN 5 X → Xh p l e _ s m args below meth cd 3 G _ 0 0 75 (pic G (up S i Y)) 2 [some (.ref (zad G i 0)), some (.int (nI k)), none] [] from K 5 0 X rfl hW rfl
  intro f
  induction f with
  | zero =>
    intro k Y hk hY hz
    obtain rfl : k = 5 := by omega
    refine x_iload_n cx dX4_readIdentities_2 rfl rfl ?_
    refine x_iconst (v := 5) cx dX4_readIdentities_3 (by decide) ?_
    refine x_icmp_ge_t (tgt := 20) cx dX4_readIdentities_4 (by decide) (by decide) ?_
    refine x_aload_n cx dX4_readIdentities_20 rfl rfl ?_
    refine x_iconst (v := 4) cx dX4_readIdentities_21 (by decide) ?_
    refine x_Si (rest := []) cx (c_X4_goTo l G _ i hi _ hY 4 (by decide)) gS_X4_29 ndX4_goTo ⟨Nat.le_of_ble_eq_true rfl, Nat.le_of_ble_eq_true rfl⟩ rfl rfl (Nat.le_of_ble_eq_true rfl) dX4_readIdentities_22 ⟨Nat.le_of_ble_eq_true rfl, Nat.le_of_ble_eq_true rfl⟩ ?_
    refine x_pop cx dX4_readIdentities_25 rfl ?_
    refine x_aload_n cx dX4_readIdentities_26 rfl rfl ?_
    refine x_Vv (C := RX0) (T := TX0) (N := 6) (rest := []) cx (c_X0_forgetIdentities l G _ i hi _ (zGo_WF hY) ) gV_X4_33 ndX0_forgetIdentities rfl ⟨Nat.le_of_ble_eq_true rfl, Nat.le_of_ble_eq_true rfl⟩ (zok_c hi (by decide)) (zix_c hi (by decide)) (pcO hi) rfl rfl rfl (Nat.le_of_ble_eq_true rfl) dX4_readIdentities_27 ⟨Nat.le_of_ble_eq_true rfl, Nat.le_of_ble_eq_true rfl⟩ ?_
    refine x_iconst (v := 0) cx dX4_readIdentities_30 (by decide) ?_
    refine x_istore_n (ls' := [_, _, _]) cx dX4_readIdentities_31 rfl (by decide) rfl ?_
    have hv : zIdent X = zGo (zIdL 8 (zForget (zGo Y 4))) 1 := by unfold zIdent; rw [← hz]; rfl
    rw [hv]
    suffices K2 : ∀ (f k : Nat) (V : zCV), k + f = 8 → zWF V → cnt V = k → zIdL f V = zIdL 8 (zForget (zGo Y 4)) → Xh p l e _ s m args below meth cd 3 G _ 0 0 75 (pic G (up S i V)) 32 [some (.ref (zad G i 0)), some (.int (nI k)), none] [] from K2 8 0 _ rfl (zForget_WF (zGo_WF hY)) (cnt_forget _) rfl
    intro f
    induction f with
    | zero =>
      intro k V hk hV hcn hzv
      obtain rfl : k = 8 := by omega
      have hzv : V = zIdL 8 (zForget (zGo Y 4)) := hzv
      refine x_iload_n cx dX4_readIdentities_32 rfl rfl ?_
      refine x_bipush (v := 8) cx dX4_readIdentities_33 (by decide) ?_
      refine x_icmp_ge_t (tgt := 64) cx dX4_readIdentities_35 (by decide) (by decide) ?_
      refine x_aload_n cx dX4_readIdentities_64 rfl rfl ?_
      refine x_iconst (v := 1) cx dX4_readIdentities_65 (by decide) ?_
      refine x_Si (rest := []) cx (c_X4_goTo l G _ i hi _ hV 1 (by decide)) gS_X4_29 ndX4_goTo ⟨Nat.le_of_ble_eq_true rfl, Nat.le_of_ble_eq_true rfl⟩ rfl rfl (Nat.le_of_ble_eq_true rfl) dX4_readIdentities_66 ⟨Nat.le_of_ble_eq_true rfl, Nat.le_of_ble_eq_true rfl⟩ ?_
      refine x_pop cx dX4_readIdentities_69 rfl ?_
      refine x_aload_n cx dX4_readIdentities_70 rfl rfl ?_
      refine x_getX0 cx 5 (by decide) (fl_X4_44 cx) (zok_c hi (by decide)) (zix_c hi (by decide)) (pcO hi) rfl dX4_readIdentities_71 ?_
      exact x_iret cx hr (by rw [← hzv]) (by intro _ _ _ _; rw [← hzv]) dX4_readIdentities_74
    | succ f ih =>
      intro k V hk hV hcn hzv
      refine x_iload_n cx dX4_readIdentities_32 rfl rfl ?_
      refine x_bipush (v := 8) cx dX4_readIdentities_33 (by decide) ?_
      refine x_icmp_ge_f (tgt := 64) cx dX4_readIdentities_35 (by decide) (nI_ge (b := 8) (by omega) (by decide)) ?_
      refine x_aload_n cx dX4_readIdentities_38 rfl rfl ?_
      refine x_Si (rest := []) cx (c_X4_readIdentity l G _ i hi _ hV) gS_X4_36 ndX4_readIdentity ⟨Nat.le_of_ble_eq_true rfl, Nat.le_of_ble_eq_true rfl⟩ rfl rfl (Nat.le_of_ble_eq_true rfl) dX4_readIdentities_39 ⟨Nat.le_of_ble_eq_true rfl, Nat.le_of_ble_eq_true rfl⟩ ?_
      refine x_istore_n (ls' := [_, _, _]) cx dX4_readIdentities_42 rfl (by decide) rfl ?_
      refine x_iload_n cx dX4_readIdentities_43 rfl rfl ?_
      refine x_sipush (v := 255) cx dX4_readIdentities_44 (by decide) ?_
      refine x_icmp_ne (tgt := 53) cx dX4_readIdentities_47 (by decide) (fun hb47 => ?_) (fun hb47 => ?_)
      · refine x_aload_n cx dX4_readIdentities_53 rfl rfl ?_
        refine x_iload_n cx dX4_readIdentities_54 rfl rfl ?_
        refine x_Vv (C := RX0) (T := TX0) (N := 6) (rest := []) cx (c_X0_keepIdentity l G _ i hi _ (zRdX_WF hV) (by rw [cnt_rdX]; omega) _) gV_X4_40 ndX0_keepIdentity rfl ⟨Nat.le_of_ble_eq_true rfl, Nat.le_of_ble_eq_true rfl⟩ (zok_c hi (by decide)) (zix_c hi (by decide)) (pcO hi) rfl rfl rfl (Nat.le_of_ble_eq_true rfl) dX4_readIdentities_55 ⟨Nat.le_of_ble_eq_true rfl, Nat.le_of_ble_eq_true rfl⟩ ?_
        refine x_iinc (v := nI (k + 1)) (ls' := [_, _, _]) cx dX4_readIdentities_58 rfl (nI_inc _) (by decide) rfl ?_
        refine x_goto (tgt := 32) cx dX4_readIdentities_61 (by decide) ?_
        have hcr := cnt_rdX V
        exact x_ls rfl (by simp [lo]) (ih (k + 1) _ (by omega) (zKeep_WF (zRdX_WF hV) (by omega)) (by rw [cnt_keep (zRdX_WF hV)]; omega) (by rw [← hzv]; show _ = (if zRdV V = 255 then zRdX V else zIdL f (zKeep (zRdX V) (zRdV V))); rw [if_neg hb47]))
      · refine x_goto (tgt := 64) cx dX4_readIdentities_50 (by decide) ?_
        have hzv : zRdX V = zIdL 8 (zForget (zGo Y 4)) := by rw [← hzv]; unfold zIdL; rw [if_pos hb47]
        refine x_aload_n cx dX4_readIdentities_64 rfl rfl ?_
        refine x_iconst (v := 1) cx dX4_readIdentities_65 (by decide) ?_
        refine x_Si (rest := []) cx (c_X4_goTo l G _ i hi _ (zRdX_WF hV) 1 (by decide)) gS_X4_29 ndX4_goTo ⟨Nat.le_of_ble_eq_true rfl, Nat.le_of_ble_eq_true rfl⟩ rfl rfl (Nat.le_of_ble_eq_true rfl) dX4_readIdentities_66 ⟨Nat.le_of_ble_eq_true rfl, Nat.le_of_ble_eq_true rfl⟩ ?_
        refine x_pop cx dX4_readIdentities_69 rfl ?_
        refine x_aload_n cx dX4_readIdentities_70 rfl rfl ?_
        refine x_getX0 cx 5 (by decide) (fl_X4_44 cx) (zok_c hi (by decide)) (zix_c hi (by decide)) (pcO hi) rfl dX4_readIdentities_71 ?_
        exact x_iret cx hr (by rw [← hzv]) (by intro _ _ _ _; rw [← hzv]) dX4_readIdentities_74
  | succ f ih =>
    intro k Y hk hY hz
    refine x_iload_n cx dX4_readIdentities_2 rfl rfl ?_
    refine x_iconst (v := 5) cx dX4_readIdentities_3 (by decide) ?_
    refine x_icmp_ge_f (tgt := 20) cx dX4_readIdentities_4 (by decide) (nI_ge (b := 5) (by omega) (by decide)) ?_
    refine x_aload_n cx dX4_readIdentities_7 rfl rfl ?_
    refine x_iconst (v := 1) cx dX4_readIdentities_8 (by decide) ?_
    refine x_iconst (v := 1) cx dX4_readIdentities_9 (by decide) ?_
    refine x_Vi (C := RX0) (T := TX0) (N := 6) (rest := []) cx (c_X0_tick l G _ i hi _ hY _ _) gV_X4_24 ndX0_tick rfl ⟨Nat.le_of_ble_eq_true rfl, Nat.le_of_ble_eq_true rfl⟩ (zok_c hi (by decide)) (zix_c hi (by decide)) (pcO hi) rfl rfl rfl (Nat.le_of_ble_eq_true rfl) dX4_readIdentities_10 ⟨Nat.le_of_ble_eq_true rfl, Nat.le_of_ble_eq_true rfl⟩ ?_
    refine x_pop cx dX4_readIdentities_13 rfl ?_
    refine x_iinc (v := nI (k + 1)) (ls' := [_, _, _]) cx dX4_readIdentities_14 rfl (nI_inc _) (by decide) rfl ?_
    refine x_goto (tgt := 2) cx dX4_readIdentities_17 (by decide) ?_
    exact ih (k + 1) _ (by omega) (zTick_WF hY) hz

set_option maxHeartbeats 4000000 in
set_option maxRecDepth 100000 in
theorem c_X4_loadInstruction (l : Launch) (G : zG) (S : zS) (i : Nat) (hi : i < 7) (X : zCV) (hW : zWF X) (q : Nat) (hq : q < num X) (x : Int32) : Met l yX4_loadInstruction (zws yX4_loadInstruction cX4_loadInstruction 6 none) (zrm 7 0 0 156) (zPc G 75 (pic G (up S i X)) [.ref (zad G i 0), .int (nI q), .int x]) (zQv G 75 (pic G (up S i (zLoad X q x)))) 0 0 (zA G) := by
  refine zMet npX4_loadInstruction rfl (Nat.le_of_ble_eq_true rfl) ?_
  intro p e s m args below meth cd hargs cx hr hin0
  have cx : Cx p s m args meth cd cX4_loadInstruction 6 RX4 G := cx
  refine x_ls (ls' := [some (.ref (zad G i 0)), some (.int (nI q)), some (.int x), none, none, none]) rfl (fun _ h => h) ?_
  have h6 := hW.n6
  refine x_aload_n cx dX4_loadInstruction_0 rfl rfl ?_
  refine x_bipush (v := 11) cx dX4_loadInstruction_1 (by decide) ?_
  refine x_Si (rest := []) cx (c_X4_goTo l G _ i hi _ hW 11 (by decide)) gS_X4_29 ndX4_goTo ⟨Nat.le_of_ble_eq_true rfl, Nat.le_of_ble_eq_true rfl⟩ rfl rfl (Nat.le_of_ble_eq_true rfl) dX4_loadInstruction_3 ⟨Nat.le_of_ble_eq_true rfl, Nat.le_of_ble_eq_true rfl⟩ ?_
  refine x_pop cx dX4_loadInstruction_6 rfl ?_
  refine x_aload_n cx dX4_loadInstruction_7 rfl rfl ?_
  refine x_getX0 cx 1 (by decide) (fl_X4_55 cx) (zok_c hi (by decide)) (zix_c hi (by decide)) (pcO hi) rfl dX4_loadInstruction_8 ?_
  refine x_eqi (show _ = nI (num X) by rw [← num_go X 11]; exact (zGo_WF hW).sz) ?_
  refine x_iconst (v := 1) cx dX4_loadInstruction_11 (by decide) ?_
  refine x_isub cx dX4_loadInstruction_12 ?_
  refine x_istore_n (ls' := [_, _, _, _, _, _]) cx dX4_loadInstruction_13 rfl (by decide) rfl ?_
  suffices K : ∀ (k : Nat) (Y : zCV), k ≤ num X → zWF Y → num Y = num X → zLdL q x k Y = zLdL q x (num X) (zGo X 11) → Xh p l e _ s m args below meth cd 6 G _ 0 0 75 (pic G (up S i Y)) 14 [some (.ref (zad G i 0)), some (.int (nI q)), some (.int x), some (.int (nI k - 1)), none, none] [] from K _ _ (Nat.le_refl _) (zGo_WF hW) (num_go X 11) rfl
  intro k
  induction k with
  | zero =>
    intro Y hk hY hn hz
    have hz : Y = zLdL q x (num X) (zGo X 11) := hz
    refine x_iload_n cx dX4_loadInstruction_14 rfl rfl ?_
    refine x_if_lt_t (tgt := 69) cx dX4_loadInstruction_15 (by decide) (by decide) ?_
    refine x_aload_n cx dX4_loadInstruction_69 rfl rfl ?_
    refine x_iconst (v := 1) cx dX4_loadInstruction_70 (by decide) ?_
    refine x_Si (rest := []) cx (c_X4_goTo l G _ i hi _ hY 1 (by decide)) gS_X4_29 ndX4_goTo ⟨Nat.le_of_ble_eq_true rfl, Nat.le_of_ble_eq_true rfl⟩ rfl rfl (Nat.le_of_ble_eq_true rfl) dX4_loadInstruction_71 ⟨Nat.le_of_ble_eq_true rfl, Nat.le_of_ble_eq_true rfl⟩ ?_
    refine x_pop cx dX4_loadInstruction_74 rfl ?_
    exact x_vret cx hr (by intro _ _ _ _; unfold zLoad; rw [← hz]) dX4_loadInstruction_75
  | succ k ih =>
    intro Y hk hY hn hz
    rw [nI_pred]
    have hc := cWF_len (hY.chip (t := k) (by omega))
    refine x_iload_n cx dX4_loadInstruction_14 rfl rfl ?_
    refine x_if_lt_f (tgt := 69) cx dX4_loadInstruction_15 (by decide) (nI_pos (by omega)) ?_
    refine x_aload_n cx dX4_loadInstruction_18 rfl rfl ?_
    refine x_getX0 cx 0 (by decide) (fl_X4_58 cx) (zok_c hi (by decide)) (zix_c hi (by decide)) (pcO hi) rfl dX4_loadInstruction_19 ?_
    refine x_iload_n cx dX4_loadInstruction_22 rfl rfl ?_
    refine x_aald (t := k) cx 2 rfl (zok_c hi (by decide)) (zix_c hi (by decide)) (pcA hi) rfl (by omega) (by decide) rfl dX4_loadInstruction_23 ?_
    refine x_getX1 cx 0 (by decide) (fl_X4_62 cx) (zok_c hi (by omega)) (zix_c hi (by omega)) (pcC hi _) rfl dX4_loadInstruction_24 ?_
    refine x_eqi (show _ = nI (zLen Y k) from hc.1) ?_
    refine x_istore (ls' := [_, _, _, _, _, _]) cx dX4_loadInstruction_27 (by decide) rfl ?_
    refine x_iload_n cx dX4_loadInstruction_29 rfl rfl ?_
    refine x_iload_n cx dX4_loadInstruction_30 rfl rfl ?_
    refine x_icmp_ne (tgt := 38) cx dX4_loadInstruction_31 (by decide) (fun hb31 => ?_) (fun hb31 => ?_)
    · refine x_iload cx dX4_loadInstruction_38 rfl ?_
      refine x_SNi (rest := []) cx (c_X6_allOnes l G _ _ _) (zG0 zt218) (ml_X4_47 cx) zt32 zt217 ndX6_allOnes ⟨Nat.le_of_ble_eq_true rfl, Nat.le_of_ble_eq_true rfl⟩ rfl rfl (Nat.le_of_ble_eq_true rfl) dX4_loadInstruction_40 ⟨Nat.le_of_ble_eq_true rfl, Nat.le_of_ble_eq_true rfl⟩ ?_
      refine x_istore (ls' := [_, _, _, _, _, _]) cx dX4_loadInstruction_43 (by decide) rfl ?_
      refine x_aload_n cx dX4_loadInstruction_45 rfl rfl ?_
      refine x_iload cx dX4_loadInstruction_46 rfl ?_
      refine x_iload cx dX4_loadInstruction_48 rfl ?_
      refine x_iload_n cx dX4_loadInstruction_50 rfl rfl ?_
      refine x_if_ne (tgt := 58) cx dX4_loadInstruction_51 (by decide) (fun hb51 => ?_) (fun hb51 => ?_)
      · refine x_iconst (v := 0) cx dX4_loadInstruction_58 (by decide) ?_
        refine x_Si (rest := []) cx (c_X4_shiftThrough l G _ i hi _ hY _ (zLen Y k) (Nat.le_trans hc.2.2 (by decide)) 0 (Or.inl rfl)) gS_X4_51 ndX4_shiftThrough ⟨Nat.le_of_ble_eq_true rfl, Nat.le_of_ble_eq_true rfl⟩ rfl rfl (Nat.le_of_ble_eq_true rfl) dX4_loadInstruction_59 ⟨Nat.le_of_ble_eq_true rfl, Nat.le_of_ble_eq_true rfl⟩ ?_
        refine x_pop cx dX4_loadInstruction_62 rfl ?_
        refine x_iinc (ls' := [_, _, _, _, _, _]) cx dX4_loadInstruction_63 rfl rfl (by decide) rfl ?_
        refine x_goto (tgt := 14) cx dX4_loadInstruction_66 (by decide) ?_
        have hcd : zCod q x Y k = zOnes (nI (zLen Y k)) := by unfold zCod; rw [if_neg (fun z => hb31 (by rw [z])), hc.1]; rfl
        have hla : zLa k = 0 := by unfold zLa; rw [if_neg (fun z => hb51 (by rw [z]; rfl))]
        rw [nI_dec]
        refine x_up (X' := zThX (zCod q x Y k) (zLen Y k) (zLa k) (zLen Y k) Y) (by rw [hcd, hla]) ?_
        exact x_ls rfl (by simp [lo]) (ih _ (by omega) (zThX_WF hY _) (by rw [num_thX]; exact hn) hz)
      · refine x_iconst (v := 1) cx dX4_loadInstruction_54 (by decide) ?_
        refine x_goto (tgt := 59) cx dX4_loadInstruction_55 (by decide) ?_
        refine x_Si (rest := []) cx (c_X4_shiftThrough l G _ i hi _ hY _ (zLen Y k) (Nat.le_trans hc.2.2 (by decide)) 1 (Or.inr rfl)) gS_X4_51 ndX4_shiftThrough ⟨Nat.le_of_ble_eq_true rfl, Nat.le_of_ble_eq_true rfl⟩ rfl rfl (Nat.le_of_ble_eq_true rfl) dX4_loadInstruction_59 ⟨Nat.le_of_ble_eq_true rfl, Nat.le_of_ble_eq_true rfl⟩ ?_
        refine x_pop cx dX4_loadInstruction_62 rfl ?_
        refine x_iinc (ls' := [_, _, _, _, _, _]) cx dX4_loadInstruction_63 rfl rfl (by decide) rfl ?_
        refine x_goto (tgt := 14) cx dX4_loadInstruction_66 (by decide) ?_
        have hcd : zCod q x Y k = zOnes (nI (zLen Y k)) := by unfold zCod; rw [if_neg (fun z => hb31 (by rw [z])), hc.1]; rfl
        have hla : zLa k = 1 := by unfold zLa; rw [if_pos ((nI_eq (b := 0) (by omega) (by decide)).mp hb51)]
        rw [nI_dec]
        refine x_up (X' := zThX (zCod q x Y k) (zLen Y k) (zLa k) (zLen Y k) Y) (by rw [hcd, hla]) ?_
        exact x_ls rfl (by simp [lo]) (ih _ (by omega) (zThX_WF hY _) (by rw [num_thX]; exact hn) hz)
    · refine x_iload_n cx dX4_loadInstruction_34 rfl rfl ?_
      refine x_goto (tgt := 43) cx dX4_loadInstruction_35 (by decide) ?_
      refine x_istore (ls' := [_, _, _, _, _, _]) cx dX4_loadInstruction_43 (by decide) rfl ?_
      refine x_aload_n cx dX4_loadInstruction_45 rfl rfl ?_
      refine x_iload cx dX4_loadInstruction_46 rfl ?_
      refine x_iload cx dX4_loadInstruction_48 rfl ?_
      refine x_iload_n cx dX4_loadInstruction_50 rfl rfl ?_
      refine x_if_ne (tgt := 58) cx dX4_loadInstruction_51 (by decide) (fun hb51 => ?_) (fun hb51 => ?_)
      · refine x_iconst (v := 0) cx dX4_loadInstruction_58 (by decide) ?_
        refine x_Si (rest := []) cx (c_X4_shiftThrough l G _ i hi _ hY _ (zLen Y k) (Nat.le_trans hc.2.2 (by decide)) 0 (Or.inl rfl)) gS_X4_51 ndX4_shiftThrough ⟨Nat.le_of_ble_eq_true rfl, Nat.le_of_ble_eq_true rfl⟩ rfl rfl (Nat.le_of_ble_eq_true rfl) dX4_loadInstruction_59 ⟨Nat.le_of_ble_eq_true rfl, Nat.le_of_ble_eq_true rfl⟩ ?_
        refine x_pop cx dX4_loadInstruction_62 rfl ?_
        refine x_iinc (ls' := [_, _, _, _, _, _]) cx dX4_loadInstruction_63 rfl rfl (by decide) rfl ?_
        refine x_goto (tgt := 14) cx dX4_loadInstruction_66 (by decide) ?_
        have hcd : zCod q x Y k = x := by unfold zCod; rw [if_pos ((nI_eq (by omega) (by omega)).mp hb31)]
        have hla : zLa k = 0 := by unfold zLa; rw [if_neg (fun z => hb51 (by rw [z]; rfl))]
        rw [nI_dec]
        refine x_up (X' := zThX (zCod q x Y k) (zLen Y k) (zLa k) (zLen Y k) Y) (by rw [hcd, hla]) ?_
        exact x_ls rfl (by simp [lo]) (ih _ (by omega) (zThX_WF hY _) (by rw [num_thX]; exact hn) hz)
      · refine x_iconst (v := 1) cx dX4_loadInstruction_54 (by decide) ?_
        refine x_goto (tgt := 59) cx dX4_loadInstruction_55 (by decide) ?_
        refine x_Si (rest := []) cx (c_X4_shiftThrough l G _ i hi _ hY _ (zLen Y k) (Nat.le_trans hc.2.2 (by decide)) 1 (Or.inr rfl)) gS_X4_51 ndX4_shiftThrough ⟨Nat.le_of_ble_eq_true rfl, Nat.le_of_ble_eq_true rfl⟩ rfl rfl (Nat.le_of_ble_eq_true rfl) dX4_loadInstruction_59 ⟨Nat.le_of_ble_eq_true rfl, Nat.le_of_ble_eq_true rfl⟩ ?_
        refine x_pop cx dX4_loadInstruction_62 rfl ?_
        refine x_iinc (ls' := [_, _, _, _, _, _]) cx dX4_loadInstruction_63 rfl rfl (by decide) rfl ?_
        refine x_goto (tgt := 14) cx dX4_loadInstruction_66 (by decide) ?_
        have hcd : zCod q x Y k = x := by unfold zCod; rw [if_pos ((nI_eq (by omega) (by omega)).mp hb31)]
        have hla : zLa k = 1 := by unfold zLa; rw [if_pos ((nI_eq (b := 0) (by omega) (by decide)).mp hb51)]
        rw [nI_dec]
        refine x_up (X' := zThX (zCod q x Y k) (zLen Y k) (zLa k) (zLen Y k) Y) (by rw [hcd, hla]) ?_
        exact x_ls rfl (by simp [lo]) (ih _ (by omega) (zThX_WF hY _) (by rw [num_thX]; exact hn) hz)

set_option maxHeartbeats 4000000 in
set_option maxRecDepth 100000 in
theorem c_X4_exchangeData (l : Launch) (G : zG) (S : zS) (i : Nat) (hi : i < 7) (X : zCV) (hW : zWF X) (q : Nat) (hq : q < num X) (x : Int32) : Met l yX4_exchangeData (zws yX4_exchangeData cX4_exchangeData 7 (some .int)) (zrm 7 0 0 156) (zPc G 75 (pic G (up S i X)) [.ref (zad G i 0), .int (nI q), .int x]) (zQi G 75 (zExchO X q x) (pic G (up S i (zExch X q x)))) 0 0 (zA G) := by
  refine zMet npX4_exchangeData rfl (Nat.le_of_ble_eq_true rfl) ?_
  intro p e s m args below meth cd hargs cx hr hin0
  have cx : Cx p s m args meth cd cX4_exchangeData 7 RX4 G := cx
  refine x_ls (ls' := [some (.ref (zad G i 0)), some (.int (nI q)), some (.int x), none, none, none, none]) rfl (fun _ h => h) ?_
  have h6 := hW.n6
  refine x_iconst (v := 0) cx dX4_exchangeData_0 (by decide) ?_
  refine x_istore_n (ls' := [_, _, _, _, _, _, _]) cx dX4_exchangeData_1 rfl (by decide) rfl ?_
  refine x_aload_n cx dX4_exchangeData_2 rfl rfl ?_
  refine x_iconst (v := 4) cx dX4_exchangeData_3 (by decide) ?_
  refine x_Si (rest := []) cx (c_X4_goTo l G _ i hi _ hW 4 (by decide)) gS_X4_29 ndX4_goTo ⟨Nat.le_of_ble_eq_true rfl, Nat.le_of_ble_eq_true rfl⟩ rfl rfl (Nat.le_of_ble_eq_true rfl) dX4_exchangeData_4 ⟨Nat.le_of_ble_eq_true rfl, Nat.le_of_ble_eq_true rfl⟩ ?_
  refine x_pop cx dX4_exchangeData_7 rfl ?_
  refine x_aload_n cx dX4_exchangeData_8 rfl rfl ?_
  refine x_getX0 cx 1 (by decide) (fl_X4_55 cx) (zok_c hi (by decide)) (zix_c hi (by decide)) (pcO hi) rfl dX4_exchangeData_9 ?_
  refine x_eqi (show _ = nI (num X) by rw [← num_go X 4]; exact (zGo_WF hW).sz) ?_
  refine x_iconst (v := 1) cx dX4_exchangeData_12 (by decide) ?_
  refine x_isub cx dX4_exchangeData_13 ?_
  refine x_istore (ls' := [_, _, _, _, _, _, _]) cx dX4_exchangeData_14 (by decide) rfl ?_
  suffices K : ∀ (k : Nat) (o : Int32) (Y : zCV), k ≤ num X → zWF Y → num Y = num X → zExX q x k Y = zExX q x (num X) (zGo X 4) → zExO q x k o Y = zExchO X q x → Xh p l e _ s m args below meth cd 7 G _ 0 0 75 (pic G (up S i Y)) 16 [some (.ref (zad G i 0)), some (.int (nI q)), some (.int x), some (.int o), some (.int (nI k - 1)), none, none] [] from K _ _ _ (Nat.le_refl _) (zGo_WF hW) (num_go X 4) rfl rfl
  intro k
  induction k with
  | zero =>
    intro o Y hk hY hn hz ho
    have hz : Y = zExX q x (num X) (zGo X 4) := hz
    refine x_iload cx dX4_exchangeData_16 rfl ?_
    refine x_if_lt_t (tgt := 77) cx dX4_exchangeData_18 (by decide) (by decide) ?_
    refine x_aload_n cx dX4_exchangeData_77 rfl rfl ?_
    refine x_iconst (v := 1) cx dX4_exchangeData_78 (by decide) ?_
    refine x_Si (rest := []) cx (c_X4_goTo l G _ i hi _ hY 1 (by decide)) gS_X4_29 ndX4_goTo ⟨Nat.le_of_ble_eq_true rfl, Nat.le_of_ble_eq_true rfl⟩ rfl rfl (Nat.le_of_ble_eq_true rfl) dX4_exchangeData_79 ⟨Nat.le_of_ble_eq_true rfl, Nat.le_of_ble_eq_true rfl⟩ ?_
    refine x_pop cx dX4_exchangeData_82 rfl ?_
    refine x_iload_n cx dX4_exchangeData_83 rfl rfl ?_
    exact x_iret cx hr ho (by intro _ _ _ _; unfold zExch; rw [← hz]) dX4_exchangeData_84
  | succ k ih =>
    intro o Y hk hY hn hz ho
    rw [nI_pred]
    have hc := cWF_bits (hY.chip (t := k) (by omega))
    refine x_iload cx dX4_exchangeData_16 rfl ?_
    refine x_if_lt_f (tgt := 77) cx dX4_exchangeData_18 (by decide) (nI_pos (by omega)) ?_
    refine x_iload cx dX4_exchangeData_21 rfl ?_
    refine x_iload_n cx dX4_exchangeData_23 rfl rfl ?_
    refine x_icmp_ne (tgt := 31) cx dX4_exchangeData_24 (by decide) (fun hb24 => ?_) (fun hb24 => ?_)
    · refine x_iconst (v := 0) cx dX4_exchangeData_31 (by decide) ?_
      refine x_istore (ls' := [_, _, _, _, _, _, _]) cx dX4_exchangeData_32 (by decide) rfl ?_
      refine x_aload_n cx dX4_exchangeData_34 rfl rfl ?_
      refine x_iload cx dX4_exchangeData_35 rfl ?_
      refine x_aload_n cx dX4_exchangeData_37 rfl rfl ?_
      refine x_getX0 cx 0 (by decide) (fl_X4_58 cx) (zok_c hi (by decide)) (zix_c hi (by decide)) (pcO hi) rfl dX4_exchangeData_38 ?_
      refine x_iload cx dX4_exchangeData_41 rfl ?_
      refine x_aald (t := k) cx 2 rfl (zok_c hi (by decide)) (zix_c hi (by decide)) (pcA hi) rfl (by omega) (by decide) rfl dX4_exchangeData_43 ?_
      refine x_chip k ?_
      refine x_Vi (C := RX1) (T := TX1) (N := 9) (rest := [_, _]) cx (c_X1_dataBits l G _ i k hi (by omega) _ _) gV_X4_67 ndX1_dataBits rfl ⟨Nat.le_of_ble_eq_true rfl, Nat.le_of_ble_eq_true rfl⟩ (zok_c hi (by omega)) (zix_c hi (by omega)) (pcC hi _) rfl rfl rfl (Nat.le_of_ble_eq_true rfl) dX4_exchangeData_44 ⟨Nat.le_of_ble_eq_true rfl, Nat.le_of_ble_eq_true rfl⟩ ?_
      refine x_unchip ?_
      refine x_eqi (show _ = nI (zBtN Y k) from hc.1) ?_
      refine x_iload cx dX4_exchangeData_47 rfl ?_
      refine x_if_ne (tgt := 56) cx dX4_exchangeData_49 (by decide) (fun hb49 => ?_) (fun hb49 => ?_)
      · refine x_iconst (v := 0) cx dX4_exchangeData_56 (by decide) ?_
        refine x_Si (rest := []) cx (c_X4_shiftThrough l G _ i hi _ hY _ (zBtN Y k) hc.2.2 0 (Or.inl rfl)) gS_X4_51 ndX4_shiftThrough ⟨Nat.le_of_ble_eq_true rfl, Nat.le_of_ble_eq_true rfl⟩ rfl rfl (Nat.le_of_ble_eq_true rfl) dX4_exchangeData_57 ⟨Nat.le_of_ble_eq_true rfl, Nat.le_of_ble_eq_true rfl⟩ ?_
        refine x_istore (ls' := [_, _, _, _, _, _, _]) cx dX4_exchangeData_60 (by decide) rfl ?_
        refine x_iload cx dX4_exchangeData_62 rfl ?_
        refine x_iload_n cx dX4_exchangeData_64 rfl rfl ?_
        refine x_icmp_ne_t (tgt := 71) cx dX4_exchangeData_65 (by decide) hb24 ?_
        refine x_iinc (ls' := [_, _, _, _, _, _, _]) cx dX4_exchangeData_71 rfl rfl (by decide) rfl ?_
        refine x_goto (tgt := 16) cx dX4_exchangeData_74 (by decide) ?_
        have hqk : ¬ k = q := fun z => hb24 (by rw [z])
        have hcd : zDat q x k = 0 := if_neg hqk
        have hof : ∀ u : Int32, (if k = q then u else o) = o := fun u => if_neg hqk
        have hla : zLa k = 0 := by unfold zLa; rw [if_neg (fun z => hb49 (by rw [z]; rfl))]
        rw [nI_dec]
        refine x_up (X' := zThX (zDat q x k) (zBtN Y k) (zLa k) (zBtN Y k) Y) (by rw [hcd, hla]) ?_
        have ho2 : zExO q x k (if k = q then zThO (zDat q x k) (zBtN Y k) (zLa k) (zBtN Y k) Y else o) (zThX (zDat q x k) (zBtN Y k) (zLa k) (zBtN Y k) Y) = zExchO X q x := ho
        have h9 := ih _ _ (by omega) (zThX_WF hY _) (by rw [num_thX]; exact hn) hz ho2
        rw [hof] at h9
        exact x_ls rfl (by simp [lo, hcd, hla]) h9
      · refine x_iconst (v := 1) cx dX4_exchangeData_52 (by decide) ?_
        refine x_goto (tgt := 57) cx dX4_exchangeData_53 (by decide) ?_
        refine x_Si (rest := []) cx (c_X4_shiftThrough l G _ i hi _ hY _ (zBtN Y k) hc.2.2 1 (Or.inr rfl)) gS_X4_51 ndX4_shiftThrough ⟨Nat.le_of_ble_eq_true rfl, Nat.le_of_ble_eq_true rfl⟩ rfl rfl (Nat.le_of_ble_eq_true rfl) dX4_exchangeData_57 ⟨Nat.le_of_ble_eq_true rfl, Nat.le_of_ble_eq_true rfl⟩ ?_
        refine x_istore (ls' := [_, _, _, _, _, _, _]) cx dX4_exchangeData_60 (by decide) rfl ?_
        refine x_iload cx dX4_exchangeData_62 rfl ?_
        refine x_iload_n cx dX4_exchangeData_64 rfl rfl ?_
        refine x_icmp_ne_t (tgt := 71) cx dX4_exchangeData_65 (by decide) hb24 ?_
        refine x_iinc (ls' := [_, _, _, _, _, _, _]) cx dX4_exchangeData_71 rfl rfl (by decide) rfl ?_
        refine x_goto (tgt := 16) cx dX4_exchangeData_74 (by decide) ?_
        have hqk : ¬ k = q := fun z => hb24 (by rw [z])
        have hcd : zDat q x k = 0 := if_neg hqk
        have hof : ∀ u : Int32, (if k = q then u else o) = o := fun u => if_neg hqk
        have hla : zLa k = 1 := by unfold zLa; rw [if_pos ((nI_eq (b := 0) (by omega) (by decide)).mp hb49)]
        rw [nI_dec]
        refine x_up (X' := zThX (zDat q x k) (zBtN Y k) (zLa k) (zBtN Y k) Y) (by rw [hcd, hla]) ?_
        have ho2 : zExO q x k (if k = q then zThO (zDat q x k) (zBtN Y k) (zLa k) (zBtN Y k) Y else o) (zThX (zDat q x k) (zBtN Y k) (zLa k) (zBtN Y k) Y) = zExchO X q x := ho
        have h9 := ih _ _ (by omega) (zThX_WF hY _) (by rw [num_thX]; exact hn) hz ho2
        rw [hof] at h9
        exact x_ls rfl (by simp [lo, hcd, hla]) h9
    · refine x_iload_n cx dX4_exchangeData_27 rfl rfl ?_
      refine x_goto (tgt := 32) cx dX4_exchangeData_28 (by decide) ?_
      refine x_istore (ls' := [_, _, _, _, _, _, _]) cx dX4_exchangeData_32 (by decide) rfl ?_
      refine x_aload_n cx dX4_exchangeData_34 rfl rfl ?_
      refine x_iload cx dX4_exchangeData_35 rfl ?_
      refine x_aload_n cx dX4_exchangeData_37 rfl rfl ?_
      refine x_getX0 cx 0 (by decide) (fl_X4_58 cx) (zok_c hi (by decide)) (zix_c hi (by decide)) (pcO hi) rfl dX4_exchangeData_38 ?_
      refine x_iload cx dX4_exchangeData_41 rfl ?_
      refine x_aald (t := k) cx 2 rfl (zok_c hi (by decide)) (zix_c hi (by decide)) (pcA hi) rfl (by omega) (by decide) rfl dX4_exchangeData_43 ?_
      refine x_chip k ?_
      refine x_Vi (C := RX1) (T := TX1) (N := 9) (rest := [_, _]) cx (c_X1_dataBits l G _ i k hi (by omega) _ _) gV_X4_67 ndX1_dataBits rfl ⟨Nat.le_of_ble_eq_true rfl, Nat.le_of_ble_eq_true rfl⟩ (zok_c hi (by omega)) (zix_c hi (by omega)) (pcC hi _) rfl rfl rfl (Nat.le_of_ble_eq_true rfl) dX4_exchangeData_44 ⟨Nat.le_of_ble_eq_true rfl, Nat.le_of_ble_eq_true rfl⟩ ?_
      refine x_unchip ?_
      refine x_eqi (show _ = nI (zBtN Y k) from hc.1) ?_
      refine x_iload cx dX4_exchangeData_47 rfl ?_
      refine x_if_ne (tgt := 56) cx dX4_exchangeData_49 (by decide) (fun hb49 => ?_) (fun hb49 => ?_)
      · refine x_iconst (v := 0) cx dX4_exchangeData_56 (by decide) ?_
        refine x_Si (rest := []) cx (c_X4_shiftThrough l G _ i hi _ hY _ (zBtN Y k) hc.2.2 0 (Or.inl rfl)) gS_X4_51 ndX4_shiftThrough ⟨Nat.le_of_ble_eq_true rfl, Nat.le_of_ble_eq_true rfl⟩ rfl rfl (Nat.le_of_ble_eq_true rfl) dX4_exchangeData_57 ⟨Nat.le_of_ble_eq_true rfl, Nat.le_of_ble_eq_true rfl⟩ ?_
        refine x_istore (ls' := [_, _, _, _, _, _, _]) cx dX4_exchangeData_60 (by decide) rfl ?_
        refine x_iload cx dX4_exchangeData_62 rfl ?_
        refine x_iload_n cx dX4_exchangeData_64 rfl rfl ?_
        refine x_icmp_ne_f (tgt := 71) cx dX4_exchangeData_65 (by decide) hb24 ?_
        refine x_iload cx dX4_exchangeData_68 rfl ?_
        refine x_istore_n (ls' := [_, _, _, _, _, _, _]) cx dX4_exchangeData_70 rfl (by decide) rfl ?_
        refine x_iinc (ls' := [_, _, _, _, _, _, _]) cx dX4_exchangeData_71 rfl rfl (by decide) rfl ?_
        refine x_goto (tgt := 16) cx dX4_exchangeData_74 (by decide) ?_
        have hqk : k = q := (nI_eq (by omega) (by omega)).mp hb24
        have hcd : zDat q x k = x := if_pos hqk
        have hof : ∀ u : Int32, (if k = q then u else o) = u := fun u => if_pos hqk
        have hla : zLa k = 0 := by unfold zLa; rw [if_neg (fun z => hb49 (by rw [z]; rfl))]
        rw [nI_dec]
        refine x_up (X' := zThX (zDat q x k) (zBtN Y k) (zLa k) (zBtN Y k) Y) (by rw [hcd, hla]) ?_
        have ho2 : zExO q x k (if k = q then zThO (zDat q x k) (zBtN Y k) (zLa k) (zBtN Y k) Y else o) (zThX (zDat q x k) (zBtN Y k) (zLa k) (zBtN Y k) Y) = zExchO X q x := ho
        have h9 := ih _ _ (by omega) (zThX_WF hY _) (by rw [num_thX]; exact hn) hz ho2
        rw [hof] at h9
        exact x_ls rfl (by simp [lo, hcd, hla]) h9
      · refine x_iconst (v := 1) cx dX4_exchangeData_52 (by decide) ?_
        refine x_goto (tgt := 57) cx dX4_exchangeData_53 (by decide) ?_
        refine x_Si (rest := []) cx (c_X4_shiftThrough l G _ i hi _ hY _ (zBtN Y k) hc.2.2 1 (Or.inr rfl)) gS_X4_51 ndX4_shiftThrough ⟨Nat.le_of_ble_eq_true rfl, Nat.le_of_ble_eq_true rfl⟩ rfl rfl (Nat.le_of_ble_eq_true rfl) dX4_exchangeData_57 ⟨Nat.le_of_ble_eq_true rfl, Nat.le_of_ble_eq_true rfl⟩ ?_
        refine x_istore (ls' := [_, _, _, _, _, _, _]) cx dX4_exchangeData_60 (by decide) rfl ?_
        refine x_iload cx dX4_exchangeData_62 rfl ?_
        refine x_iload_n cx dX4_exchangeData_64 rfl rfl ?_
        refine x_icmp_ne_f (tgt := 71) cx dX4_exchangeData_65 (by decide) hb24 ?_
        refine x_iload cx dX4_exchangeData_68 rfl ?_
        refine x_istore_n (ls' := [_, _, _, _, _, _, _]) cx dX4_exchangeData_70 rfl (by decide) rfl ?_
        refine x_iinc (ls' := [_, _, _, _, _, _, _]) cx dX4_exchangeData_71 rfl rfl (by decide) rfl ?_
        refine x_goto (tgt := 16) cx dX4_exchangeData_74 (by decide) ?_
        have hqk : k = q := (nI_eq (by omega) (by omega)).mp hb24
        have hcd : zDat q x k = x := if_pos hqk
        have hof : ∀ u : Int32, (if k = q then u else o) = u := fun u => if_pos hqk
        have hla : zLa k = 1 := by unfold zLa; rw [if_pos ((nI_eq (b := 0) (by omega) (by decide)).mp hb49)]
        rw [nI_dec]
        refine x_up (X' := zThX (zDat q x k) (zBtN Y k) (zLa k) (zBtN Y k) Y) (by rw [hcd, hla]) ?_
        have ho2 : zExO q x k (if k = q then zThO (zDat q x k) (zBtN Y k) (zLa k) (zBtN Y k) Y else o) (zThX (zDat q x k) (zBtN Y k) (zLa k) (zBtN Y k) Y) = zExchO X q x := ho
        have h9 := ih _ _ (by omega) (zThX_WF hY _) (by rw [num_thX]; exact hn) hz ho2
        rw [hof] at h9
        exact x_ls rfl (by simp [lo, hcd, hla]) h9

set_option maxHeartbeats 4000000 in
set_option maxRecDepth 100000 in
theorem c_X4_clockItem (l : Launch) (G : zG) (S : zS) (i : Nat) (hi : i < 7) (X : zCV) (hW : zWF X) (c : Int32) : Met l yX4_clockItem (zws yX4_clockItem cX4_clockItem 4 none) (zrm 6 0 0 130) (zPc G 75 (pic G (up S i X)) [.ref (zad G i 0), .int c]) (zQv G 75 (pic G (up S i (zTick X (zCm c) (zCi c))))) 0 0 (zA G) := by
  refine zMet npX4_clockItem rfl (Nat.le_of_ble_eq_true rfl) ?_
  intro p e s m args below meth cd hargs cx hr hin0
  have cx : Cx p s m args meth cd cX4_clockItem 4 RX4 G := cx
  refine x_ls (ls' := [some (.ref (zad G i 0)), some (.int c), none, none]) rfl (fun _ h => h) ?_
  refine x_iload_n cx dX4_clockItem_0 rfl rfl ?_
  refine x_bipush (v := 97) cx dX4_clockItem_1 (by decide) ?_
  refine x_icmp_eq (tgt := 12) cx dX4_clockItem_3 (by decide) (fun hb3 => ?_) (fun hb3 => ?_)
  · refine x_iconst (v := 1) cx dX4_clockItem_12 (by decide) ?_
    refine x_goto (tgt := 17) cx dX4_clockItem_13 (by decide) ?_
    refine x_istore_n (ls' := [_, _, _, _]) cx dX4_clockItem_17 rfl (by decide) rfl ?_
    refine x_iload_n cx dX4_clockItem_18 rfl rfl ?_
    refine x_bipush (v := 49) cx dX4_clockItem_19 (by decide) ?_
    refine x_icmp_eq (tgt := 30) cx dX4_clockItem_21 (by decide) (fun hb21 => ?_) (fun hb21 => ?_)
    · refine x_iconst (v := 1) cx dX4_clockItem_30 (by decide) ?_
      refine x_goto (tgt := 35) cx dX4_clockItem_31 (by decide) ?_
      refine x_istore_n (ls' := [_, _, _, _]) cx dX4_clockItem_35 rfl (by decide) rfl ?_
      refine x_aload_n cx dX4_clockItem_36 rfl rfl ?_
      refine x_iload_n cx dX4_clockItem_37 rfl rfl ?_
      refine x_iload_n cx dX4_clockItem_38 rfl rfl ?_
      refine x_Vi (C := RX0) (T := TX0) (N := 6) (rest := []) cx (c_X0_tick l G _ i hi _ hW _ _) gV_X4_24 ndX0_tick rfl ⟨Nat.le_of_ble_eq_true rfl, Nat.le_of_ble_eq_true rfl⟩ (zok_c hi (by decide)) (zix_c hi (by decide)) (pcO hi) rfl rfl rfl (Nat.le_of_ble_eq_true rfl) dX4_clockItem_39 ⟨Nat.le_of_ble_eq_true rfl, Nat.le_of_ble_eq_true rfl⟩ ?_
      refine x_pop cx dX4_clockItem_42 rfl ?_
      exact x_vret cx hr (by have h1 : zCm c = 1 := (by unfold zCm; rw [if_pos hb3]); have h2 : zCi c = 1 := (by unfold zCi; rw [if_pos hb21]); intro _ _ _ _; rw [h1, h2]) dX4_clockItem_43
    · refine x_iload_n cx dX4_clockItem_24 rfl rfl ?_
      refine x_bipush (v := 98) cx dX4_clockItem_25 (by decide) ?_
      refine x_icmp_ne (tgt := 34) cx dX4_clockItem_27 (by decide) (fun hb27 => ?_) (fun hb27 => ?_)
      · refine x_iconst (v := 0) cx dX4_clockItem_34 (by decide) ?_
        refine x_istore_n (ls' := [_, _, _, _]) cx dX4_clockItem_35 rfl (by decide) rfl ?_
        refine x_aload_n cx dX4_clockItem_36 rfl rfl ?_
        refine x_iload_n cx dX4_clockItem_37 rfl rfl ?_
        refine x_iload_n cx dX4_clockItem_38 rfl rfl ?_
        refine x_Vi (C := RX0) (T := TX0) (N := 6) (rest := []) cx (c_X0_tick l G _ i hi _ hW _ _) gV_X4_24 ndX0_tick rfl ⟨Nat.le_of_ble_eq_true rfl, Nat.le_of_ble_eq_true rfl⟩ (zok_c hi (by decide)) (zix_c hi (by decide)) (pcO hi) rfl rfl rfl (Nat.le_of_ble_eq_true rfl) dX4_clockItem_39 ⟨Nat.le_of_ble_eq_true rfl, Nat.le_of_ble_eq_true rfl⟩ ?_
        refine x_pop cx dX4_clockItem_42 rfl ?_
        exact x_vret cx hr (by have h1 : zCm c = 1 := (by unfold zCm; rw [if_pos hb3]); have h2 : zCi c = 0 := (by unfold zCi; rw [if_neg hb21, if_neg hb27]); intro _ _ _ _; rw [h1, h2]) dX4_clockItem_43
      · refine x_iconst (v := 1) cx dX4_clockItem_30 (by decide) ?_
        refine x_goto (tgt := 35) cx dX4_clockItem_31 (by decide) ?_
        refine x_istore_n (ls' := [_, _, _, _]) cx dX4_clockItem_35 rfl (by decide) rfl ?_
        refine x_aload_n cx dX4_clockItem_36 rfl rfl ?_
        refine x_iload_n cx dX4_clockItem_37 rfl rfl ?_
        refine x_iload_n cx dX4_clockItem_38 rfl rfl ?_
        refine x_Vi (C := RX0) (T := TX0) (N := 6) (rest := []) cx (c_X0_tick l G _ i hi _ hW _ _) gV_X4_24 ndX0_tick rfl ⟨Nat.le_of_ble_eq_true rfl, Nat.le_of_ble_eq_true rfl⟩ (zok_c hi (by decide)) (zix_c hi (by decide)) (pcO hi) rfl rfl rfl (Nat.le_of_ble_eq_true rfl) dX4_clockItem_39 ⟨Nat.le_of_ble_eq_true rfl, Nat.le_of_ble_eq_true rfl⟩ ?_
        refine x_pop cx dX4_clockItem_42 rfl ?_
        exact x_vret cx hr (by have h1 : zCm c = 1 := (by unfold zCm; rw [if_pos hb3]); have h2 : zCi c = 1 := (by unfold zCi; rw [if_neg hb21, if_pos hb27]); intro _ _ _ _; rw [h1, h2]) dX4_clockItem_43
  · refine x_iload_n cx dX4_clockItem_6 rfl rfl ?_
    refine x_bipush (v := 98) cx dX4_clockItem_7 (by decide) ?_
    refine x_icmp_ne (tgt := 16) cx dX4_clockItem_9 (by decide) (fun hb9 => ?_) (fun hb9 => ?_)
    · refine x_iconst (v := 0) cx dX4_clockItem_16 (by decide) ?_
      refine x_istore_n (ls' := [_, _, _, _]) cx dX4_clockItem_17 rfl (by decide) rfl ?_
      refine x_iload_n cx dX4_clockItem_18 rfl rfl ?_
      refine x_bipush (v := 49) cx dX4_clockItem_19 (by decide) ?_
      refine x_icmp_eq (tgt := 30) cx dX4_clockItem_21 (by decide) (fun hb21 => ?_) (fun hb21 => ?_)
      · refine x_iconst (v := 1) cx dX4_clockItem_30 (by decide) ?_
        refine x_goto (tgt := 35) cx dX4_clockItem_31 (by decide) ?_
        refine x_istore_n (ls' := [_, _, _, _]) cx dX4_clockItem_35 rfl (by decide) rfl ?_
        refine x_aload_n cx dX4_clockItem_36 rfl rfl ?_
        refine x_iload_n cx dX4_clockItem_37 rfl rfl ?_
        refine x_iload_n cx dX4_clockItem_38 rfl rfl ?_
        refine x_Vi (C := RX0) (T := TX0) (N := 6) (rest := []) cx (c_X0_tick l G _ i hi _ hW _ _) gV_X4_24 ndX0_tick rfl ⟨Nat.le_of_ble_eq_true rfl, Nat.le_of_ble_eq_true rfl⟩ (zok_c hi (by decide)) (zix_c hi (by decide)) (pcO hi) rfl rfl rfl (Nat.le_of_ble_eq_true rfl) dX4_clockItem_39 ⟨Nat.le_of_ble_eq_true rfl, Nat.le_of_ble_eq_true rfl⟩ ?_
        refine x_pop cx dX4_clockItem_42 rfl ?_
        exact x_vret cx hr (by have h1 : zCm c = 0 := (by unfold zCm; rw [if_neg hb3, if_neg hb9]); have h2 : zCi c = 1 := (by unfold zCi; rw [if_pos hb21]); intro _ _ _ _; rw [h1, h2]) dX4_clockItem_43
      · refine x_iload_n cx dX4_clockItem_24 rfl rfl ?_
        refine x_bipush (v := 98) cx dX4_clockItem_25 (by decide) ?_
        refine x_icmp_ne (tgt := 34) cx dX4_clockItem_27 (by decide) (fun hb27 => ?_) (fun hb27 => ?_)
        · refine x_iconst (v := 0) cx dX4_clockItem_34 (by decide) ?_
          refine x_istore_n (ls' := [_, _, _, _]) cx dX4_clockItem_35 rfl (by decide) rfl ?_
          refine x_aload_n cx dX4_clockItem_36 rfl rfl ?_
          refine x_iload_n cx dX4_clockItem_37 rfl rfl ?_
          refine x_iload_n cx dX4_clockItem_38 rfl rfl ?_
          refine x_Vi (C := RX0) (T := TX0) (N := 6) (rest := []) cx (c_X0_tick l G _ i hi _ hW _ _) gV_X4_24 ndX0_tick rfl ⟨Nat.le_of_ble_eq_true rfl, Nat.le_of_ble_eq_true rfl⟩ (zok_c hi (by decide)) (zix_c hi (by decide)) (pcO hi) rfl rfl rfl (Nat.le_of_ble_eq_true rfl) dX4_clockItem_39 ⟨Nat.le_of_ble_eq_true rfl, Nat.le_of_ble_eq_true rfl⟩ ?_
          refine x_pop cx dX4_clockItem_42 rfl ?_
          exact x_vret cx hr (by have h1 : zCm c = 0 := (by unfold zCm; rw [if_neg hb3, if_neg hb9]); have h2 : zCi c = 0 := (by unfold zCi; rw [if_neg hb21, if_neg hb27]); intro _ _ _ _; rw [h1, h2]) dX4_clockItem_43
        · refine x_iconst (v := 1) cx dX4_clockItem_30 (by decide) ?_
          refine x_goto (tgt := 35) cx dX4_clockItem_31 (by decide) ?_
          refine x_istore_n (ls' := [_, _, _, _]) cx dX4_clockItem_35 rfl (by decide) rfl ?_
          refine x_aload_n cx dX4_clockItem_36 rfl rfl ?_
          refine x_iload_n cx dX4_clockItem_37 rfl rfl ?_
          refine x_iload_n cx dX4_clockItem_38 rfl rfl ?_
          refine x_Vi (C := RX0) (T := TX0) (N := 6) (rest := []) cx (c_X0_tick l G _ i hi _ hW _ _) gV_X4_24 ndX0_tick rfl ⟨Nat.le_of_ble_eq_true rfl, Nat.le_of_ble_eq_true rfl⟩ (zok_c hi (by decide)) (zix_c hi (by decide)) (pcO hi) rfl rfl rfl (Nat.le_of_ble_eq_true rfl) dX4_clockItem_39 ⟨Nat.le_of_ble_eq_true rfl, Nat.le_of_ble_eq_true rfl⟩ ?_
          refine x_pop cx dX4_clockItem_42 rfl ?_
          exact x_vret cx hr (by have h1 : zCm c = 0 := (by unfold zCm; rw [if_neg hb3, if_neg hb9]); have h2 : zCi c = 1 := (by unfold zCi; rw [if_neg hb21, if_pos hb27]); intro _ _ _ _; rw [h1, h2]) dX4_clockItem_43
    · refine x_iconst (v := 1) cx dX4_clockItem_12 (by decide) ?_
      refine x_goto (tgt := 17) cx dX4_clockItem_13 (by decide) ?_
      refine x_istore_n (ls' := [_, _, _, _]) cx dX4_clockItem_17 rfl (by decide) rfl ?_
      refine x_iload_n cx dX4_clockItem_18 rfl rfl ?_
      refine x_bipush (v := 49) cx dX4_clockItem_19 (by decide) ?_
      refine x_icmp_eq (tgt := 30) cx dX4_clockItem_21 (by decide) (fun hb21 => ?_) (fun hb21 => ?_)
      · refine x_iconst (v := 1) cx dX4_clockItem_30 (by decide) ?_
        refine x_goto (tgt := 35) cx dX4_clockItem_31 (by decide) ?_
        refine x_istore_n (ls' := [_, _, _, _]) cx dX4_clockItem_35 rfl (by decide) rfl ?_
        refine x_aload_n cx dX4_clockItem_36 rfl rfl ?_
        refine x_iload_n cx dX4_clockItem_37 rfl rfl ?_
        refine x_iload_n cx dX4_clockItem_38 rfl rfl ?_
        refine x_Vi (C := RX0) (T := TX0) (N := 6) (rest := []) cx (c_X0_tick l G _ i hi _ hW _ _) gV_X4_24 ndX0_tick rfl ⟨Nat.le_of_ble_eq_true rfl, Nat.le_of_ble_eq_true rfl⟩ (zok_c hi (by decide)) (zix_c hi (by decide)) (pcO hi) rfl rfl rfl (Nat.le_of_ble_eq_true rfl) dX4_clockItem_39 ⟨Nat.le_of_ble_eq_true rfl, Nat.le_of_ble_eq_true rfl⟩ ?_
        refine x_pop cx dX4_clockItem_42 rfl ?_
        exact x_vret cx hr (by have h1 : zCm c = 1 := (by unfold zCm; rw [if_neg hb3, if_pos hb9]); have h2 : zCi c = 1 := (by unfold zCi; rw [if_pos hb21]); intro _ _ _ _; rw [h1, h2]) dX4_clockItem_43
      · refine x_iload_n cx dX4_clockItem_24 rfl rfl ?_
        refine x_bipush (v := 98) cx dX4_clockItem_25 (by decide) ?_
        refine x_icmp_ne (tgt := 34) cx dX4_clockItem_27 (by decide) (fun hb27 => ?_) (fun hb27 => ?_)
        · refine x_iconst (v := 0) cx dX4_clockItem_34 (by decide) ?_
          refine x_istore_n (ls' := [_, _, _, _]) cx dX4_clockItem_35 rfl (by decide) rfl ?_
          refine x_aload_n cx dX4_clockItem_36 rfl rfl ?_
          refine x_iload_n cx dX4_clockItem_37 rfl rfl ?_
          refine x_iload_n cx dX4_clockItem_38 rfl rfl ?_
          refine x_Vi (C := RX0) (T := TX0) (N := 6) (rest := []) cx (c_X0_tick l G _ i hi _ hW _ _) gV_X4_24 ndX0_tick rfl ⟨Nat.le_of_ble_eq_true rfl, Nat.le_of_ble_eq_true rfl⟩ (zok_c hi (by decide)) (zix_c hi (by decide)) (pcO hi) rfl rfl rfl (Nat.le_of_ble_eq_true rfl) dX4_clockItem_39 ⟨Nat.le_of_ble_eq_true rfl, Nat.le_of_ble_eq_true rfl⟩ ?_
          refine x_pop cx dX4_clockItem_42 rfl ?_
          exact x_vret cx hr (by have h1 : zCm c = 1 := (by unfold zCm; rw [if_neg hb3, if_pos hb9]); have h2 : zCi c = 0 := (by unfold zCi; rw [if_neg hb21, if_neg hb27]); intro _ _ _ _; rw [h1, h2]) dX4_clockItem_43
        · refine x_iconst (v := 1) cx dX4_clockItem_30 (by decide) ?_
          refine x_goto (tgt := 35) cx dX4_clockItem_31 (by decide) ?_
          refine x_istore_n (ls' := [_, _, _, _]) cx dX4_clockItem_35 rfl (by decide) rfl ?_
          refine x_aload_n cx dX4_clockItem_36 rfl rfl ?_
          refine x_iload_n cx dX4_clockItem_37 rfl rfl ?_
          refine x_iload_n cx dX4_clockItem_38 rfl rfl ?_
          refine x_Vi (C := RX0) (T := TX0) (N := 6) (rest := []) cx (c_X0_tick l G _ i hi _ hW _ _) gV_X4_24 ndX0_tick rfl ⟨Nat.le_of_ble_eq_true rfl, Nat.le_of_ble_eq_true rfl⟩ (zok_c hi (by decide)) (zix_c hi (by decide)) (pcO hi) rfl rfl rfl (Nat.le_of_ble_eq_true rfl) dX4_clockItem_39 ⟨Nat.le_of_ble_eq_true rfl, Nat.le_of_ble_eq_true rfl⟩ ?_
          refine x_pop cx dX4_clockItem_42 rfl ?_
          exact x_vret cx hr (by have h1 : zCm c = 1 := (by unfold zCm; rw [if_neg hb3, if_pos hb9]); have h2 : zCi c = 1 := (by unfold zCi; rw [if_neg hb21, if_pos hb27]); intro _ _ _ _; rw [h1, h2]) dX4_clockItem_43

set_option maxHeartbeats 4000000 in
set_option maxRecDepth 100000 in
theorem c_X4_carryOut (l : Launch) (G : zG) (S : zS) (i : Nat) (hi : i < 7) (X : zCV) (hW : zWF X) (L : Nat) (hL : S 7 0 2 = nI L) (h80 : L ≤ 80) (hF : zFault (S 7 2) L = -4) : Met l yX4_carryOut (zws yX4_carryOut cX4_carryOut 7 (some .int)) (zrm 7 0 0 155) (zPc G 75 (pic G (up S i X)) [.ref (zad G i 0), .ref (zad G 7 3)]) (zQi G 75 (zRunO (S 7 2) L L 0 0 0 X) (pic G (up S i (zRunX (S 7 2) L L 0 X)))) 0 0 (zA G) := by
  refine zMet npX4_carryOut rfl (Nat.le_of_ble_eq_true rfl) ?_
  intro p e s m args below meth cd hargs cx hr hin0
  have cx : Cx p s m args meth cd cX4_carryOut 7 RX4 G := cx
  refine x_ls (ls' := [some (.ref (zad G i 0)), some (.ref (zad G 7 3)), none, none, none, none, none]) rfl (fun _ h => h) ?_
  refine x_iconst (v := 0) cx dX4_carryOut_0 (by decide) ?_
  refine x_istore_n (ls' := [_, _, _, _, _, _, _]) cx dX4_carryOut_1 rfl (by decide) rfl ?_
  refine x_iconst (v := 0) cx dX4_carryOut_2 (by decide) ?_
  refine x_istore_n (ls' := [_, _, _, _, _, _, _]) cx dX4_carryOut_3 rfl (by decide) rfl ?_
  refine x_iconst (v := 0) cx dX4_carryOut_4 (by decide) ?_
  refine x_istore (ls' := [_, _, _, _, _, _, _]) cx dX4_carryOut_5 (by decide) rfl ?_
  suffices K : ∀ (f k : Nat) (o : Int32) (q : Nat) (Y : zCV), L ≤ k + f → k ≤ L → q ≤ 30 → zWF Y → zFltL (S 7 2) (L - k) k 0 = -4 → zRunO (S 7 2) L f k o q Y = zRunO (S 7 2) L L 0 0 0 X → zRunX (S 7 2) L f k Y = zRunX (S 7 2) L L 0 X → Xh p l e _ s m args below meth cd 7 G _ 0 0 75 (pic G (up S i Y)) 7 [some (.ref (zad G i 0)), some (.ref (zad G 7 3)), some (.int o), some (.int (nI q)), some (.int (nI k)), none, none] [] from K L 0 0 0 X (by omega) (by omega) (by decide) hW hF rfl rfl
  intro f
  induction f with
  | zero =>
    intro k o q Y hf hk hq hY hflt ho hx
    refine x_iload cx dX4_carryOut_7 rfl ?_
    refine x_aload_n cx dX4_carryOut_9 rfl rfl ?_
    refine x_getX5 cx 1 (by decide) (fl_X4_71 cx) (zok_7 (by decide)) (by decide) (p_script' hi) rfl dX4_carryOut_10 ?_
    refine x_eqi hL ?_
    refine x_icmp_ge_t (tgt := 95) cx dX4_carryOut_13 (by decide) (nI_le (by omega) (by omega)) ?_
    refine x_iload_n cx dX4_carryOut_95 rfl rfl ?_
    exact x_iret cx hr ho (by intro _ _ _ _; rw [← hx]; rfl) dX4_carryOut_96
  | succ f ih =>
    intro k o q Y hf hk hq hY hflt ho hx
    by_cases hkl : k < L
    · obtain ⟨g, hg⟩ : ∃ g, L - k = g + 1 := ⟨L - k - 1, by omega⟩
      rw [hg] at hflt
      rw [zRunO] at ho
      rw [zRunX] at hx
      rw [if_pos hkl] at ho hx
      refine x_iload cx dX4_carryOut_7 rfl ?_
      refine x_aload_n cx dX4_carryOut_9 rfl rfl ?_
      refine x_getX5 cx 1 (by decide) (fl_X4_71 cx) (zok_7 (by decide)) (by decide) (p_script' hi) rfl dX4_carryOut_10 ?_
      refine x_eqi hL ?_
      refine x_icmp_ge_f (tgt := 95) cx dX4_carryOut_13 (by decide) (nI_ge hkl (by omega)) ?_
      refine x_aload_n cx dX4_carryOut_16 rfl rfl ?_
      refine x_getX5 cx 0 (by decide) (fl_X4_76 cx) (zok_7 (by decide)) (by decide) (p_script' hi) rfl dX4_carryOut_17 ?_
      refine x_iload cx dX4_carryOut_20 rfl ?_
      refine x_cald (t := k) cx (zok_7 (by decide)) (by decide) (p_chars' hi) rfl (by omega) (by decide) (tr_lt (by omega)) dX4_carryOut_22 ?_
      refine x_istore (ls' := [_, _, _, _, _, _, _]) cx dX4_carryOut_23 (by decide) rfl ?_
      refine x_iload cx dX4_carryOut_25 rfl ?_
      refine x_bipush (v := 63) cx dX4_carryOut_27 (by decide) ?_
      refine x_icmp_ne (tgt := 59) cx dX4_carryOut_29 (by decide) (fun hb29 => ?_) (fun hb29 => ?_)
      · refine x_iload cx dX4_carryOut_59 rfl ?_
        refine x_bipush (v := 64) cx dX4_carryOut_61 (by decide) ?_
        refine x_icmp_ne (tgt := 83) cx dX4_carryOut_63 (by decide) (fun hb63 => ?_) (fun hb63 => ?_)
        · refine x_aload_n cx dX4_carryOut_83 rfl rfl ?_
          refine x_iload cx dX4_carryOut_84 rfl ?_
          refine x_Sv (rest := []) cx (c_X4_clockItem l G _ i hi _ hY _) gS_X4_83 ndX4_clockItem ⟨Nat.le_of_ble_eq_true rfl, Nat.le_of_ble_eq_true rfl⟩ rfl rfl (Nat.le_of_ble_eq_true rfl) dX4_carryOut_86 ⟨Nat.le_of_ble_eq_true rfl, Nat.le_of_ble_eq_true rfl⟩ ?_
          refine x_iinc (v := nI (k + 1)) (ls' := [_, _, _, _, _, _, _]) cx dX4_carryOut_89 rfl (nI_inc _) (by decide) rfl ?_
          refine x_goto (tgt := 7) cx dX4_carryOut_92 (by decide) ?_
          rw [if_neg hb29, if_neg hb63] at ho hx
          have hfl2 := flt_ot (by omega) hflt hb63
          have hg2 : L - (k + 1) = g := by omega
          exact x_ls rfl (by simp [lo]) (ih (k + 1) _ q _ (by omega) (by omega) hq (zTick_WF hY) (by rw [hg2]; exact hfl2) ho hx)
        · obtain ⟨g2, hg2, hhx, hfl2⟩ := flt_at (by omega) hflt hb63
          have hxx := zHex_in hhx
          refine x_iinc (v := nI (k + 1)) (ls' := [_, _, _, _, _, _, _]) cx dX4_carryOut_66 rfl (nI_inc _) (by decide) rfl ?_
          refine x_aload_n cx dX4_carryOut_69 rfl rfl ?_
          refine x_aload_n cx dX4_carryOut_70 rfl rfl ?_
          refine x_iload cx dX4_carryOut_71 rfl ?_
          refine x_Vi (C := RX5) (T := TX5) (N := 2) (rest := [_]) cx (c_X5_hexAt l G _ i hi Y L (k + 1) hL h80 (by omega)) gV_X4_80 ndX5_hexAt rfl ⟨Nat.le_of_ble_eq_true rfl, Nat.le_of_ble_eq_true rfl⟩ (zok_7 (by decide)) (by decide) (p_script' hi) rfl rfl rfl (Nat.le_of_ble_eq_true rfl) dX4_carryOut_73 ⟨Nat.le_of_ble_eq_true rfl, Nat.le_of_ble_eq_true rfl⟩ ?_
          refine x_eqi hxx.1 ?_
          refine x_Si (rest := []) cx (c_X4_goTo l G _ i hi _ hY (hexN (S 7 2 (k + 1))) hxx.2) gS_X4_29 ndX4_goTo ⟨Nat.le_of_ble_eq_true rfl, Nat.le_of_ble_eq_true rfl⟩ rfl rfl (Nat.le_of_ble_eq_true rfl) dX4_carryOut_76 ⟨Nat.le_of_ble_eq_true rfl, Nat.le_of_ble_eq_true rfl⟩ ?_
          refine x_pop cx dX4_carryOut_79 rfl ?_
          refine x_goto (tgt := 89) cx dX4_carryOut_80 (by decide) ?_
          refine x_iinc (v := nI ((k + 1) + 1)) (ls' := [_, _, _, _, _, _, _]) cx dX4_carryOut_89 rfl (nI_inc _) (by decide) rfl ?_
          refine x_goto (tgt := 7) cx dX4_carryOut_92 (by decide) ?_
          rw [if_neg hb29, if_pos hb63] at ho hx
          exact x_ls rfl (by simp [lo]) (ih (k + 2) _ q _ (by omega) (by omega) hq (zGo_WF hY) (by rw [show L - (k + 2) = g2 by omega]; exact hfl2) ho hx)
      · refine x_aload_n cx dX4_carryOut_32 rfl rfl ?_
        refine x_iconst (v := 0) cx dX4_carryOut_33 (by decide) ?_
        refine x_iconst (v := 1) cx dX4_carryOut_34 (by decide) ?_
        refine x_Vi (C := RX0) (T := TX0) (N := 6) (rest := []) cx (c_X0_tick l G _ i hi _ hY _ _) gV_X4_24 ndX0_tick rfl ⟨Nat.le_of_ble_eq_true rfl, Nat.le_of_ble_eq_true rfl⟩ (zok_c hi (by decide)) (zix_c hi (by decide)) (pcO hi) rfl rfl rfl (Nat.le_of_ble_eq_true rfl) dX4_carryOut_35 ⟨Nat.le_of_ble_eq_true rfl, Nat.le_of_ble_eq_true rfl⟩ ?_
        refine x_istore (ls' := [_, _, _, _, _, _, _]) cx dX4_carryOut_38 (by decide) rfl ?_
        refine x_iload_n cx dX4_carryOut_40 rfl rfl ?_
        refine x_bipush (v := 30) cx dX4_carryOut_41 (by decide) ?_
        refine x_icmp_ge (tgt := 56) cx dX4_carryOut_43 (by decide) (fun hb43 => ?_) (fun hb43 => ?_)
        · refine x_goto (tgt := 89) cx dX4_carryOut_56 (by decide) ?_
          refine x_iinc (v := nI (k + 1)) (ls' := [_, _, _, _, _, _, _]) cx dX4_carryOut_89 rfl (nI_inc _) (by decide) rfl ?_
          refine x_goto (tgt := 7) cx dX4_carryOut_92 (by decide) ?_
          rw [if_pos hb29] at ho hx
          rw [if_neg (fun z => absurd hb43 (nI_ge (b := 30) z (by decide)))] at ho
          have hq2 := hq
          have hfl2 := flt_ot (by omega) hflt (by rw [hb29]; decide)
          have hg2 : L - (k + 1) = g := by omega
          exact x_ls rfl (by simp [lo]) (ih (k + 1) _ q _ (by omega) (by omega) (by omega) (zTick_WF hY) (by rw [hg2]; exact hfl2) ho hx)
        · refine x_iload_n cx dX4_carryOut_46 rfl rfl ?_
          refine x_iload cx dX4_carryOut_47 rfl ?_
          refine x_iload_n cx dX4_carryOut_49 rfl rfl ?_
          refine x_ishl cx dX4_carryOut_50 ?_
          refine x_ior cx dX4_carryOut_51 ?_
          refine x_istore_n (ls' := [_, _, _, _, _, _, _]) cx dX4_carryOut_52 rfl (by decide) rfl ?_
          refine x_iinc (v := nI (q + 1)) (ls' := [_, _, _, _, _, _, _]) cx dX4_carryOut_53 rfl (nI_inc _) (by decide) rfl ?_
          refine x_goto (tgt := 89) cx dX4_carryOut_56 (by decide) ?_
          refine x_iinc (v := nI (k + 1)) (ls' := [_, _, _, _, _, _, _]) cx dX4_carryOut_89 rfl (nI_inc _) (by decide) rfl ?_
          refine x_goto (tgt := 7) cx dX4_carryOut_92 (by decide) ?_
          rw [if_pos hb29] at ho hx
          rw [if_pos ((nI_ltI (b := 30) (by omega) (by decide)).mp (Int32.not_le.mp hb43))] at ho
          have hq2 : q < 30 := (nI_ltI (b := 30) (by omega) (by decide)).mp (Int32.not_le.mp hb43)
          have hfl2 := flt_ot (by omega) hflt (by rw [hb29]; decide)
          have hg2 : L - (k + 1) = g := by omega
          exact x_ls rfl (by simp [lo]) (ih (k + 1) _ (q + 1) _ (by omega) (by omega) (by omega) (zTick_WF hY) (by rw [hg2]; exact hfl2) ho hx)
    · refine x_iload cx dX4_carryOut_7 rfl ?_
      refine x_aload_n cx dX4_carryOut_9 rfl rfl ?_
      refine x_getX5 cx 1 (by decide) (fl_X4_71 cx) (zok_7 (by decide)) (by decide) (p_script' hi) rfl dX4_carryOut_10 ?_
      refine x_eqi hL ?_
      refine x_icmp_ge_t (tgt := 95) cx dX4_carryOut_13 (by decide) (nI_le (by omega) (by omega)) ?_
      refine x_iload_n cx dX4_carryOut_95 rfl rfl ?_
      exact x_iret cx hr (by rw [← ho, zRunO_end hkl]) (by intro _ _ _ _; rw [← hx, zRunX_end hkl]) dX4_carryOut_96
end
section
/-! ===== the face: errors and answers, of a chain's value ===== -/
theorem h07 : 0 < 7 := by decide
theorem h17 : 1 < 7 := by decide
theorem h27 : 2 < 7 := by decide
def kWF (S : zS) : Prop := zWF (S 0) ∧ hWF S ∧ (∀ k, k < hsz S → zWF (S (rc S k))) ∧ (∃ L, S 7 0 2 = nI L ∧ L ≤ 80) ∧ (S 7 0 1 = 0 ∨ S 7 0 1 = 1) ∧ (S 7 0 1 = 1 → zWF (S 2))
abbrev tn (q : Int32) : Nat := q.toNatClampNeg
def eHas (X : zCV) (q : Int32) : Int32 := if zHas X q = 0 then -1 else 0
def eArg (X : zCV) (q v m : Int32) : Int32 := if zHas X q = 0 then -1 else if zin v 0 m = 0 then -2 else 0
def eAdd (X : zCV) (cl id ce : Int32) : Int32 := if zin cl 2 6 = 0 then -2 else if zisId id = 0 then -2 else if zin ce 1 8 = 0 then -2 else if X 0 0 < 6 then 0 else -3
def eClk (md x : Int32) : Int32 := if zin md 0 1 = 0 then -2 else if zin x 0 1 = 0 then -2 else 0
def eMov (b : Int32) : Int32 := if zis b = 0 then -2 else 0
def eApp (L : Nat) (c : Int32) : Int32 := if zin c 32 126 = 0 then -2 else if nI L < 80 then 0 else -3
def eRun (T : Nat → Int32) (L : Nat) : Int32 := if zFault T L = -4 then 0 else -100 - zFault T L
def zPinsX (X : zCV) (t : Nat) (v : Int32) : zCV := uj X (t + 3) (zPins (X (t + 3)) v)
def zBrkX (X : zCV) (t : Nat) (v : Int32) : zCV := uj X (t + 3) (upd (X (t + 3)) 5 v)
def zTellX (X : zCV) (q v : Int32) : Int32 := if zHas X q = 0 then -1 else zTell (X (tn q + 3)) v
def zFound (X : zCV) (q : Int32) : Int32 := if q < 0 then -2 else if q < X 0 3 then X 2 (tn q) else -4
def zDist (a b : Int32) : Int32 := if zis a = 0 then -2 else if zis b = 0 then -2 else nI (dst (tn a) (tn b))
def zPeek (X : zCV) (x : Int32) : Int32 := if zin x 0 1 = 0 then -2 else zOut X x
/-- the counts, of a chain's value, the history's length and the text's -/
def zCount (X : zCV) (hl tl : Int32) (x : Int32) : Int32 := if x = 0 then X 0 0 else if x = 1 then zSum zBrk X else if x = 2 then X 0 1 else if x = 3 then X 0 2 else if x = 4 then zSum (fun c => c 0) X else if x = 5 then zSum zBits X else if x = 6 then X 0 3 else if x = 7 then hl else if x = 8 then tl else -2
def zFB (X : zCV) : UInt32 := if num X = 0 then FP.fconst0 else FP.fdiv (FP.i2f (zSum zByp X)) (FP.i2f (X 0 0))
theorem has_ix {X : zCV} {q : Int32} (hW : zWF X) (h : ¬ zHas X q = 0) : ∃ t, t < num X ∧ q = nI t := by
  have h6 := hW.n6
  unfold zHas at h
  by_cases h1 : q < 0
  · rw [if_pos h1] at h; exact absurd rfl h
  · rw [if_neg h1] at h
    by_cases h2 : X 0 0 ≤ q
    · rw [if_pos h2] at h; exact absurd rfl h
    · obtain ⟨j, hj, rfl⟩ := nI_of h1
      rw [hW.sz] at h2
      exact ⟨j, Nat.not_le.mp fun z => h2 (nI_le z hj), rfl⟩
theorem is_ix {b : Int32} (h : ¬ zis b = 0) : ∃ t, t < 16 ∧ b = nI t := by
  unfold zis at h
  by_cases h1 : b < 0
  · rw [if_pos h1] at h; exact absurd rfl h
  · rw [if_neg h1] at h
    by_cases h2 : 16 ≤ b
    · rw [if_pos h2] at h; exact absurd rfl h
    · obtain ⟨j, hj, rfl⟩ := nI_of h1
      exact ⟨j, Nat.not_le.mp fun z => h2 (nI_le (a := 16) z hj), rfl⟩
theorem ix_lt {q : Int32} {n : Nat} (h0 : ¬ q < 0) (h : q < nI n) (hn : n < 2 ^ 31) : ∃ t, t < n ∧ q = nI t := by
  obtain ⟨j, hj, rfl⟩ := nI_of h0
  exact ⟨j, (nI_ltI hj hn).mp h, rfl⟩
theorem zRec1_0 {S : zS} (h : 3 ≤ rc S (hsz S)) : zRec1 S 0 = S 0 := by
  unfold zRec1
  rw [up_ne _ _ (by decide), up_ne _ _ (by omega)]
theorem zRec0_WF {S : zS} (hH : hWF S) : hWF (zRec0 S) ∧ hsz (zRec0 S) < 4 := by
  unfold zRec0
  split
  · exact ⟨hH, by assumption⟩
  · exact ⟨(hWF_drop hH).1, by rw [(hWF_drop hH).2]; decide⟩
theorem zRec0_ne {S : zS} {i : Nat} (h : i ≠ 7) : zRec0 S i = S i := by
  unfold zRec0
  split
  · rfl
  · exact zDrop_ne h
theorem zRec_0 {S : zS} (hH : hWF S) : zRec S 0 = S 0 := by
  obtain ⟨h1, h2⟩ := zRec0_WF hH
  unfold zRec
  rw [zRec1_0 (h1.2.1 _ h2).2.1, zRec0_ne (by decide)]
theorem zRec_low {S : zS} (hH : hWF S) {i : Nat} (h : i < 3) : zRec S i = S i := by
  obtain ⟨h1, h2⟩ := zRec0_WF hH
  have h3 := (h1.2.1 _ h2).2.1
  unfold zRec zRec1
  rw [up_ne _ _ (by omega), up_ne _ _ (by omega), zRec0_ne (by omega)]
theorem zRec_7 {S : zS} (q : Nat) (hq : q = 2 ∨ q = 0) (k : Nat) (hk : q = 0 → k ≠ 0) : zRec S 7 q k = S 7 q k := by
  unfold zRec zRec1 zRec0
  rw [up_same]
  split
  · rcases hq with rfl | rfl
    · rw [uj_ne _ _ (by decide)]
    · rw [uj_same, upd_ne _ _ (hk rfl)]
  · unfold zDrop
    rw [up_same]
    rcases hq with rfl | rfl
    · rw [uj_ne _ _ (by decide), uj_ne _ _ (by decide), uj_ne _ _ (by decide)]
    · rw [uj_same, upd_ne _ _ (hk rfl), uj_same, upd_ne _ _ (hk rfl)]
theorem zByp_le (X : zCV) : ∀ k, ∃ m, m ≤ k ∧ zSumL zByp X k = nI m
  | 0 => ⟨0, Nat.le_refl _, rfl⟩
  | k + 1 => by
    obtain ⟨m, hm, e⟩ := zByp_le X k
    show ∃ m', m' ≤ k + 1 ∧ zSumL zByp X k + zByp (X (k + 3)) = nI m'
    rw [e]
    unfold zByp
    split
    · exact ⟨m, by omega, by rw [Int32.add_zero]⟩
    · exact ⟨m + 1, by omega, nI_1 m⟩
set_option maxRecDepth 100000 in
theorem fdiv_ok : ∀ m, m < 7 → ∀ n, n < 7 → 0 < n → FP.fdiv (FP.i2f (nI m)) (FP.i2f (nI n)) &&& 0x7fffffff ≤ 0x7f800000 := by decide +kernel
theorem zFB_ok {X : zCV} (hW : zWF X) (h : ¬ num X = 0) : vf_n32 (FP.fdiv (FP.i2f (zSum zByp X)) (FP.i2f (X 0 0))) := by
  have h6 := hW.n6
  obtain ⟨m, hm, e⟩ := zByp_le X (num X)
  unfold zSum
  rw [e, hW.sz]
  exact fdiv_ok m (by omega) _ (by omega) (by omega)
theorem zCopy_0 (Y X : zCV) : zCopy Y X 0 = X 0 := if_pos rfl
theorem num_copy (Y X : zCV) : num (zCopy Y X) = num X := by unfold num; rw [zCopy_0]
theorem zCopy_WF {Y X : zCV} (h : zWF X) : zWF (zCopy Y X) := by
  obtain ⟨h1, h2, h3, h4⟩ := h
  refine ⟨?_, ?_, ?_, fun t ht => ?_⟩
  · unfold num at h1 ⊢; rw [zCopy_0]; exact h1
  · unfold stt at h2 ⊢; rw [zCopy_0]; exact h2
  · unfold cnt at h3 ⊢; rw [zCopy_0]; exact h3
  · rw [num_copy] at ht
    have : zCopy Y X (t + 3) = X (t + 3) := by
      unfold zCopy
      rw [if_neg (by omega), if_neg (by omega), if_neg (by omega), Nat.add_sub_cancel, if_pos ht]
    rw [this]
    exact h4 t ht
theorem zBrkX_WF {X : zCV} {t : Nat} {v : Int32} (h : zWF X) (hv : v = 0 ∨ v = 1) : zWF (zBrkX X t v) := by
  have h0 : zBrkX X t v 0 = X 0 := uj_ne _ _ (by omega)
  obtain ⟨h1, h2, h3, h4⟩ := h
  refine ⟨?_, ?_, ?_, fun q hq => ?_⟩
  · unfold num at h1 ⊢; rw [h0]; exact h1
  · unfold stt at h2 ⊢; rw [h0]; exact h2
  · unfold cnt at h3 ⊢; rw [h0]; exact h3
  · have hq' : q < num X := by unfold num at hq ⊢; rw [h0] at hq; exact hq
    have hc := h4 q hq'
    unfold zBrkX
    by_cases hqt : q = t
    · subst hqt
      rw [uj_same]
      exact ⟨hc.1, hc.2.1, hv, hc.2.2.2⟩
    · rw [uj_ne _ _ (by omega)]
      exact hc
end
