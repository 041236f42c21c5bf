section
-- ===== PART A: goes FIRST, ahead of the names: the tables' words, and 'selects' of the private methods out of them =====
/-- a private method of a class that the tables say can be made, by its rows of tables_1 -/
def lw_okq (q : MethodName × Nat) : Prop := (q.1.cls ≠ "java/lang/invoke/MethodHandle" ∧ q.1.cls ≠ "java/lang/invoke/VarHandle") ∧ Cond.instantiable q.1.cls q.2 ∈ tables_1 ∧ Cond.privateMethod q.1 ∈ tables_1 ∧ Cond.instanceMethod q.1 ∈ tables_1
theorem lw_p0 : lw_okq (⟨"BlockSound$StreamWriter", "choose", "(I)V"⟩, 8) := ⟨⟨by decide +kernel, by decide +kernel⟩, List.mem_of_getElem? (i := 47) (by decide +kernel), List.mem_of_getElem? (i := 301) (by decide +kernel), List.mem_of_getElem? (i := 302) (by decide +kernel)⟩
theorem lw_p1 : lw_okq (⟨"BlockSound$StreamWriter", "findRests", "(II)V"⟩, 8) := ⟨⟨by decide +kernel, by decide +kernel⟩, List.mem_of_getElem? (i := 47) (by decide +kernel), List.mem_of_getElem? (i := 305) (by decide +kernel), List.mem_of_getElem? (i := 306) (by decide +kernel)⟩
theorem lw_p2 : lw_okq (⟨"BlockSound$StreamWriter", "zerosFor", "(I)I"⟩, 8) := ⟨⟨by decide +kernel, by decide +kernel⟩, List.mem_of_getElem? (i := 47) (by decide +kernel), List.mem_of_getElem? (i := 324) (by decide +kernel), List.mem_of_getElem? (i := 325) (by decide +kernel)⟩
theorem lw_p3 : lw_okq (⟨"BlockSound$StreamWriter", "bitsWith", "(III)I"⟩, 8) := ⟨⟨by decide +kernel, by decide +kernel⟩, List.mem_of_getElem? (i := 47) (by decide +kernel), List.mem_of_getElem? (i := 329) (by decide +kernel), List.mem_of_getElem? (i := 330) (by decide +kernel)⟩
theorem lw_p4 : lw_okq (⟨"BlockSound$StreamWriter", "putBlock", "(I)V"⟩, 8) := ⟨⟨by decide +kernel, by decide +kernel⟩, List.mem_of_getElem? (i := 47) (by decide +kernel), List.mem_of_getElem? (i := 336) (by decide +kernel), List.mem_of_getElem? (i := 337) (by decide +kernel)⟩
theorem lw_p5 : lw_okq (⟨"BlockSound$StreamReader", "parseHead", "()V"⟩, 5) := ⟨⟨by decide +kernel, by decide +kernel⟩, List.mem_of_getElem? (i := 129) (by decide +kernel), List.mem_of_getElem? (i := 396) (by decide +kernel), List.mem_of_getElem? (i := 397) (by decide +kernel)⟩
theorem lw_p6 : lw_okq (⟨"BlockSound$StreamReader", "nextByte", "(I)V"⟩, 5) := ⟨⟨by decide +kernel, by decide +kernel⟩, List.mem_of_getElem? (i := 129) (by decide +kernel), List.mem_of_getElem? (i := 400) (by decide +kernel), List.mem_of_getElem? (i := 401) (by decide +kernel)⟩
theorem lw_p7 : lw_okq (⟨"BlockSound$StreamReader", "isRight", "()Z"⟩, 5) := ⟨⟨by decide +kernel, by decide +kernel⟩, List.mem_of_getElem? (i := 129) (by decide +kernel), List.mem_of_getElem? (i := 404) (by decide +kernel), List.mem_of_getElem? (i := 405) (by decide +kernel)⟩
theorem lw_p8 : lw_okq (⟨"BlockSound$StreamReader", "judge", "(IIII)V"⟩, 5) := ⟨⟨by decide +kernel, by decide +kernel⟩, List.mem_of_getElem? (i := 129) (by decide +kernel), List.mem_of_getElem? (i := 416) (by decide +kernel), List.mem_of_getElem? (i := 417) (by decide +kernel)⟩
theorem lw_p9 : lw_okq (⟨"BlockSound$StreamReader", "nextWithin", "(III)I"⟩, 5) := ⟨⟨by decide +kernel, by decide +kernel⟩, List.mem_of_getElem? (i := 129) (by decide +kernel), List.mem_of_getElem? (i := 420) (by decide +kernel), List.mem_of_getElem? (i := 421) (by decide +kernel)⟩
theorem lw_p10 : lw_okq (⟨"BlockSound$StreamReader", "parseBlock", "(I)V"⟩, 5) := ⟨⟨by decide +kernel, by decide +kernel⟩, List.mem_of_getElem? (i := 129) (by decide +kernel), List.mem_of_getElem? (i := 434) (by decide +kernel), List.mem_of_getElem? (i := 435) (by decide +kernel)⟩
theorem lw_p11 : lw_okq (⟨"BlockSound$StreamReader", "parseFilling", "()V"⟩, 5) := ⟨⟨by decide +kernel, by decide +kernel⟩, List.mem_of_getElem? (i := 129) (by decide +kernel), List.mem_of_getElem? (i := 452) (by decide +kernel), List.mem_of_getElem? (i := 453) (by decide +kernel)⟩
theorem lw_p12 : lw_okq (⟨"BlockSoundModel", "forgetMeans", "()V"⟩, 23) := ⟨⟨by decide +kernel, by decide +kernel⟩, List.mem_of_getElem? (i := 476) (by decide +kernel), List.mem_of_getElem? (i := 565) (by decide +kernel), List.mem_of_getElem? (i := 566) (by decide +kernel)⟩
theorem lw_p13 : lw_okq (⟨"BlockSoundModel", "putBit", "(I)V"⟩, 23) := ⟨⟨by decide +kernel, by decide +kernel⟩, List.mem_of_getElem? (i := 476) (by decide +kernel), List.mem_of_getElem? (i := 569) (by decide +kernel), List.mem_of_getElem? (i := 570) (by decide +kernel)⟩
theorem lw_p14 : lw_okq (⟨"BlockSoundModel", "putNumber", "(II)V"⟩, 23) := ⟨⟨by decide +kernel, by decide +kernel⟩, List.mem_of_getElem? (i := 476) (by decide +kernel), List.mem_of_getElem? (i := 573) (by decide +kernel), List.mem_of_getElem? (i := 574) (by decide +kernel)⟩
theorem lw_p15 : lw_okq (⟨"BlockSoundModel", "writeBlock", "(II)V"⟩, 23) := ⟨⟨by decide +kernel, by decide +kernel⟩, List.mem_of_getElem? (i := 476) (by decide +kernel), List.mem_of_getElem? (i := 577) (by decide +kernel), List.mem_of_getElem? (i := 578) (by decide +kernel)⟩
def lw_privs_1 : List (MethodName × Nat) := [(⟨"BlockSound$StreamWriter", "choose", "(I)V"⟩, 8), (⟨"BlockSound$StreamWriter", "findRests", "(II)V"⟩, 8), (⟨"BlockSound$StreamWriter", "zerosFor", "(I)I"⟩, 8), (⟨"BlockSound$StreamWriter", "bitsWith", "(III)I"⟩, 8), (⟨"BlockSound$StreamWriter", "putBlock", "(I)V"⟩, 8), (⟨"BlockSound$StreamReader", "parseHead", "()V"⟩, 5), (⟨"BlockSound$StreamReader", "nextByte", "(I)V"⟩, 5), (⟨"BlockSound$StreamReader", "isRight", "()Z"⟩, 5), (⟨"BlockSound$StreamReader", "judge", "(IIII)V"⟩, 5), (⟨"BlockSound$StreamReader", "nextWithin", "(III)I"⟩, 5), (⟨"BlockSound$StreamReader", "parseBlock", "(I)V"⟩, 5), (⟨"BlockSound$StreamReader", "parseFilling", "()V"⟩, 5), (⟨"BlockSoundModel", "forgetMeans", "()V"⟩, 23), (⟨"BlockSoundModel", "putBit", "(I)V"⟩, 23), (⟨"BlockSoundModel", "putNumber", "(II)V"⟩, 23), (⟨"BlockSoundModel", "writeBlock", "(II)V"⟩, 23)]
theorem lw_r1 : ∀ q ∈ lw_privs_1, lw_okq q := List.forall_mem_cons.mpr ⟨lw_p0, List.forall_mem_cons.mpr ⟨lw_p1, List.forall_mem_cons.mpr ⟨lw_p2, List.forall_mem_cons.mpr ⟨lw_p3, List.forall_mem_cons.mpr ⟨lw_p4, List.forall_mem_cons.mpr ⟨lw_p5, List.forall_mem_cons.mpr ⟨lw_p6, List.forall_mem_cons.mpr ⟨lw_p7, List.forall_mem_cons.mpr ⟨lw_p8, List.forall_mem_cons.mpr ⟨lw_p9, List.forall_mem_cons.mpr ⟨lw_p10, List.forall_mem_cons.mpr ⟨lw_p11, List.forall_mem_cons.mpr ⟨lw_p12, List.forall_mem_cons.mpr ⟨lw_p13, List.forall_mem_cons.mpr ⟨lw_p14, List.forall_mem_cons.mpr ⟨lw_p15, fun _ h => absurd h List.not_mem_nil⟩⟩⟩⟩⟩⟩⟩⟩⟩⟩⟩⟩⟩⟩⟩⟩
theorem lw_p16 : lw_okq (⟨"BlockSoundModel", "meanOf", "(I)I"⟩, 23) := ⟨⟨by decide +kernel, by decide +kernel⟩, List.mem_of_getElem? (i := 476) (by decide +kernel), List.mem_of_getElem? (i := 581) (by decide +kernel), List.mem_of_getElem? (i := 582) (by decide +kernel)⟩
theorem lw_p17 : lw_okq (⟨"BlockSoundModel", "isMean", "(III)Z"⟩, 23) := ⟨⟨by decide +kernel, by decide +kernel⟩, List.mem_of_getElem? (i := 476) (by decide +kernel), List.mem_of_getElem? (i := 588) (by decide +kernel), List.mem_of_getElem? (i := 589) (by decide +kernel)⟩
theorem lw_p18 : lw_okq (⟨"BlockSoundModel", "sizeOf", "(I)I"⟩, 23) := ⟨⟨by decide +kernel, by decide +kernel⟩, List.mem_of_getElem? (i := 476) (by decide +kernel), List.mem_of_getElem? (i := 592) (by decide +kernel), List.mem_of_getElem? (i := 593) (by decide +kernel)⟩
theorem lw_p19 : lw_okq (⟨"BlockSoundModel", "firstOf", "(II)I"⟩, 23) := ⟨⟨by decide +kernel, by decide +kernel⟩, List.mem_of_getElem? (i := 476) (by decide +kernel), List.mem_of_getElem? (i := 596) (by decide +kernel), List.mem_of_getElem? (i := 597) (by decide +kernel)⟩
theorem lw_p20 : lw_okq (⟨"BlockSoundModel", "costOf", "(IIIII)I"⟩, 23) := ⟨⟨by decide +kernel, by decide +kernel⟩, List.mem_of_getElem? (i := 476) (by decide +kernel), List.mem_of_getElem? (i := 600) (by decide +kernel), List.mem_of_getElem? (i := 601) (by decide +kernel)⟩
theorem lw_p21 : lw_okq (⟨"BlockSoundModel", "noteMean", "(IJI)V"⟩, 23) := ⟨⟨by decide +kernel, by decide +kernel⟩, List.mem_of_getElem? (i := 476) (by decide +kernel), List.mem_of_getElem? (i := 616) (by decide +kernel), List.mem_of_getElem? (i := 617) (by decide +kernel)⟩
theorem lw_p22 : lw_okq (⟨"BlockSoundModel", "stream", "()I"⟩, 23) := ⟨⟨by decide +kernel, by decide +kernel⟩, List.mem_of_getElem? (i := 476) (by decide +kernel), List.mem_of_getElem? (i := 645) (by decide +kernel), List.mem_of_getElem? (i := 646) (by decide +kernel)⟩
theorem lw_p23 : lw_okq (⟨"BlockSoundModel", "hasByte", "(I)Z"⟩, 23) := ⟨⟨by decide +kernel, by decide +kernel⟩, List.mem_of_getElem? (i := 476) (by decide +kernel), List.mem_of_getElem? (i := 649) (by decide +kernel), List.mem_of_getElem? (i := 650) (by decide +kernel)⟩
theorem lw_p24 : lw_okq (⟨"BlockSoundModel", "nextBit", "()I"⟩, 23) := ⟨⟨by decide +kernel, by decide +kernel⟩, List.mem_of_getElem? (i := 476) (by decide +kernel), List.mem_of_getElem? (i := 653) (by decide +kernel), List.mem_of_getElem? (i := 654) (by decide +kernel)⟩
theorem lw_p25 : lw_okq (⟨"BlockSoundModel", "isGood", "(Z)Z"⟩, 23) := ⟨⟨by decide +kernel, by decide +kernel⟩, List.mem_of_getElem? (i := 476) (by decide +kernel), List.mem_of_getElem? (i := 657) (by decide +kernel), List.mem_of_getElem? (i := 658) (by decide +kernel)⟩
theorem lw_p26 : lw_okq (⟨"BlockSoundModel", "nextNumber", "(I)I"⟩, 23) := ⟨⟨by decide +kernel, by decide +kernel⟩, List.mem_of_getElem? (i := 476) (by decide +kernel), List.mem_of_getElem? (i := 661) (by decide +kernel), List.mem_of_getElem? (i := 662) (by decide +kernel)⟩
theorem lw_p27 : lw_okq (⟨"BlockSoundModel", "readBlock", "(IIII)Z"⟩, 23) := ⟨⟨by decide +kernel, by decide +kernel⟩, List.mem_of_getElem? (i := 476) (by decide +kernel), List.mem_of_getElem? (i := 665) (by decide +kernel), List.mem_of_getElem? (i := 666) (by decide +kernel)⟩
def lw_privs_2 : List (MethodName × Nat) := [(⟨"BlockSoundModel", "meanOf", "(I)I"⟩, 23), (⟨"BlockSoundModel", "isMean", "(III)Z"⟩, 23), (⟨"BlockSoundModel", "sizeOf", "(I)I"⟩, 23), (⟨"BlockSoundModel", "firstOf", "(II)I"⟩, 23), (⟨"BlockSoundModel", "costOf", "(IIIII)I"⟩, 23), (⟨"BlockSoundModel", "noteMean", "(IJI)V"⟩, 23), (⟨"BlockSoundModel", "stream", "()I"⟩, 23), (⟨"BlockSoundModel", "hasByte", "(I)Z"⟩, 23), (⟨"BlockSoundModel", "nextBit", "()I"⟩, 23), (⟨"BlockSoundModel", "isGood", "(Z)Z"⟩, 23), (⟨"BlockSoundModel", "nextNumber", "(I)I"⟩, 23), (⟨"BlockSoundModel", "readBlock", "(IIII)Z"⟩, 23)]
theorem lw_r2 : ∀ q ∈ lw_privs_2, lw_okq q := List.forall_mem_cons.mpr ⟨lw_p16, List.forall_mem_cons.mpr ⟨lw_p17, List.forall_mem_cons.mpr ⟨lw_p18, List.forall_mem_cons.mpr ⟨lw_p19, List.forall_mem_cons.mpr ⟨lw_p20, List.forall_mem_cons.mpr ⟨lw_p21, List.forall_mem_cons.mpr ⟨lw_p22, List.forall_mem_cons.mpr ⟨lw_p23, List.forall_mem_cons.mpr ⟨lw_p24, List.forall_mem_cons.mpr ⟨lw_p25, List.forall_mem_cons.mpr ⟨lw_p26, List.forall_mem_cons.mpr ⟨lw_p27, fun _ h => absurd h List.not_mem_nil⟩⟩⟩⟩⟩⟩⟩⟩⟩⟩⟩⟩
def lw_privs : List (MethodName × Nat) := lw_privs_1 ++ (lw_privs_2)
def lw_tbl : List Cond := k2_sels lw_privs ++ tables_1
theorem lw_privs_ok : ∀ q ∈ lw_privs, lw_okq q := by
  show ∀ q ∈ lw_privs_1 ++ (lw_privs_2), lw_okq q
  exact List.forall_mem_append.mpr ⟨lw_r1, lw_r2⟩
end
section
def RX0 : String := "BlockSound$BitReader"
def TX0 : u_T := fun k => match k with
  | 0 => ("BlockSound$BitReader", "bytes", "LBlockSound$ByteRow;", true)
  | 1 => ("BlockSound$BitReader", "position", "I", false)
  | _ => ("BlockSound$BitReader", "end", "I", false)
def tyX0 : Nat → FieldType := fun k => match k with
  | 0 => .object "BlockSound$ByteRow"
  | 1 => .int
  | _ => .int
theorem nmX0 : ∀ a, a < 3 → ∀ b, b < 3 → a ≠ b → (TX0 a).2.1 ≠ (TX0 b).2.1 := by decide +kernel
theorem tyX0_ok : ∀ k, k < 3 → parseFieldDescriptor (TX0 k).2.2.1 = some (tyX0 k) := by decide +kernel
abbrev cX0_init : ByteArray := prog_2_method_1_code
def yX0_init : MethodName := ⟨RX0, "<init>", "()V"⟩
abbrev cX0_restart : ByteArray := prog_2_method_2_code
def yX0_restart : MethodName := ⟨RX0, "restart", "()V"⟩
abbrev cX0_bitHere : ByteArray := prog_2_method_3_code
def yX0_bitHere : MethodName := ⟨RX0, "bitHere", "()I"⟩
abbrev cX0_nextLowBits : ByteArray := prog_2_method_4_code
def yX0_nextLowBits : MethodName := ⟨RX0, "nextLowBits", "(I)I"⟩
abbrev cX0_nextNumber : ByteArray := prog_2_method_5_code
def yX0_nextNumber : MethodName := ⟨RX0, "nextNumber", "(I)I"⟩
def RX1 : String := "BlockSound$BitWriter"
def TX1 : u_T := fun k => match k with
  | 0 => ("BlockSound$BitWriter", "bytes", "LBlockSound$ByteRow;", true)
  | 1 => ("BlockSound$BitWriter", "pending", "I", false)
  | _ => ("BlockSound$BitWriter", "pendingBits", "I", false)
def tyX1 : Nat → FieldType := fun k => match k with
  | 0 => .object "BlockSound$ByteRow"
  | 1 => .int
  | _ => .int
theorem nmX1 : ∀ a, a < 3 → ∀ b, b < 3 → a ≠ b → (TX1 a).2.1 ≠ (TX1 b).2.1 := by decide +kernel
theorem tyX1_ok : ∀ k, k < 3 → parseFieldDescriptor (TX1 k).2.2.1 = some (tyX1 k) := by decide +kernel
abbrev cX1_init : ByteArray := prog_3_method_1_code
def yX1_init : MethodName := ⟨RX1, "<init>", "()V"⟩
abbrev cX1_restart : ByteArray := prog_3_method_2_code
def yX1_restart : MethodName := ⟨RX1, "restart", "()V"⟩
abbrev cX1_putBit : ByteArray := prog_3_method_3_code
def yX1_putBit : MethodName := ⟨RX1, "putBit", "(I)V"⟩
abbrev cX1_putLowBits : ByteArray := prog_3_method_4_code
def yX1_putLowBits : MethodName := ⟨RX1, "putLowBits", "(II)V"⟩
abbrev cX1_putNumber : ByteArray := prog_3_method_5_code
def yX1_putNumber : MethodName := ⟨RX1, "putNumber", "(II)V"⟩
abbrev cX1_fillByte : ByteArray := prog_3_method_6_code
def yX1_fillByte : MethodName := ⟨RX1, "fillByte", "()V"⟩
def RX2 : String := "BlockSound$ByteRow"
def TX2 : u_T := fun k => match k with
  | 0 => ("BlockSound$ByteRow", "row", "[B", true)
  | _ => ("BlockSound$ByteRow", "size", "I", false)
def tyX2 : Nat → FieldType := fun k => match k with
  | 0 => .array .byte
  | _ => .int
theorem nmX2 : ∀ a, a < 2 → ∀ b, b < 2 → a ≠ b → (TX2 a).2.1 ≠ (TX2 b).2.1 := by decide +kernel
theorem tyX2_ok : ∀ k, k < 2 → parseFieldDescriptor (TX2 k).2.2.1 = some (tyX2 k) := by decide +kernel
abbrev cX2_init : ByteArray := prog_4_method_1_code
def yX2_init : MethodName := ⟨RX2, "<init>", "()V"⟩
abbrev cX2_clear : ByteArray := prog_4_method_2_code
def yX2_clear : MethodName := ⟨RX2, "clear", "()V"⟩
abbrev cX2_append : ByteArray := prog_4_method_3_code
def yX2_append : MethodName := ⟨RX2, "append", "(I)Z"⟩
abbrev cX2_byteAt : ByteArray := prog_4_method_4_code
def yX2_byteAt : MethodName := ⟨RX2, "byteAt", "(I)I"⟩
abbrev cX2_copy : ByteArray := prog_4_method_5_code
def yX2_copy : MethodName := ⟨RX2, "copy", "(LBlockSound$ByteRow;)V"⟩
def RX3 : String := "BlockSound$Means"
def TX3 : u_T := fun k => match k with
  | _ => ("BlockSound$Means", "ofBlocks", "[I", true)
def tyX3 : Nat → FieldType := fun k => match k with
  | _ => .array .int
theorem nmX3 : ∀ a, a < 1 → ∀ b, b < 1 → a ≠ b → (TX3 a).2.1 ≠ (TX3 b).2.1 := by decide +kernel
theorem tyX3_ok : ∀ k, k < 1 → parseFieldDescriptor (TX3 k).2.2.1 = some (tyX3 k) := by decide +kernel
abbrev cX3_init : ByteArray := prog_5_method_1_code
def yX3_init : MethodName := ⟨RX3, "<init>", "()V"⟩
abbrev cX3_ahead : ByteArray := prog_5_method_2_code
def yX3_ahead : MethodName := ⟨RX3, "ahead", "(II)I"⟩
abbrev cX3_settle : ByteArray := prog_5_method_3_code
def yX3_settle : MethodName := ⟨RX3, "settle", "(ILBlockSound$Sound;)V"⟩
def RX4 : String := "BlockSound$Sound"
def TX4 : u_T := fun k => match k with
  | 0 => ("BlockSound$Sound", "samples", "[I", true)
  | 1 => ("BlockSound$Sound", "channels", "I", false)
  | 2 => ("BlockSound$Sound", "blockLength", "I", false)
  | _ => ("BlockSound$Sound", "size", "I", false)
def tyX4 : Nat → FieldType := fun k => match k with
  | 0 => .array .int
  | 1 => .int
  | 2 => .int
  | _ => .int
theorem nmX4 : ∀ a, a < 4 → ∀ b, b < 4 → a ≠ b → (TX4 a).2.1 ≠ (TX4 b).2.1 := by decide +kernel
theorem tyX4_ok : ∀ k, k < 4 → parseFieldDescriptor (TX4 k).2.2.1 = some (tyX4 k) := by decide +kernel
abbrev cX4_init : ByteArray := prog_6_method_1_code
def yX4_init : MethodName := ⟨RX4, "<init>", "(II)V"⟩
abbrev cX4_restart : ByteArray := prog_6_method_2_code
def yX4_restart : MethodName := ⟨RX4, "restart", "(II)V"⟩
abbrev cX4_lay : ByteArray := prog_6_method_3_code
def yX4_lay : MethodName := ⟨RX4, "lay", "(III)V"⟩
abbrev cX4_append : ByteArray := prog_6_method_4_code
def yX4_append : MethodName := ⟨RX4, "append", "(I)Z"⟩
abbrev cX4_copyWhole : ByteArray := prog_6_method_5_code
def yX4_copyWhole : MethodName := ⟨RX4, "copyWhole", "(LBlockSound$Sound;)V"⟩
abbrev cX4_each : ByteArray := prog_6_method_6_code
def yX4_each : MethodName := ⟨RX4, "each", "()I"⟩
abbrev cX4_wholeSize : ByteArray := prog_6_method_7_code
def yX4_wholeSize : MethodName := ⟨RX4, "wholeSize", "()I"⟩
abbrev cX4_hasSameWhole : ByteArray := prog_6_method_8_code
def yX4_hasSameWhole : MethodName := ⟨RX4, "hasSameWhole", "(LBlockSound$Sound;)Z"⟩
abbrev cX4_blockCount : ByteArray := prog_6_method_9_code
def yX4_blockCount : MethodName := ⟨RX4, "blockCount", "()I"⟩
abbrev cX4_channelOf : ByteArray := prog_6_method_10_code
def yX4_channelOf : MethodName := ⟨RX4, "channelOf", "(I)I"⟩
abbrev cX4_samplesBefore : ByteArray := prog_6_method_11_code
def yX4_samplesBefore : MethodName := ⟨RX4, "samplesBefore", "(I)I"⟩
abbrev cX4_firstPlace : ByteArray := prog_6_method_12_code
def yX4_firstPlace : MethodName := ⟨RX4, "firstPlace", "(I)I"⟩
abbrev cX4_blockSize : ByteArray := prog_6_method_13_code
def yX4_blockSize : MethodName := ⟨RX4, "blockSize", "(I)I"⟩
abbrev cX4_sampleAt : ByteArray := prog_6_method_14_code
def yX4_sampleAt : MethodName := ⟨RX4, "sampleAt", "(I)I"⟩
abbrev cX4_setAt : ByteArray := prog_6_method_15_code
def yX4_setAt : MethodName := ⟨RX4, "setAt", "(II)V"⟩
abbrev cX4_toldAhead : ByteArray := prog_6_method_16_code
def yX4_toldAhead : MethodName := ⟨RX4, "toldAhead", "(III)I"⟩
def RX5 : String := "BlockSound$StreamReader"
def TX5 : u_T := fun k => match k with
  | 0 => ("BlockSound$StreamReader", "means", "LBlockSound$Means;", true)
  | 1 => ("BlockSound$StreamReader", "bits", "LBlockSound$BitReader;", true)
  | 2 => ("BlockSound$StreamReader", "sound", "LBlockSound$Sound;", false)
  | 3 => ("BlockSound$StreamReader", "draft", "LBlockSound$Sound;", false)
  | _ => ("BlockSound$StreamReader", "wrongBit", "I", false)
def tyX5 : Nat → FieldType := fun k => match k with
  | 0 => .object "BlockSound$Means"
  | 1 => .object "BlockSound$BitReader"
  | 2 => .object "BlockSound$Sound"
  | 3 => .object "BlockSound$Sound"
  | _ => .int
theorem nmX5 : ∀ a, a < 5 → ∀ b, b < 5 → a ≠ b → (TX5 a).2.1 ≠ (TX5 b).2.1 := by decide +kernel
theorem tyX5_ok : ∀ k, k < 5 → parseFieldDescriptor (TX5 k).2.2.1 = some (tyX5 k) := by decide +kernel
abbrev cX5_init : ByteArray := prog_7_method_1_code
def yX5_init : MethodName := ⟨RX5, "<init>", "()V"⟩
abbrev cX5_parse : ByteArray := prog_7_method_2_code
def yX5_parse : MethodName := ⟨RX5, "parse", "()I"⟩
abbrev cX5_isRight : ByteArray := prog_7_method_3_code
def yX5_isRight : MethodName := ⟨RX5, "isRight", "()Z"⟩
abbrev cX5_parseHead : ByteArray := prog_7_method_4_code
def yX5_parseHead : MethodName := ⟨RX5, "parseHead", "()V"⟩
abbrev cX5_parseBlock : ByteArray := prog_7_method_5_code
def yX5_parseBlock : MethodName := ⟨RX5, "parseBlock", "(I)V"⟩
abbrev cX5_parseFilling : ByteArray := prog_7_method_6_code
def yX5_parseFilling : MethodName := ⟨RX5, "parseFilling", "()V"⟩
abbrev cX5_nextByte : ByteArray := prog_7_method_7_code
def yX5_nextByte : MethodName := ⟨RX5, "nextByte", "(I)V"⟩
abbrev cX5_nextWithin : ByteArray := prog_7_method_8_code
def yX5_nextWithin : MethodName := ⟨RX5, "nextWithin", "(III)I"⟩
abbrev cX5_judge : ByteArray := prog_7_method_9_code
def yX5_judge : MethodName := ⟨RX5, "judge", "(IIII)V"⟩
def RX6 : String := "BlockSound$StreamWriter"
def TX6 : u_T := fun k => match k with
  | 0 => ("BlockSound$StreamWriter", "sound", "LBlockSound$Sound;", true)
  | 1 => ("BlockSound$StreamWriter", "means", "LBlockSound$Means;", true)
  | 2 => ("BlockSound$StreamWriter", "bits", "LBlockSound$BitWriter;", true)
  | 3 => ("BlockSound$StreamWriter", "functions", "[I", true)
  | 4 => ("BlockSound$StreamWriter", "ks", "[I", true)
  | 5 => ("BlockSound$StreamWriter", "rests", "[I", true)
  | 6 => ("BlockSound$StreamWriter", "restCount", "I", false)
  | _ => ("BlockSound$StreamWriter", "blockCount", "I", false)
def tyX6 : Nat → FieldType := fun k => match k with
  | 0 => .object "BlockSound$Sound"
  | 1 => .object "BlockSound$Means"
  | 2 => .object "BlockSound$BitWriter"
  | 3 => .array .int
  | 4 => .array .int
  | 5 => .array .int
  | 6 => .int
  | _ => .int
theorem nmX6 : ∀ a, a < 8 → ∀ b, b < 8 → a ≠ b → (TX6 a).2.1 ≠ (TX6 b).2.1 := by decide +kernel
theorem tyX6_ok : ∀ k, k < 8 → parseFieldDescriptor (TX6 k).2.2.1 = some (tyX6 k) := by decide +kernel
abbrev cX6_init : ByteArray := prog_8_method_1_code
def yX6_init : MethodName := ⟨RX6, "<init>", "()V"⟩
abbrev cX6_compose : ByteArray := prog_8_method_2_code
def yX6_compose : MethodName := ⟨RX6, "compose", "(LBlockSound$Sound;)V"⟩
abbrev cX6_choose : ByteArray := prog_8_method_3_code
def yX6_choose : MethodName := ⟨RX6, "choose", "(I)V"⟩
abbrev cX6_putBlock : ByteArray := prog_8_method_4_code
def yX6_putBlock : MethodName := ⟨RX6, "putBlock", "(I)V"⟩
abbrev cX6_findRests : ByteArray := prog_8_method_5_code
def yX6_findRests : MethodName := ⟨RX6, "findRests", "(II)V"⟩
abbrev cX6_zerosFor : ByteArray := prog_8_method_6_code
def yX6_zerosFor : MethodName := ⟨RX6, "zerosFor", "(I)I"⟩
abbrev cX6_bitsWith : ByteArray := prog_8_method_7_code
def yX6_bitsWith : MethodName := ⟨RX6, "bitsWith", "(III)I"⟩
abbrev cX6_bitsFor : ByteArray := prog_8_method_8_code
def yX6_bitsFor : MethodName := ⟨RX6, "bitsFor", "(III)I"⟩
abbrev cX6_bitsTaken : ByteArray := prog_8_method_9_code
def yX6_bitsTaken : MethodName := ⟨RX6, "bitsTaken", "(I)I"⟩
def RX7 : String := "BlockSound"
def TX7 : u_T := fun k => match k with
  | 0 => ("BlockSound", "told", "LBlockSound$Sound;", true)
  | 1 => ("BlockSound", "writer", "LBlockSound$StreamWriter;", true)
  | 2 => ("BlockSound", "reader", "LBlockSound$StreamReader;", true)
  | 3 => ("BlockSound", "written", "LBlockSound$ByteRow;", true)
  | _ => ("BlockSound", "collected", "LBlockSound$ByteRow;", true)
def tyX7 : Nat → FieldType := fun k => match k with
  | 0 => .object "BlockSound$Sound"
  | 1 => .object "BlockSound$StreamWriter"
  | 2 => .object "BlockSound$StreamReader"
  | 3 => .object "BlockSound$ByteRow"
  | _ => .object "BlockSound$ByteRow"
theorem nmX7 : ∀ a, a < 5 → ∀ b, b < 5 → a ≠ b → (TX7 a).2.1 ≠ (TX7 b).2.1 := by decide +kernel
theorem tyX7_ok : ∀ k, k < 5 → parseFieldDescriptor (TX7 k).2.2.1 = some (tyX7 k) := by decide +kernel
abbrev cX7_init : ByteArray := prog_1_method_1_code
def yX7_init : MethodName := ⟨RX7, "<init>", "()V"⟩
abbrev cX7_settings : ByteArray := prog_1_method_2_code
def yX7_settings : MethodName := ⟨RX7, "settings", "(II)Z"⟩
abbrev cX7_sample : ByteArray := prog_1_method_3_code
def yX7_sample : MethodName := ⟨RX7, "sample", "(I)I"⟩
abbrev cX7_write : ByteArray := prog_1_method_4_code
def yX7_write : MethodName := ⟨RX7, "write", "()I"⟩
abbrev cX7_at : ByteArray := prog_1_method_5_code
def yX7_at : MethodName := ⟨RX7, "at", "(I)I"⟩
abbrev cX7_block : ByteArray := prog_1_method_6_code
def yX7_block : MethodName := ⟨RX7, "block", "(II)I"⟩
abbrev cX7_cost : ByteArray := prog_1_method_7_code
def yX7_cost : MethodName := ⟨RX7, "cost", "(III)I"⟩
abbrev cX7_feed : ByteArray := prog_1_method_8_code
def yX7_feed : MethodName := ⟨RX7, "feed", "(I)Z"⟩
abbrev cX7_take : ByteArray := prog_1_method_9_code
def yX7_take : MethodName := ⟨RX7, "take", "()I"⟩
abbrev cX7_read : ByteArray := prog_1_method_10_code
def yX7_read : MethodName := ⟨RX7, "read", "()I"⟩
abbrev cX7_value : ByteArray := prog_1_method_11_code
def yX7_value : MethodName := ⟨RX7, "value", "(I)I"⟩
abbrev cX7_same : ByteArray := prog_1_method_12_code
def yX7_same : MethodName := ⟨RX7, "same", "()Z"⟩
abbrev cX7_count : ByteArray := prog_1_method_13_code
def yX7_count : MethodName := ⟨RX7, "count", "(I)I"⟩
abbrev cX7_isSample : ByteArray := prog_1_method_14_code
def yX7_isSample : MethodName := ⟨RX7, "isSample", "(I)Z"⟩
abbrev cX7_numberBits : ByteArray := prog_1_method_15_code
def yX7_numberBits : MethodName := ⟨RX7, "numberBits", "(II)I"⟩
abbrev cX7_fold : ByteArray := prog_1_method_16_code
def yX7_fold : MethodName := ⟨RX7, "fold", "(I)I"⟩
abbrev cX7_unfold : ByteArray := prog_1_method_17_code
def yX7_unfold : MethodName := ⟨RX7, "unfold", "(I)I"⟩
abbrev cX7_roundedMean : ByteArray := prog_1_method_18_code
def yX7_roundedMean : MethodName := ⟨RX7, "roundedMean", "(II)I"⟩
def RX8 : String := "BlockSoundModel"
def TX8 : u_T := fun k => match k with
  | 0 => ("BlockSoundModel", "channels", "I", false)
  | 1 => ("BlockSoundModel", "wide", "I", false)
  | 2 => ("BlockSoundModel", "told", "I", false)
  | 3 => ("BlockSoundModel", "samples", "[I", true)
  | 4 => ("BlockSoundModel", "bits", "I", false)
  | 5 => ("BlockSoundModel", "written", "[B", true)
  | 6 => ("BlockSoundModel", "blocks", "I", false)
  | 7 => ("BlockSoundModel", "cells", "[I", true)
  | 8 => ("BlockSoundModel", "laidChannels", "I", false)
  | 9 => ("BlockSoundModel", "laidWide", "I", false)
  | 10 => ("BlockSoundModel", "laidMany", "I", false)
  | 11 => ("BlockSoundModel", "laid", "[I", true)
  | 12 => ("BlockSoundModel", "fed", "I", false)
  | 13 => ("BlockSoundModel", "collected", "[I", true)
  | 14 => ("BlockSoundModel", "read", "I", false)
  | 15 => ("BlockSoundModel", "readChannels", "I", false)
  | 16 => ("BlockSoundModel", "readSamples", "[I", true)
  | 17 => ("BlockSoundModel", "at", "I", false)
  | 18 => ("BlockSoundModel", "begun", "I", false)
  | 19 => ("BlockSoundModel", "isOver", "Z", false)
  | 20 => ("BlockSoundModel", "wrong", "I", false)
  | 21 => ("BlockSoundModel", "coming", "[I", true)
  | _ => ("BlockSoundModel", "means", "[I", true)
def tyX8 : Nat → FieldType := fun k => match k with
  | 0 => .int
  | 1 => .int
  | 2 => .int
  | 3 => .array .int
  | 4 => .int
  | 5 => .array .byte
  | 6 => .int
  | 7 => .array .int
  | 8 => .int
  | 9 => .int
  | 10 => .int
  | 11 => .array .int
  | 12 => .int
  | 13 => .array .int
  | 14 => .int
  | 15 => .int
  | 16 => .array .int
  | 17 => .int
  | 18 => .int
  | 19 => .boolean
  | 20 => .int
  | 21 => .array .int
  | _ => .array .int
theorem nmX8 : ∀ a, a < 23 → ∀ b, b < 23 → a ≠ b → (TX8 a).2.1 ≠ (TX8 b).2.1 := by decide +kernel
theorem tyX8_ok : ∀ k, k < 23 → parseFieldDescriptor (TX8 k).2.2.1 = some (tyX8 k) := by decide +kernel
abbrev cX8_init : ByteArray := prog_10_method_1_code
def yX8_init : MethodName := ⟨RX8, "<init>", "()V"⟩
abbrev cX8_settings : ByteArray := prog_10_method_3_code
def yX8_settings : MethodName := ⟨RX8, "settings", "(II)Z"⟩
abbrev cX8_sample : ByteArray := prog_10_method_4_code
def yX8_sample : MethodName := ⟨RX8, "sample", "(I)I"⟩
abbrev cX8_forgetMeans : ByteArray := prog_10_method_5_code
def yX8_forgetMeans : MethodName := ⟨RX8, "forgetMeans", "()V"⟩
abbrev cX8_rounded : ByteArray := prog_10_method_6_code
def yX8_rounded : MethodName := ⟨RX8, "rounded", "(JI)I"⟩
abbrev cX8_meanOf : ByteArray := prog_10_method_7_code
def yX8_meanOf : MethodName := ⟨RX8, "meanOf", "(I)I"⟩
abbrev cX8_noteMean : ByteArray := prog_10_method_8_code
def yX8_noteMean : MethodName := ⟨RX8, "noteMean", "(IJI)V"⟩
abbrev cX8_before : ByteArray := prog_10_method_9_code
def yX8_before : MethodName := ⟨RX8, "before", "([IIII)I"⟩
abbrev cX8_ahead : ByteArray := prog_10_method_10_code
def yX8_ahead : MethodName := ⟨RX8, "ahead", "(I[IIII)I"⟩
abbrev cX8_putBit : ByteArray := prog_10_method_11_code
def yX8_putBit : MethodName := ⟨RX8, "putBit", "(I)V"⟩
abbrev cX8_putNumber : ByteArray := prog_10_method_12_code
def yX8_putNumber : MethodName := ⟨RX8, "putNumber", "(II)V"⟩
abbrev cX8_folded : ByteArray := prog_10_method_13_code
def yX8_folded : MethodName := ⟨RX8, "folded", "(I)I"⟩
abbrev cX8_lengthOf : ByteArray := prog_10_method_14_code
def yX8_lengthOf : MethodName := ⟨RX8, "lengthOf", "(II)I"⟩
abbrev cX8_firstOf : ByteArray := prog_10_method_15_code
def yX8_firstOf : MethodName := ⟨RX8, "firstOf", "(II)I"⟩
abbrev cX8_sizeOf : ByteArray := prog_10_method_16_code
def yX8_sizeOf : MethodName := ⟨RX8, "sizeOf", "(I)I"⟩
abbrev cX8_costOf : ByteArray := prog_10_method_17_code
def yX8_costOf : MethodName := ⟨RX8, "costOf", "(IIIII)I"⟩
abbrev cX8_isMean : ByteArray := prog_10_method_18_code
def yX8_isMean : MethodName := ⟨RX8, "isMean", "(III)Z"⟩
abbrev cX8_writeBlock : ByteArray := prog_10_method_19_code
def yX8_writeBlock : MethodName := ⟨RX8, "writeBlock", "(II)V"⟩
abbrev cX8_write : ByteArray := prog_10_method_20_code
def yX8_write : MethodName := ⟨RX8, "write", "()I"⟩
abbrev cX8_at : ByteArray := prog_10_method_21_code
def yX8_at : MethodName := ⟨RX8, "at", "(I)I"⟩
abbrev cX8_block : ByteArray := prog_10_method_22_code
def yX8_block : MethodName := ⟨RX8, "block", "(II)I"⟩
abbrev cX8_cost : ByteArray := prog_10_method_23_code
def yX8_cost : MethodName := ⟨RX8, "cost", "(III)I"⟩
abbrev cX8_feed : ByteArray := prog_10_method_24_code
def yX8_feed : MethodName := ⟨RX8, "feed", "(I)Z"⟩
abbrev cX8_take : ByteArray := prog_10_method_25_code
def yX8_take : MethodName := ⟨RX8, "take", "()I"⟩
abbrev cX8_nextBit : ByteArray := prog_10_method_26_code
def yX8_nextBit : MethodName := ⟨RX8, "nextBit", "()I"⟩
abbrev cX8_nextNumber : ByteArray := prog_10_method_27_code
def yX8_nextNumber : MethodName := ⟨RX8, "nextNumber", "(I)I"⟩
abbrev cX8_isGood : ByteArray := prog_10_method_28_code
def yX8_isGood : MethodName := ⟨RX8, "isGood", "(Z)Z"⟩
abbrev cX8_hasByte : ByteArray := prog_10_method_29_code
def yX8_hasByte : MethodName := ⟨RX8, "hasByte", "(I)Z"⟩
abbrev cX8_readBlock : ByteArray := prog_10_method_30_code
def yX8_readBlock : MethodName := ⟨RX8, "readBlock", "(IIII)Z"⟩
abbrev cX8_stream : ByteArray := prog_10_method_31_code
def yX8_stream : MethodName := ⟨RX8, "stream", "()I"⟩
abbrev cX8_read : ByteArray := prog_10_method_32_code
def yX8_read : MethodName := ⟨RX8, "read", "()I"⟩
abbrev cX8_value : ByteArray := prog_10_method_33_code
def yX8_value : MethodName := ⟨RX8, "value", "(I)I"⟩
abbrev cX8_same : ByteArray := prog_10_method_34_code
def yX8_same : MethodName := ⟨RX8, "same", "()Z"⟩
abbrev cX8_count : ByteArray := prog_10_method_35_code
def yX8_count : MethodName := ⟨RX8, "count", "(I)I"⟩
def RJ9 : String := "java/lang/Math"
def TJ9 : u_T := fun k => match k with
  | _ => ("", "", "", false)
def tyJ9 : Nat → FieldType := fun k => match k with
  | _ => .int
theorem nmJ9 : ∀ a, a < 0 → ∀ b, b < 0 → a ≠ b → (TJ9 a).2.1 ≠ (TJ9 b).2.1 := by decide +kernel
theorem tyJ9_ok : ∀ k, k < 0 → parseFieldDescriptor (TJ9 k).2.2.1 = some (tyJ9 k) := by decide +kernel
abbrev cJ9_floorDiv_7cf53 : ByteArray := prog_11_method_47_code
def yJ9_floorDiv_7cf53 : MethodName := ⟨RJ9, "floorDiv", "(II)I"⟩
abbrev cJ9_min_7cf53 : ByteArray := prog_11_method_69_code
def yJ9_min_7cf53 : MethodName := ⟨RJ9, "min", "(II)I"⟩
def RJ10 : String := "java/lang/System"
def TJ10 : u_T := fun k => match k with
  | _ => ("", "", "", false)
def tyJ10 : Nat → FieldType := fun k => match k with
  | _ => .int
theorem nmJ10 : ∀ a, a < 0 → ∀ b, b < 0 → a ≠ b → (TJ10 a).2.1 ≠ (TJ10 b).2.1 := by decide +kernel
theorem tyJ10_ok : ∀ k, k < 0 → parseFieldDescriptor (TJ10 k).2.2.1 = some (tyJ10 k) := by decide +kernel
def RL : String := "BlockSoundLaw"
abbrev cL_law : ByteArray := code
def yL_law : MethodName := ⟨RL, "law", "([I)Z"⟩
abbrev vwCl : List vw_C := [(RX0, TX0, 3), (RX1, TX1, 3), (RX2, TX2, 2), (RX3, TX3, 1), (RX4, TX4, 4), (RX5, TX5, 5), (RX6, TX6, 8), (RX7, TX7, 5), (RX8, TX8, 23)]
end
section
theorem dX0_init_0 : decode cX0_init 0 = .ok (.aload_n 0, 1) := by decide +kernel
theorem dX0_init_1 : decode cX0_init 1 = .ok (.invokespecial 3, 3) := by decide +kernel
theorem dX0_init_4 : decode cX0_init 4 = .ok (.aload_n 0, 1) := by decide +kernel
theorem dX0_init_5 : decode cX0_init 5 = .ok (.new 9, 3) := by decide +kernel
theorem dX0_init_8 : decode cX0_init 8 = .ok (.dup, 1) := by decide +kernel
theorem dX0_init_9 : decode cX0_init 9 = .ok (.invokespecial 11, 3) := by decide +kernel
theorem dX0_init_12 : decode cX0_init 12 = .ok (.putfield 12, 3) := by decide +kernel
theorem dX0_init_15 : decode cX0_init 15 = .ok (.return_, 1) := by decide +kernel
theorem dX0_restart_0 : decode cX0_restart 0 = .ok (.aload_n 0, 1) := by decide +kernel
theorem dX0_restart_1 : decode cX0_restart 1 = .ok (.iconst 0, 1) := by decide +kernel
theorem dX0_restart_2 : decode cX0_restart 2 = .ok (.putfield 18, 3) := by decide +kernel
theorem dX0_restart_5 : decode cX0_restart 5 = .ok (.aload_n 0, 1) := by decide +kernel
theorem dX0_restart_6 : decode cX0_restart 6 = .ok (.bipush 8, 2) := by decide +kernel
theorem dX0_restart_8 : decode cX0_restart 8 = .ok (.aload_n 0, 1) := by decide +kernel
theorem dX0_restart_9 : decode cX0_restart 9 = .ok (.getfield 12, 3) := by decide +kernel
theorem dX0_restart_12 : decode cX0_restart 12 = .ok (.getfield 22, 3) := by decide +kernel
theorem dX0_restart_15 : decode cX0_restart 15 = .ok (.imul, 1) := by decide +kernel
theorem dX0_restart_16 : decode cX0_restart 16 = .ok (.putfield 25, 3) := by decide +kernel
theorem dX0_restart_19 : decode cX0_restart 19 = .ok (.return_, 1) := by decide +kernel
theorem dX0_bitHere_0 : decode cX0_bitHere 0 = .ok (.aload_n 0, 1) := by decide +kernel
theorem dX0_bitHere_1 : decode cX0_bitHere 1 = .ok (.getfield 18, 3) := by decide +kernel
theorem dX0_bitHere_4 : decode cX0_bitHere 4 = .ok (.aload_n 0, 1) := by decide +kernel
theorem dX0_bitHere_5 : decode cX0_bitHere 5 = .ok (.getfield 25, 3) := by decide +kernel
theorem dX0_bitHere_8 : decode cX0_bitHere 8 = .ok (.if_icmp .ge 33, 3) := by decide +kernel
theorem dX0_bitHere_11 : decode cX0_bitHere 11 = .ok (.aload_n 0, 1) := by decide +kernel
theorem dX0_bitHere_12 : decode cX0_bitHere 12 = .ok (.getfield 12, 3) := by decide +kernel
theorem dX0_bitHere_15 : decode cX0_bitHere 15 = .ok (.getfield 28, 3) := by decide +kernel
theorem dX0_bitHere_18 : decode cX0_bitHere 18 = .ok (.aload_n 0, 1) := by decide +kernel
theorem dX0_bitHere_19 : decode cX0_bitHere 19 = .ok (.getfield 18, 3) := by decide +kernel
theorem dX0_bitHere_22 : decode cX0_bitHere 22 = .ok (.iconst 3, 1) := by decide +kernel
theorem dX0_bitHere_23 : decode cX0_bitHere 23 = .ok (.ishr, 1) := by decide +kernel
theorem dX0_bitHere_24 : decode cX0_bitHere 24 = .ok (.baload, 1) := by decide +kernel
theorem dX0_bitHere_25 : decode cX0_bitHere 25 = .ok (.bipush 7, 2) := by decide +kernel
theorem dX0_bitHere_27 : decode cX0_bitHere 27 = .ok (.aload_n 0, 1) := by decide +kernel
theorem dX0_bitHere_28 : decode cX0_bitHere 28 = .ok (.getfield 18, 3) := by decide +kernel
theorem dX0_bitHere_31 : decode cX0_bitHere 31 = .ok (.bipush 7, 2) := by decide +kernel
theorem dX0_bitHere_33 : decode cX0_bitHere 33 = .ok (.iand, 1) := by decide +kernel
theorem dX0_bitHere_34 : decode cX0_bitHere 34 = .ok (.isub, 1) := by decide +kernel
theorem dX0_bitHere_35 : decode cX0_bitHere 35 = .ok (.ishr, 1) := by decide +kernel
theorem dX0_bitHere_36 : decode cX0_bitHere 36 = .ok (.iconst 1, 1) := by decide +kernel
theorem dX0_bitHere_37 : decode cX0_bitHere 37 = .ok (.iand, 1) := by decide +kernel
theorem dX0_bitHere_38 : decode cX0_bitHere 38 = .ok (.goto 4, 3) := by decide +kernel
theorem dX0_bitHere_41 : decode cX0_bitHere 41 = .ok (.iconst 0, 1) := by decide +kernel
theorem dX0_bitHere_42 : decode cX0_bitHere 42 = .ok (.ireturn, 1) := by decide +kernel
theorem dX0_nextLowBits_0 : decode cX0_nextLowBits 0 = .ok (.aload_n 0, 1) := by decide +kernel
theorem dX0_nextLowBits_1 : decode cX0_nextLowBits 1 = .ok (.getfield 25, 3) := by decide +kernel
theorem dX0_nextLowBits_4 : decode cX0_nextLowBits 4 = .ok (.aload_n 0, 1) := by decide +kernel
theorem dX0_nextLowBits_5 : decode cX0_nextLowBits 5 = .ok (.getfield 18, 3) := by decide +kernel
theorem dX0_nextLowBits_8 : decode cX0_nextLowBits 8 = .ok (.isub, 1) := by decide +kernel
theorem dX0_nextLowBits_9 : decode cX0_nextLowBits 9 = .ok (.iload_n 1, 1) := by decide +kernel
theorem dX0_nextLowBits_10 : decode cX0_nextLowBits 10 = .ok (.if_icmp .ge 5, 3) := by decide +kernel
theorem dX0_nextLowBits_13 : decode cX0_nextLowBits 13 = .ok (.iconst (-1), 1) := by decide +kernel
theorem dX0_nextLowBits_14 : decode cX0_nextLowBits 14 = .ok (.ireturn, 1) := by decide +kernel
theorem dX0_nextLowBits_15 : decode cX0_nextLowBits 15 = .ok (.iconst 0, 1) := by decide +kernel
theorem dX0_nextLowBits_16 : decode cX0_nextLowBits 16 = .ok (.istore_n 2, 1) := by decide +kernel
theorem dX0_nextLowBits_17 : decode cX0_nextLowBits 17 = .ok (.iconst 0, 1) := by decide +kernel
theorem dX0_nextLowBits_18 : decode cX0_nextLowBits 18 = .ok (.istore_n 3, 1) := by decide +kernel
theorem dX0_nextLowBits_19 : decode cX0_nextLowBits 19 = .ok (.iload_n 3, 1) := by decide +kernel
theorem dX0_nextLowBits_20 : decode cX0_nextLowBits 20 = .ok (.iload_n 1, 1) := by decide +kernel
theorem dX0_nextLowBits_21 : decode cX0_nextLowBits 21 = .ok (.if_icmp .ge 28, 3) := by decide +kernel
theorem dX0_nextLowBits_24 : decode cX0_nextLowBits 24 = .ok (.iload_n 2, 1) := by decide +kernel
theorem dX0_nextLowBits_25 : decode cX0_nextLowBits 25 = .ok (.iconst 2, 1) := by decide +kernel
theorem dX0_nextLowBits_26 : decode cX0_nextLowBits 26 = .ok (.imul, 1) := by decide +kernel
theorem dX0_nextLowBits_27 : decode cX0_nextLowBits 27 = .ok (.aload_n 0, 1) := by decide +kernel
theorem dX0_nextLowBits_28 : decode cX0_nextLowBits 28 = .ok (.invokevirtual 32, 3) := by decide +kernel
theorem dX0_nextLowBits_31 : decode cX0_nextLowBits 31 = .ok (.iadd, 1) := by decide +kernel
theorem dX0_nextLowBits_32 : decode cX0_nextLowBits 32 = .ok (.istore_n 2, 1) := by decide +kernel
theorem dX0_nextLowBits_33 : decode cX0_nextLowBits 33 = .ok (.aload_n 0, 1) := by decide +kernel
theorem dX0_nextLowBits_34 : decode cX0_nextLowBits 34 = .ok (.dup, 1) := by decide +kernel
theorem dX0_nextLowBits_35 : decode cX0_nextLowBits 35 = .ok (.getfield 18, 3) := by decide +kernel
theorem dX0_nextLowBits_38 : decode cX0_nextLowBits 38 = .ok (.iconst 1, 1) := by decide +kernel
theorem dX0_nextLowBits_39 : decode cX0_nextLowBits 39 = .ok (.iadd, 1) := by decide +kernel
theorem dX0_nextLowBits_40 : decode cX0_nextLowBits 40 = .ok (.putfield 18, 3) := by decide +kernel
theorem dX0_nextLowBits_43 : decode cX0_nextLowBits 43 = .ok (.iinc 3 1, 3) := by decide +kernel
theorem dX0_nextLowBits_46 : decode cX0_nextLowBits 46 = .ok (.goto (-27), 3) := by decide +kernel
theorem dX0_nextLowBits_49 : decode cX0_nextLowBits 49 = .ok (.iload_n 2, 1) := by decide +kernel
theorem dX0_nextLowBits_50 : decode cX0_nextLowBits 50 = .ok (.ireturn, 1) := by decide +kernel
theorem dX0_nextNumber_0 : decode cX0_nextNumber 0 = .ok (.aload_n 0, 1) := by decide +kernel
theorem dX0_nextNumber_1 : decode cX0_nextNumber 1 = .ok (.getfield 18, 3) := by decide +kernel
theorem dX0_nextNumber_4 : decode cX0_nextNumber 4 = .ok (.istore_n 2, 1) := by decide +kernel
theorem dX0_nextNumber_5 : decode cX0_nextNumber 5 = .ok (.aload_n 0, 1) := by decide +kernel
theorem dX0_nextNumber_6 : decode cX0_nextNumber 6 = .ok (.getfield 18, 3) := by decide +kernel
theorem dX0_nextNumber_9 : decode cX0_nextNumber 9 = .ok (.aload_n 0, 1) := by decide +kernel
theorem dX0_nextNumber_10 : decode cX0_nextNumber 10 = .ok (.getfield 25, 3) := by decide +kernel
theorem dX0_nextNumber_13 : decode cX0_nextNumber 13 = .ok (.if_icmp .ge 23, 3) := by decide +kernel
theorem dX0_nextNumber_16 : decode cX0_nextNumber 16 = .ok (.aload_n 0, 1) := by decide +kernel
theorem dX0_nextNumber_17 : decode cX0_nextNumber 17 = .ok (.invokevirtual 32, 3) := by decide +kernel
theorem dX0_nextNumber_20 : decode cX0_nextNumber 20 = .ok (.ifCond .ne 16, 3) := by decide +kernel
theorem dX0_nextNumber_23 : decode cX0_nextNumber 23 = .ok (.aload_n 0, 1) := by decide +kernel
theorem dX0_nextNumber_24 : decode cX0_nextNumber 24 = .ok (.dup, 1) := by decide +kernel
theorem dX0_nextNumber_25 : decode cX0_nextNumber 25 = .ok (.getfield 18, 3) := by decide +kernel
theorem dX0_nextNumber_28 : decode cX0_nextNumber 28 = .ok (.iconst 1, 1) := by decide +kernel
theorem dX0_nextNumber_29 : decode cX0_nextNumber 29 = .ok (.iadd, 1) := by decide +kernel
theorem dX0_nextNumber_30 : decode cX0_nextNumber 30 = .ok (.putfield 18, 3) := by decide +kernel
theorem dX0_nextNumber_33 : decode cX0_nextNumber 33 = .ok (.goto (-28), 3) := by decide +kernel
theorem dX0_nextNumber_36 : decode cX0_nextNumber 36 = .ok (.aload_n 0, 1) := by decide +kernel
theorem dX0_nextNumber_37 : decode cX0_nextNumber 37 = .ok (.getfield 18, 3) := by decide +kernel
theorem dX0_nextNumber_40 : decode cX0_nextNumber 40 = .ok (.iload_n 2, 1) := by decide +kernel
theorem dX0_nextNumber_41 : decode cX0_nextNumber 41 = .ok (.isub, 1) := by decide +kernel
theorem dX0_nextNumber_42 : decode cX0_nextNumber 42 = .ok (.istore_n 3, 1) := by decide +kernel
theorem dX0_nextNumber_43 : decode cX0_nextNumber 43 = .ok (.aload_n 0, 1) := by decide +kernel
theorem dX0_nextNumber_44 : decode cX0_nextNumber 44 = .ok (.dup, 1) := by decide +kernel
theorem dX0_nextNumber_45 : decode cX0_nextNumber 45 = .ok (.getfield 18, 3) := by decide +kernel
theorem dX0_nextNumber_48 : decode cX0_nextNumber 48 = .ok (.iconst 1, 1) := by decide +kernel
theorem dX0_nextNumber_49 : decode cX0_nextNumber 49 = .ok (.iadd, 1) := by decide +kernel
theorem dX0_nextNumber_50 : decode cX0_nextNumber 50 = .ok (.putfield 18, 3) := by decide +kernel
theorem dX0_nextNumber_53 : decode cX0_nextNumber 53 = .ok (.aload_n 0, 1) := by decide +kernel
theorem dX0_nextNumber_54 : decode cX0_nextNumber 54 = .ok (.iload_n 1, 1) := by decide +kernel
theorem dX0_nextNumber_55 : decode cX0_nextNumber 55 = .ok (.invokevirtual 36, 3) := by decide +kernel
theorem dX0_nextNumber_58 : decode cX0_nextNumber 58 = .ok (.istore 4, 2) := by decide +kernel
theorem dX0_nextNumber_60 : decode cX0_nextNumber 60 = .ok (.iload 4, 2) := by decide +kernel
theorem dX0_nextNumber_62 : decode cX0_nextNumber 62 = .ok (.iconst (-1), 1) := by decide +kernel
theorem dX0_nextNumber_63 : decode cX0_nextNumber 63 = .ok (.if_icmp .ne 7, 3) := by decide +kernel
theorem dX0_nextNumber_66 : decode cX0_nextNumber 66 = .ok (.iconst (-1), 1) := by decide +kernel
theorem dX0_nextNumber_67 : decode cX0_nextNumber 67 = .ok (.goto 9, 3) := by decide +kernel
theorem dX0_nextNumber_70 : decode cX0_nextNumber 70 = .ok (.iload_n 3, 1) := by decide +kernel
theorem dX0_nextNumber_71 : decode cX0_nextNumber 71 = .ok (.iload_n 1, 1) := by decide +kernel
theorem dX0_nextNumber_72 : decode cX0_nextNumber 72 = .ok (.ishl, 1) := by decide +kernel
theorem dX0_nextNumber_73 : decode cX0_nextNumber 73 = .ok (.iload 4, 2) := by decide +kernel
theorem dX0_nextNumber_75 : decode cX0_nextNumber 75 = .ok (.iadd, 1) := by decide +kernel
theorem dX0_nextNumber_76 : decode cX0_nextNumber 76 = .ok (.ireturn, 1) := by decide +kernel
theorem dX1_init_0 : decode cX1_init 0 = .ok (.aload_n 0, 1) := by decide +kernel
theorem dX1_init_1 : decode cX1_init 1 = .ok (.invokespecial 1, 3) := by decide +kernel
theorem dX1_init_4 : decode cX1_init 4 = .ok (.aload_n 0, 1) := by decide +kernel
theorem dX1_init_5 : decode cX1_init 5 = .ok (.new 7, 3) := by decide +kernel
theorem dX1_init_8 : decode cX1_init 8 = .ok (.dup, 1) := by decide +kernel
theorem dX1_init_9 : decode cX1_init 9 = .ok (.invokespecial 9, 3) := by decide +kernel
theorem dX1_init_12 : decode cX1_init 12 = .ok (.putfield 10, 3) := by decide +kernel
theorem dX1_init_15 : decode cX1_init 15 = .ok (.return_, 1) := by decide +kernel
theorem dX1_restart_0 : decode cX1_restart 0 = .ok (.aload_n 0, 1) := by decide +kernel
theorem dX1_restart_1 : decode cX1_restart 1 = .ok (.getfield 10, 3) := by decide +kernel
theorem dX1_restart_4 : decode cX1_restart 4 = .ok (.invokevirtual 16, 3) := by decide +kernel
theorem dX1_restart_7 : decode cX1_restart 7 = .ok (.aload_n 0, 1) := by decide +kernel
theorem dX1_restart_8 : decode cX1_restart 8 = .ok (.iconst 0, 1) := by decide +kernel
theorem dX1_restart_9 : decode cX1_restart 9 = .ok (.putfield 19, 3) := by decide +kernel
theorem dX1_restart_12 : decode cX1_restart 12 = .ok (.aload_n 0, 1) := by decide +kernel
theorem dX1_restart_13 : decode cX1_restart 13 = .ok (.iconst 0, 1) := by decide +kernel
theorem dX1_restart_14 : decode cX1_restart 14 = .ok (.putfield 23, 3) := by decide +kernel
theorem dX1_restart_17 : decode cX1_restart 17 = .ok (.return_, 1) := by decide +kernel
theorem dX1_putBit_0 : decode cX1_putBit 0 = .ok (.aload_n 0, 1) := by decide +kernel
theorem dX1_putBit_1 : decode cX1_putBit 1 = .ok (.aload_n 0, 1) := by decide +kernel
theorem dX1_putBit_2 : decode cX1_putBit 2 = .ok (.getfield 19, 3) := by decide +kernel
theorem dX1_putBit_5 : decode cX1_putBit 5 = .ok (.iconst 2, 1) := by decide +kernel
theorem dX1_putBit_6 : decode cX1_putBit 6 = .ok (.imul, 1) := by decide +kernel
theorem dX1_putBit_7 : decode cX1_putBit 7 = .ok (.iload_n 1, 1) := by decide +kernel
theorem dX1_putBit_8 : decode cX1_putBit 8 = .ok (.iadd, 1) := by decide +kernel
theorem dX1_putBit_9 : decode cX1_putBit 9 = .ok (.putfield 19, 3) := by decide +kernel
theorem dX1_putBit_12 : decode cX1_putBit 12 = .ok (.aload_n 0, 1) := by decide +kernel
theorem dX1_putBit_13 : decode cX1_putBit 13 = .ok (.dup, 1) := by decide +kernel
theorem dX1_putBit_14 : decode cX1_putBit 14 = .ok (.getfield 23, 3) := by decide +kernel
theorem dX1_putBit_17 : decode cX1_putBit 17 = .ok (.iconst 1, 1) := by decide +kernel
theorem dX1_putBit_18 : decode cX1_putBit 18 = .ok (.iadd, 1) := by decide +kernel
theorem dX1_putBit_19 : decode cX1_putBit 19 = .ok (.putfield 23, 3) := by decide +kernel
theorem dX1_putBit_22 : decode cX1_putBit 22 = .ok (.aload_n 0, 1) := by decide +kernel
theorem dX1_putBit_23 : decode cX1_putBit 23 = .ok (.getfield 23, 3) := by decide +kernel
theorem dX1_putBit_26 : decode cX1_putBit 26 = .ok (.bipush 8, 2) := by decide +kernel
theorem dX1_putBit_28 : decode cX1_putBit 28 = .ok (.if_icmp .ne 25, 3) := by decide +kernel
theorem dX1_putBit_31 : decode cX1_putBit 31 = .ok (.aload_n 0, 1) := by decide +kernel
theorem dX1_putBit_32 : decode cX1_putBit 32 = .ok (.getfield 10, 3) := by decide +kernel
theorem dX1_putBit_35 : decode cX1_putBit 35 = .ok (.aload_n 0, 1) := by decide +kernel
theorem dX1_putBit_36 : decode cX1_putBit 36 = .ok (.getfield 19, 3) := by decide +kernel
theorem dX1_putBit_39 : decode cX1_putBit 39 = .ok (.invokevirtual 26, 3) := by decide +kernel
theorem dX1_putBit_42 : decode cX1_putBit 42 = .ok (.pop, 1) := by decide +kernel
theorem dX1_putBit_43 : decode cX1_putBit 43 = .ok (.aload_n 0, 1) := by decide +kernel
theorem dX1_putBit_44 : decode cX1_putBit 44 = .ok (.iconst 0, 1) := by decide +kernel
theorem dX1_putBit_45 : decode cX1_putBit 45 = .ok (.putfield 19, 3) := by decide +kernel
theorem dX1_putBit_48 : decode cX1_putBit 48 = .ok (.aload_n 0, 1) := by decide +kernel
theorem dX1_putBit_49 : decode cX1_putBit 49 = .ok (.iconst 0, 1) := by decide +kernel
theorem dX1_putBit_50 : decode cX1_putBit 50 = .ok (.putfield 23, 3) := by decide +kernel
theorem dX1_putBit_53 : decode cX1_putBit 53 = .ok (.return_, 1) := by decide +kernel
theorem dX1_putLowBits_0 : decode cX1_putLowBits 0 = .ok (.iload_n 1, 1) := by decide +kernel
theorem dX1_putLowBits_1 : decode cX1_putLowBits 1 = .ok (.iconst 1, 1) := by decide +kernel
theorem dX1_putLowBits_2 : decode cX1_putLowBits 2 = .ok (.isub, 1) := by decide +kernel
theorem dX1_putLowBits_3 : decode cX1_putLowBits 3 = .ok (.istore_n 3, 1) := by decide +kernel
theorem dX1_putLowBits_4 : decode cX1_putLowBits 4 = .ok (.iload_n 3, 1) := by decide +kernel
theorem dX1_putLowBits_5 : decode cX1_putLowBits 5 = .ok (.ifCond .lt 18, 3) := by decide +kernel
theorem dX1_putLowBits_8 : decode cX1_putLowBits 8 = .ok (.aload_n 0, 1) := by decide +kernel
theorem dX1_putLowBits_9 : decode cX1_putLowBits 9 = .ok (.iload_n 2, 1) := by decide +kernel
theorem dX1_putLowBits_10 : decode cX1_putLowBits 10 = .ok (.iload_n 3, 1) := by decide +kernel
theorem dX1_putLowBits_11 : decode cX1_putLowBits 11 = .ok (.ishr, 1) := by decide +kernel
theorem dX1_putLowBits_12 : decode cX1_putLowBits 12 = .ok (.iconst 1, 1) := by decide +kernel
theorem dX1_putLowBits_13 : decode cX1_putLowBits 13 = .ok (.iand, 1) := by decide +kernel
theorem dX1_putLowBits_14 : decode cX1_putLowBits 14 = .ok (.invokevirtual 30, 3) := by decide +kernel
theorem dX1_putLowBits_17 : decode cX1_putLowBits 17 = .ok (.iinc 3 (-1), 3) := by decide +kernel
theorem dX1_putLowBits_20 : decode cX1_putLowBits 20 = .ok (.goto (-16), 3) := by decide +kernel
theorem dX1_putLowBits_23 : decode cX1_putLowBits 23 = .ok (.return_, 1) := by decide +kernel
theorem dX1_putNumber_0 : decode cX1_putNumber 0 = .ok (.iload_n 2, 1) := by decide +kernel
theorem dX1_putNumber_1 : decode cX1_putNumber 1 = .ok (.iload_n 1, 1) := by decide +kernel
theorem dX1_putNumber_2 : decode cX1_putNumber 2 = .ok (.ishr, 1) := by decide +kernel
theorem dX1_putNumber_3 : decode cX1_putNumber 3 = .ok (.istore_n 3, 1) := by decide +kernel
theorem dX1_putNumber_4 : decode cX1_putNumber 4 = .ok (.iconst 0, 1) := by decide +kernel
theorem dX1_putNumber_5 : decode cX1_putNumber 5 = .ok (.istore 4, 2) := by decide +kernel
theorem dX1_putNumber_7 : decode cX1_putNumber 7 = .ok (.iload 4, 2) := by decide +kernel
theorem dX1_putNumber_9 : decode cX1_putNumber 9 = .ok (.iload_n 3, 1) := by decide +kernel
theorem dX1_putNumber_10 : decode cX1_putNumber 10 = .ok (.if_icmp .ge 14, 3) := by decide +kernel
theorem dX1_putNumber_13 : decode cX1_putNumber 13 = .ok (.aload_n 0, 1) := by decide +kernel
theorem dX1_putNumber_14 : decode cX1_putNumber 14 = .ok (.iconst 0, 1) := by decide +kernel
theorem dX1_putNumber_15 : decode cX1_putNumber 15 = .ok (.invokevirtual 30, 3) := by decide +kernel
theorem dX1_putNumber_18 : decode cX1_putNumber 18 = .ok (.iinc 4 1, 3) := by decide +kernel
theorem dX1_putNumber_21 : decode cX1_putNumber 21 = .ok (.goto (-14), 3) := by decide +kernel
theorem dX1_putNumber_24 : decode cX1_putNumber 24 = .ok (.aload_n 0, 1) := by decide +kernel
theorem dX1_putNumber_25 : decode cX1_putNumber 25 = .ok (.iconst 1, 1) := by decide +kernel
theorem dX1_putNumber_26 : decode cX1_putNumber 26 = .ok (.invokevirtual 30, 3) := by decide +kernel
theorem dX1_putNumber_29 : decode cX1_putNumber 29 = .ok (.aload_n 0, 1) := by decide +kernel
theorem dX1_putNumber_30 : decode cX1_putNumber 30 = .ok (.iload_n 1, 1) := by decide +kernel
theorem dX1_putNumber_31 : decode cX1_putNumber 31 = .ok (.iload_n 2, 1) := by decide +kernel
theorem dX1_putNumber_32 : decode cX1_putNumber 32 = .ok (.invokevirtual 34, 3) := by decide +kernel
theorem dX1_putNumber_35 : decode cX1_putNumber 35 = .ok (.return_, 1) := by decide +kernel
theorem dX1_fillByte_0 : decode cX1_fillByte 0 = .ok (.aload_n 0, 1) := by decide +kernel
theorem dX1_fillByte_1 : decode cX1_fillByte 1 = .ok (.getfield 23, 3) := by decide +kernel
theorem dX1_fillByte_4 : decode cX1_fillByte 4 = .ok (.ifCond .le 15, 3) := by decide +kernel
theorem dX1_fillByte_7 : decode cX1_fillByte 7 = .ok (.aload_n 0, 1) := by decide +kernel
theorem dX1_fillByte_8 : decode cX1_fillByte 8 = .ok (.bipush 8, 2) := by decide +kernel
theorem dX1_fillByte_10 : decode cX1_fillByte 10 = .ok (.aload_n 0, 1) := by decide +kernel
theorem dX1_fillByte_11 : decode cX1_fillByte 11 = .ok (.getfield 23, 3) := by decide +kernel
theorem dX1_fillByte_14 : decode cX1_fillByte 14 = .ok (.isub, 1) := by decide +kernel
theorem dX1_fillByte_15 : decode cX1_fillByte 15 = .ok (.iconst 0, 1) := by decide +kernel
theorem dX1_fillByte_16 : decode cX1_fillByte 16 = .ok (.invokevirtual 34, 3) := by decide +kernel
theorem dX1_fillByte_19 : decode cX1_fillByte 19 = .ok (.return_, 1) := by decide +kernel
theorem dX2_init_0 : decode cX2_init 0 = .ok (.aload_n 0, 1) := by decide +kernel
theorem dX2_init_1 : decode cX2_init 1 = .ok (.invokespecial 3, 3) := by decide +kernel
theorem dX2_init_4 : decode cX2_init 4 = .ok (.aload_n 0, 1) := by decide +kernel
theorem dX2_init_5 : decode cX2_init 5 = .ok (.sipush 3000, 3) := by decide +kernel
theorem dX2_init_8 : decode cX2_init 8 = .ok (.newarray .byte, 2) := by decide +kernel
theorem dX2_init_10 : decode cX2_init 10 = .ok (.putfield 9, 3) := by decide +kernel
theorem dX2_init_13 : decode cX2_init 13 = .ok (.return_, 1) := by decide +kernel
theorem dX2_clear_0 : decode cX2_clear 0 = .ok (.aload_n 0, 1) := by decide +kernel
theorem dX2_clear_1 : decode cX2_clear 1 = .ok (.iconst 0, 1) := by decide +kernel
theorem dX2_clear_2 : decode cX2_clear 2 = .ok (.putfield 15, 3) := by decide +kernel
theorem dX2_clear_5 : decode cX2_clear 5 = .ok (.return_, 1) := by decide +kernel
theorem dX2_append_0 : decode cX2_append 0 = .ok (.aload_n 0, 1) := by decide +kernel
theorem dX2_append_1 : decode cX2_append 1 = .ok (.getfield 15, 3) := by decide +kernel
theorem dX2_append_4 : decode cX2_append 4 = .ok (.sipush 3000, 3) := by decide +kernel
theorem dX2_append_7 : decode cX2_append 7 = .ok (.if_icmp .lt 5, 3) := by decide +kernel
theorem dX2_append_10 : decode cX2_append 10 = .ok (.iconst 0, 1) := by decide +kernel
theorem dX2_append_11 : decode cX2_append 11 = .ok (.ireturn, 1) := by decide +kernel
theorem dX2_append_12 : decode cX2_append 12 = .ok (.aload_n 0, 1) := by decide +kernel
theorem dX2_append_13 : decode cX2_append 13 = .ok (.getfield 9, 3) := by decide +kernel
theorem dX2_append_16 : decode cX2_append 16 = .ok (.aload_n 0, 1) := by decide +kernel
theorem dX2_append_17 : decode cX2_append 17 = .ok (.getfield 15, 3) := by decide +kernel
theorem dX2_append_20 : decode cX2_append 20 = .ok (.iload_n 1, 1) := by decide +kernel
theorem dX2_append_21 : decode cX2_append 21 = .ok (.i2b, 1) := by decide +kernel
theorem dX2_append_22 : decode cX2_append 22 = .ok (.bastore, 1) := by decide +kernel
theorem dX2_append_23 : decode cX2_append 23 = .ok (.aload_n 0, 1) := by decide +kernel
theorem dX2_append_24 : decode cX2_append 24 = .ok (.dup, 1) := by decide +kernel
theorem dX2_append_25 : decode cX2_append 25 = .ok (.getfield 15, 3) := by decide +kernel
theorem dX2_append_28 : decode cX2_append 28 = .ok (.iconst 1, 1) := by decide +kernel
theorem dX2_append_29 : decode cX2_append 29 = .ok (.iadd, 1) := by decide +kernel
theorem dX2_append_30 : decode cX2_append 30 = .ok (.putfield 15, 3) := by decide +kernel
theorem dX2_append_33 : decode cX2_append 33 = .ok (.iconst 1, 1) := by decide +kernel
theorem dX2_append_34 : decode cX2_append 34 = .ok (.ireturn, 1) := by decide +kernel
theorem dX2_byteAt_0 : decode cX2_byteAt 0 = .ok (.iload_n 1, 1) := by decide +kernel
theorem dX2_byteAt_1 : decode cX2_byteAt 1 = .ok (.ifCond .lt 11, 3) := by decide +kernel
theorem dX2_byteAt_4 : decode cX2_byteAt 4 = .ok (.iload_n 1, 1) := by decide +kernel
theorem dX2_byteAt_5 : decode cX2_byteAt 5 = .ok (.aload_n 0, 1) := by decide +kernel
theorem dX2_byteAt_6 : decode cX2_byteAt 6 = .ok (.getfield 15, 3) := by decide +kernel
theorem dX2_byteAt_9 : decode cX2_byteAt 9 = .ok (.if_icmp .lt 7, 3) := by decide +kernel
theorem dX2_byteAt_12 : decode cX2_byteAt 12 = .ok (.iconst (-1), 1) := by decide +kernel
theorem dX2_byteAt_13 : decode cX2_byteAt 13 = .ok (.goto 13, 3) := by decide +kernel
theorem dX2_byteAt_16 : decode cX2_byteAt 16 = .ok (.aload_n 0, 1) := by decide +kernel
theorem dX2_byteAt_17 : decode cX2_byteAt 17 = .ok (.getfield 9, 3) := by decide +kernel
theorem dX2_byteAt_20 : decode cX2_byteAt 20 = .ok (.iload_n 1, 1) := by decide +kernel
theorem dX2_byteAt_21 : decode cX2_byteAt 21 = .ok (.baload, 1) := by decide +kernel
theorem dX2_byteAt_22 : decode cX2_byteAt 22 = .ok (.sipush 255, 3) := by decide +kernel
theorem dX2_byteAt_25 : decode cX2_byteAt 25 = .ok (.iand, 1) := by decide +kernel
theorem dX2_byteAt_26 : decode cX2_byteAt 26 = .ok (.ireturn, 1) := by decide +kernel
theorem dX2_copy_0 : decode cX2_copy 0 = .ok (.aload_n 0, 1) := by decide +kernel
theorem dX2_copy_1 : decode cX2_copy 1 = .ok (.aload_n 1, 1) := by decide +kernel
theorem dX2_copy_2 : decode cX2_copy 2 = .ok (.getfield 15, 3) := by decide +kernel
theorem dX2_copy_5 : decode cX2_copy 5 = .ok (.putfield 15, 3) := by decide +kernel
theorem dX2_copy_8 : decode cX2_copy 8 = .ok (.aload_n 1, 1) := by decide +kernel
theorem dX2_copy_9 : decode cX2_copy 9 = .ok (.getfield 9, 3) := by decide +kernel
theorem dX2_copy_12 : decode cX2_copy 12 = .ok (.iconst 0, 1) := by decide +kernel
theorem dX2_copy_13 : decode cX2_copy 13 = .ok (.aload_n 0, 1) := by decide +kernel
theorem dX2_copy_14 : decode cX2_copy 14 = .ok (.getfield 9, 3) := by decide +kernel
theorem dX2_copy_17 : decode cX2_copy 17 = .ok (.iconst 0, 1) := by decide +kernel
theorem dX2_copy_18 : decode cX2_copy 18 = .ok (.aload_n 0, 1) := by decide +kernel
theorem dX2_copy_19 : decode cX2_copy 19 = .ok (.getfield 15, 3) := by decide +kernel
theorem dX2_copy_22 : decode cX2_copy 22 = .ok (.invokestatic 19, 3) := by decide +kernel
theorem dX2_copy_25 : decode cX2_copy 25 = .ok (.return_, 1) := by decide +kernel
theorem dX3_init_0 : decode cX3_init 0 = .ok (.aload_n 0, 1) := by decide +kernel
theorem dX3_init_1 : decode cX3_init 1 = .ok (.invokespecial 3, 3) := by decide +kernel
theorem dX3_init_4 : decode cX3_init 4 = .ok (.aload_n 0, 1) := by decide +kernel
theorem dX3_init_5 : decode cX3_init 5 = .ok (.sipush 800, 3) := by decide +kernel
theorem dX3_init_8 : decode cX3_init 8 = .ok (.newarray .int, 2) := by decide +kernel
theorem dX3_init_10 : decode cX3_init 10 = .ok (.putfield 9, 3) := by decide +kernel
theorem dX3_init_13 : decode cX3_init 13 = .ok (.return_, 1) := by decide +kernel
theorem dX3_ahead_0 : decode cX3_ahead 0 = .ok (.iconst 0, 1) := by decide +kernel
theorem dX3_ahead_1 : decode cX3_ahead 1 = .ok (.istore_n 3, 1) := by decide +kernel
theorem dX3_ahead_2 : decode cX3_ahead 2 = .ok (.iconst 1, 1) := by decide +kernel
theorem dX3_ahead_3 : decode cX3_ahead 3 = .ok (.istore 4, 2) := by decide +kernel
theorem dX3_ahead_5 : decode cX3_ahead 5 = .ok (.iload 4, 2) := by decide +kernel
theorem dX3_ahead_7 : decode cX3_ahead 7 = .ok (.iconst 4, 1) := by decide +kernel
theorem dX3_ahead_8 : decode cX3_ahead 8 = .ok (.if_icmp .gt 44, 3) := by decide +kernel
theorem dX3_ahead_11 : decode cX3_ahead 11 = .ok (.iload_n 1, 1) := by decide +kernel
theorem dX3_ahead_12 : decode cX3_ahead 12 = .ok (.iload 4, 2) := by decide +kernel
theorem dX3_ahead_14 : decode cX3_ahead 14 = .ok (.iload_n 2, 1) := by decide +kernel
theorem dX3_ahead_15 : decode cX3_ahead 15 = .ok (.imul, 1) := by decide +kernel
theorem dX3_ahead_16 : decode cX3_ahead 16 = .ok (.isub, 1) := by decide +kernel
theorem dX3_ahead_17 : decode cX3_ahead 17 = .ok (.istore 5, 2) := by decide +kernel
theorem dX3_ahead_19 : decode cX3_ahead 19 = .ok (.iload_n 3, 1) := by decide +kernel
theorem dX3_ahead_20 : decode cX3_ahead 20 = .ok (.iload 5, 2) := by decide +kernel
theorem dX3_ahead_22 : decode cX3_ahead 22 = .ok (.ifCond .lt 11, 3) := by decide +kernel
theorem dX3_ahead_25 : decode cX3_ahead 25 = .ok (.iload 5, 2) := by decide +kernel
theorem dX3_ahead_27 : decode cX3_ahead 27 = .ok (.sipush 800, 3) := by decide +kernel
theorem dX3_ahead_30 : decode cX3_ahead 30 = .ok (.if_icmp .lt 7, 3) := by decide +kernel
theorem dX3_ahead_33 : decode cX3_ahead 33 = .ok (.iconst 0, 1) := by decide +kernel
theorem dX3_ahead_34 : decode cX3_ahead 34 = .ok (.goto 10, 3) := by decide +kernel
theorem dX3_ahead_37 : decode cX3_ahead 37 = .ok (.aload_n 0, 1) := by decide +kernel
theorem dX3_ahead_38 : decode cX3_ahead 38 = .ok (.getfield 9, 3) := by decide +kernel
theorem dX3_ahead_41 : decode cX3_ahead 41 = .ok (.iload 5, 2) := by decide +kernel
theorem dX3_ahead_43 : decode cX3_ahead 43 = .ok (.iaload, 1) := by decide +kernel
theorem dX3_ahead_44 : decode cX3_ahead 44 = .ok (.iadd, 1) := by decide +kernel
theorem dX3_ahead_45 : decode cX3_ahead 45 = .ok (.istore_n 3, 1) := by decide +kernel
theorem dX3_ahead_46 : decode cX3_ahead 46 = .ok (.iinc 4 1, 3) := by decide +kernel
theorem dX3_ahead_49 : decode cX3_ahead 49 = .ok (.goto (-44), 3) := by decide +kernel
theorem dX3_ahead_52 : decode cX3_ahead 52 = .ok (.iload_n 3, 1) := by decide +kernel
theorem dX3_ahead_53 : decode cX3_ahead 53 = .ok (.iconst 4, 1) := by decide +kernel
theorem dX3_ahead_54 : decode cX3_ahead 54 = .ok (.invokestatic 15, 3) := by decide +kernel
theorem dX3_ahead_57 : decode cX3_ahead 57 = .ok (.ireturn, 1) := by decide +kernel
theorem dX3_settle_0 : decode cX3_settle 0 = .ok (.aload_n 2, 1) := by decide +kernel
theorem dX3_settle_1 : decode cX3_settle 1 = .ok (.iload_n 1, 1) := by decide +kernel
theorem dX3_settle_2 : decode cX3_settle 2 = .ok (.invokevirtual 19, 3) := by decide +kernel
theorem dX3_settle_5 : decode cX3_settle 5 = .ok (.istore_n 3, 1) := by decide +kernel
theorem dX3_settle_6 : decode cX3_settle 6 = .ok (.aload_n 2, 1) := by decide +kernel
theorem dX3_settle_7 : decode cX3_settle 7 = .ok (.iload_n 1, 1) := by decide +kernel
theorem dX3_settle_8 : decode cX3_settle 8 = .ok (.invokevirtual 25, 3) := by decide +kernel
theorem dX3_settle_11 : decode cX3_settle 11 = .ok (.istore 4, 2) := by decide +kernel
theorem dX3_settle_13 : decode cX3_settle 13 = .ok (.iconst 0, 1) := by decide +kernel
theorem dX3_settle_14 : decode cX3_settle 14 = .ok (.istore 5, 2) := by decide +kernel
theorem dX3_settle_16 : decode cX3_settle 16 = .ok (.iconst 0, 1) := by decide +kernel
theorem dX3_settle_17 : decode cX3_settle 17 = .ok (.istore 6, 2) := by decide +kernel
theorem dX3_settle_19 : decode cX3_settle 19 = .ok (.iload 6, 2) := by decide +kernel
theorem dX3_settle_21 : decode cX3_settle 21 = .ok (.iload_n 3, 1) := by decide +kernel
theorem dX3_settle_22 : decode cX3_settle 22 = .ok (.if_icmp .ge 28, 3) := by decide +kernel
theorem dX3_settle_25 : decode cX3_settle 25 = .ok (.iload 5, 2) := by decide +kernel
theorem dX3_settle_27 : decode cX3_settle 27 = .ok (.aload_n 2, 1) := by decide +kernel
theorem dX3_settle_28 : decode cX3_settle 28 = .ok (.iload 4, 2) := by decide +kernel
theorem dX3_settle_30 : decode cX3_settle 30 = .ok (.iload 6, 2) := by decide +kernel
theorem dX3_settle_32 : decode cX3_settle 32 = .ok (.aload_n 2, 1) := by decide +kernel
theorem dX3_settle_33 : decode cX3_settle 33 = .ok (.getfield 28, 3) := by decide +kernel
theorem dX3_settle_36 : decode cX3_settle 36 = .ok (.imul, 1) := by decide +kernel
theorem dX3_settle_37 : decode cX3_settle 37 = .ok (.iadd, 1) := by decide +kernel
theorem dX3_settle_38 : decode cX3_settle 38 = .ok (.invokevirtual 32, 3) := by decide +kernel
theorem dX3_settle_41 : decode cX3_settle 41 = .ok (.iadd, 1) := by decide +kernel
theorem dX3_settle_42 : decode cX3_settle 42 = .ok (.istore 5, 2) := by decide +kernel
theorem dX3_settle_44 : decode cX3_settle 44 = .ok (.iinc 6 1, 3) := by decide +kernel
theorem dX3_settle_47 : decode cX3_settle 47 = .ok (.goto (-28), 3) := by decide +kernel
theorem dX3_settle_50 : decode cX3_settle 50 = .ok (.iload_n 1, 1) := by decide +kernel
theorem dX3_settle_51 : decode cX3_settle 51 = .ok (.ifCond .lt 22, 3) := by decide +kernel
theorem dX3_settle_54 : decode cX3_settle 54 = .ok (.iload_n 1, 1) := by decide +kernel
theorem dX3_settle_55 : decode cX3_settle 55 = .ok (.sipush 800, 3) := by decide +kernel
theorem dX3_settle_58 : decode cX3_settle 58 = .ok (.if_icmp .ge 15, 3) := by decide +kernel
theorem dX3_settle_61 : decode cX3_settle 61 = .ok (.aload_n 0, 1) := by decide +kernel
theorem dX3_settle_62 : decode cX3_settle 62 = .ok (.getfield 9, 3) := by decide +kernel
theorem dX3_settle_65 : decode cX3_settle 65 = .ok (.iload_n 1, 1) := by decide +kernel
theorem dX3_settle_66 : decode cX3_settle 66 = .ok (.iload 5, 2) := by decide +kernel
theorem dX3_settle_68 : decode cX3_settle 68 = .ok (.iload_n 3, 1) := by decide +kernel
theorem dX3_settle_69 : decode cX3_settle 69 = .ok (.invokestatic 15, 3) := by decide +kernel
theorem dX3_settle_72 : decode cX3_settle 72 = .ok (.iastore, 1) := by decide +kernel
theorem dX3_settle_73 : decode cX3_settle 73 = .ok (.return_, 1) := by decide +kernel
theorem dX4_init_0 : decode cX4_init 0 = .ok (.aload_n 0, 1) := by decide +kernel
theorem dX4_init_1 : decode cX4_init 1 = .ok (.invokespecial 3, 3) := by decide +kernel
theorem dX4_init_4 : decode cX4_init 4 = .ok (.aload_n 0, 1) := by decide +kernel
theorem dX4_init_5 : decode cX4_init 5 = .ok (.sipush 800, 3) := by decide +kernel
theorem dX4_init_8 : decode cX4_init 8 = .ok (.newarray .int, 2) := by decide +kernel
theorem dX4_init_10 : decode cX4_init 10 = .ok (.putfield 9, 3) := by decide +kernel
theorem dX4_init_13 : decode cX4_init 13 = .ok (.aload_n 0, 1) := by decide +kernel
theorem dX4_init_14 : decode cX4_init 14 = .ok (.iload_n 1, 1) := by decide +kernel
theorem dX4_init_15 : decode cX4_init 15 = .ok (.putfield 15, 3) := by decide +kernel
theorem dX4_init_18 : decode cX4_init 18 = .ok (.aload_n 0, 1) := by decide +kernel
theorem dX4_init_19 : decode cX4_init 19 = .ok (.iload_n 2, 1) := by decide +kernel
theorem dX4_init_20 : decode cX4_init 20 = .ok (.putfield 19, 3) := by decide +kernel
theorem dX4_init_23 : decode cX4_init 23 = .ok (.return_, 1) := by decide +kernel
theorem dX4_restart_0 : decode cX4_restart 0 = .ok (.aload_n 0, 1) := by decide +kernel
theorem dX4_restart_1 : decode cX4_restart 1 = .ok (.iload_n 1, 1) := by decide +kernel
theorem dX4_restart_2 : decode cX4_restart 2 = .ok (.putfield 15, 3) := by decide +kernel
theorem dX4_restart_5 : decode cX4_restart 5 = .ok (.aload_n 0, 1) := by decide +kernel
theorem dX4_restart_6 : decode cX4_restart 6 = .ok (.iload_n 2, 1) := by decide +kernel
theorem dX4_restart_7 : decode cX4_restart 7 = .ok (.putfield 19, 3) := by decide +kernel
theorem dX4_restart_10 : decode cX4_restart 10 = .ok (.aload_n 0, 1) := by decide +kernel
theorem dX4_restart_11 : decode cX4_restart 11 = .ok (.iconst 0, 1) := by decide +kernel
theorem dX4_restart_12 : decode cX4_restart 12 = .ok (.putfield 22, 3) := by decide +kernel
theorem dX4_restart_15 : decode cX4_restart 15 = .ok (.return_, 1) := by decide +kernel
theorem dX4_lay_0 : decode cX4_lay 0 = .ok (.aload_n 0, 1) := by decide +kernel
theorem dX4_lay_1 : decode cX4_lay 1 = .ok (.iload_n 1, 1) := by decide +kernel
theorem dX4_lay_2 : decode cX4_lay 2 = .ok (.iload_n 2, 1) := by decide +kernel
theorem dX4_lay_3 : decode cX4_lay 3 = .ok (.invokevirtual 25, 3) := by decide +kernel
theorem dX4_lay_6 : decode cX4_lay 6 = .ok (.aload_n 0, 1) := by decide +kernel
theorem dX4_lay_7 : decode cX4_lay 7 = .ok (.iload_n 3, 1) := by decide +kernel
theorem dX4_lay_8 : decode cX4_lay 8 = .ok (.iload_n 1, 1) := by decide +kernel
theorem dX4_lay_9 : decode cX4_lay 9 = .ok (.imul, 1) := by decide +kernel
theorem dX4_lay_10 : decode cX4_lay 10 = .ok (.sipush 800, 3) := by decide +kernel
theorem dX4_lay_13 : decode cX4_lay 13 = .ok (.invokestatic 29, 3) := by decide +kernel
theorem dX4_lay_16 : decode cX4_lay 16 = .ok (.putfield 22, 3) := by decide +kernel
theorem dX4_lay_19 : decode cX4_lay 19 = .ok (.return_, 1) := by decide +kernel
theorem dX4_append_0 : decode cX4_append 0 = .ok (.aload_n 0, 1) := by decide +kernel
theorem dX4_append_1 : decode cX4_append 1 = .ok (.getfield 22, 3) := by decide +kernel
theorem dX4_append_4 : decode cX4_append 4 = .ok (.aload_n 0, 1) := by decide +kernel
theorem dX4_append_5 : decode cX4_append 5 = .ok (.getfield 15, 3) := by decide +kernel
theorem dX4_append_8 : decode cX4_append 8 = .ok (.sipush 400, 3) := by decide +kernel
theorem dX4_append_11 : decode cX4_append 11 = .ok (.imul, 1) := by decide +kernel
theorem dX4_append_12 : decode cX4_append 12 = .ok (.if_icmp .ge 13, 3) := by decide +kernel
theorem dX4_append_15 : decode cX4_append 15 = .ok (.aload_n 0, 1) := by decide +kernel
theorem dX4_append_16 : decode cX4_append 16 = .ok (.getfield 22, 3) := by decide +kernel
theorem dX4_append_19 : decode cX4_append 19 = .ok (.sipush 800, 3) := by decide +kernel
theorem dX4_append_22 : decode cX4_append 22 = .ok (.if_icmp .lt 5, 3) := by decide +kernel
theorem dX4_append_25 : decode cX4_append 25 = .ok (.iconst 0, 1) := by decide +kernel
theorem dX4_append_26 : decode cX4_append 26 = .ok (.ireturn, 1) := by decide +kernel
theorem dX4_append_27 : decode cX4_append 27 = .ok (.aload_n 0, 1) := by decide +kernel
theorem dX4_append_28 : decode cX4_append 28 = .ok (.getfield 9, 3) := by decide +kernel
theorem dX4_append_31 : decode cX4_append 31 = .ok (.aload_n 0, 1) := by decide +kernel
theorem dX4_append_32 : decode cX4_append 32 = .ok (.getfield 22, 3) := by decide +kernel
theorem dX4_append_35 : decode cX4_append 35 = .ok (.iload_n 1, 1) := by decide +kernel
theorem dX4_append_36 : decode cX4_append 36 = .ok (.iastore, 1) := by decide +kernel
theorem dX4_append_37 : decode cX4_append 37 = .ok (.aload_n 0, 1) := by decide +kernel
theorem dX4_append_38 : decode cX4_append 38 = .ok (.dup, 1) := by decide +kernel
theorem dX4_append_39 : decode cX4_append 39 = .ok (.getfield 22, 3) := by decide +kernel
theorem dX4_append_42 : decode cX4_append 42 = .ok (.iconst 1, 1) := by decide +kernel
theorem dX4_append_43 : decode cX4_append 43 = .ok (.iadd, 1) := by decide +kernel
theorem dX4_append_44 : decode cX4_append 44 = .ok (.putfield 22, 3) := by decide +kernel
theorem dX4_append_47 : decode cX4_append 47 = .ok (.iconst 1, 1) := by decide +kernel
theorem dX4_append_48 : decode cX4_append 48 = .ok (.ireturn, 1) := by decide +kernel
theorem dX4_copyWhole_0 : decode cX4_copyWhole 0 = .ok (.aload_n 0, 1) := by decide +kernel
theorem dX4_copyWhole_1 : decode cX4_copyWhole 1 = .ok (.aload_n 1, 1) := by decide +kernel
theorem dX4_copyWhole_2 : decode cX4_copyWhole 2 = .ok (.getfield 15, 3) := by decide +kernel
theorem dX4_copyWhole_5 : decode cX4_copyWhole 5 = .ok (.aload_n 1, 1) := by decide +kernel
theorem dX4_copyWhole_6 : decode cX4_copyWhole 6 = .ok (.getfield 19, 3) := by decide +kernel
theorem dX4_copyWhole_9 : decode cX4_copyWhole 9 = .ok (.invokevirtual 25, 3) := by decide +kernel
theorem dX4_copyWhole_12 : decode cX4_copyWhole 12 = .ok (.aload_n 0, 1) := by decide +kernel
theorem dX4_copyWhole_13 : decode cX4_copyWhole 13 = .ok (.aload_n 1, 1) := by decide +kernel
theorem dX4_copyWhole_14 : decode cX4_copyWhole 14 = .ok (.invokevirtual 35, 3) := by decide +kernel
theorem dX4_copyWhole_17 : decode cX4_copyWhole 17 = .ok (.putfield 22, 3) := by decide +kernel
theorem dX4_copyWhole_20 : decode cX4_copyWhole 20 = .ok (.aload_n 1, 1) := by decide +kernel
theorem dX4_copyWhole_21 : decode cX4_copyWhole 21 = .ok (.getfield 9, 3) := by decide +kernel
theorem dX4_copyWhole_24 : decode cX4_copyWhole 24 = .ok (.iconst 0, 1) := by decide +kernel
theorem dX4_copyWhole_25 : decode cX4_copyWhole 25 = .ok (.aload_n 0, 1) := by decide +kernel
theorem dX4_copyWhole_26 : decode cX4_copyWhole 26 = .ok (.getfield 9, 3) := by decide +kernel
theorem dX4_copyWhole_29 : decode cX4_copyWhole 29 = .ok (.iconst 0, 1) := by decide +kernel
theorem dX4_copyWhole_30 : decode cX4_copyWhole 30 = .ok (.aload_n 0, 1) := by decide +kernel
theorem dX4_copyWhole_31 : decode cX4_copyWhole 31 = .ok (.getfield 22, 3) := by decide +kernel
theorem dX4_copyWhole_34 : decode cX4_copyWhole 34 = .ok (.invokestatic 39, 3) := by decide +kernel
theorem dX4_copyWhole_37 : decode cX4_copyWhole 37 = .ok (.return_, 1) := by decide +kernel
theorem dX4_each_0 : decode cX4_each 0 = .ok (.aload_n 0, 1) := by decide +kernel
theorem dX4_each_1 : decode cX4_each 1 = .ok (.getfield 15, 3) := by decide +kernel
theorem dX4_each_4 : decode cX4_each 4 = .ok (.iconst 1, 1) := by decide +kernel
theorem dX4_each_5 : decode cX4_each 5 = .ok (.if_icmp .ge 7, 3) := by decide +kernel
theorem dX4_each_8 : decode cX4_each 8 = .ok (.iconst 0, 1) := by decide +kernel
theorem dX4_each_9 : decode cX4_each 9 = .ok (.goto 12, 3) := by decide +kernel
theorem dX4_each_12 : decode cX4_each 12 = .ok (.aload_n 0, 1) := by decide +kernel
theorem dX4_each_13 : decode cX4_each 13 = .ok (.getfield 22, 3) := by decide +kernel
theorem dX4_each_16 : decode cX4_each 16 = .ok (.aload_n 0, 1) := by decide +kernel
theorem dX4_each_17 : decode cX4_each 17 = .ok (.getfield 15, 3) := by decide +kernel
theorem dX4_each_20 : decode cX4_each 20 = .ok (.idiv, 1) := by decide +kernel
theorem dX4_each_21 : decode cX4_each 21 = .ok (.ireturn, 1) := by decide +kernel
theorem dX4_wholeSize_0 : decode cX4_wholeSize 0 = .ok (.aload_n 0, 1) := by decide +kernel
theorem dX4_wholeSize_1 : decode cX4_wholeSize 1 = .ok (.invokevirtual 45, 3) := by decide +kernel
theorem dX4_wholeSize_4 : decode cX4_wholeSize 4 = .ok (.aload_n 0, 1) := by decide +kernel
theorem dX4_wholeSize_5 : decode cX4_wholeSize 5 = .ok (.getfield 15, 3) := by decide +kernel
theorem dX4_wholeSize_8 : decode cX4_wholeSize 8 = .ok (.imul, 1) := by decide +kernel
theorem dX4_wholeSize_9 : decode cX4_wholeSize 9 = .ok (.ireturn, 1) := by decide +kernel
theorem dX4_hasSameWhole_0 : decode cX4_hasSameWhole 0 = .ok (.aload_n 0, 1) := by decide +kernel
theorem dX4_hasSameWhole_1 : decode cX4_hasSameWhole 1 = .ok (.getfield 15, 3) := by decide +kernel
theorem dX4_hasSameWhole_4 : decode cX4_hasSameWhole 4 = .ok (.aload_n 1, 1) := by decide +kernel
theorem dX4_hasSameWhole_5 : decode cX4_hasSameWhole 5 = .ok (.getfield 15, 3) := by decide +kernel
theorem dX4_hasSameWhole_8 : decode cX4_hasSameWhole 8 = .ok (.if_icmp .ne 14, 3) := by decide +kernel
theorem dX4_hasSameWhole_11 : decode cX4_hasSameWhole 11 = .ok (.aload_n 0, 1) := by decide +kernel
theorem dX4_hasSameWhole_12 : decode cX4_hasSameWhole 12 = .ok (.invokevirtual 35, 3) := by decide +kernel
theorem dX4_hasSameWhole_15 : decode cX4_hasSameWhole 15 = .ok (.aload_n 1, 1) := by decide +kernel
theorem dX4_hasSameWhole_16 : decode cX4_hasSameWhole 16 = .ok (.getfield 22, 3) := by decide +kernel
theorem dX4_hasSameWhole_19 : decode cX4_hasSameWhole 19 = .ok (.if_icmp .eq 5, 3) := by decide +kernel
theorem dX4_hasSameWhole_22 : decode cX4_hasSameWhole 22 = .ok (.iconst 0, 1) := by decide +kernel
theorem dX4_hasSameWhole_23 : decode cX4_hasSameWhole 23 = .ok (.ireturn, 1) := by decide +kernel
theorem dX4_hasSameWhole_24 : decode cX4_hasSameWhole 24 = .ok (.iconst 0, 1) := by decide +kernel
theorem dX4_hasSameWhole_25 : decode cX4_hasSameWhole 25 = .ok (.istore_n 2, 1) := by decide +kernel
theorem dX4_hasSameWhole_26 : decode cX4_hasSameWhole 26 = .ok (.iload_n 2, 1) := by decide +kernel
theorem dX4_hasSameWhole_27 : decode cX4_hasSameWhole 27 = .ok (.aload_n 1, 1) := by decide +kernel
theorem dX4_hasSameWhole_28 : decode cX4_hasSameWhole 28 = .ok (.getfield 22, 3) := by decide +kernel
theorem dX4_hasSameWhole_31 : decode cX4_hasSameWhole 31 = .ok (.if_icmp .ge 26, 3) := by decide +kernel
theorem dX4_hasSameWhole_34 : decode cX4_hasSameWhole 34 = .ok (.aload_n 0, 1) := by decide +kernel
theorem dX4_hasSameWhole_35 : decode cX4_hasSameWhole 35 = .ok (.getfield 9, 3) := by decide +kernel
theorem dX4_hasSameWhole_38 : decode cX4_hasSameWhole 38 = .ok (.iload_n 2, 1) := by decide +kernel
theorem dX4_hasSameWhole_39 : decode cX4_hasSameWhole 39 = .ok (.iaload, 1) := by decide +kernel
theorem dX4_hasSameWhole_40 : decode cX4_hasSameWhole 40 = .ok (.aload_n 1, 1) := by decide +kernel
theorem dX4_hasSameWhole_41 : decode cX4_hasSameWhole 41 = .ok (.getfield 9, 3) := by decide +kernel
theorem dX4_hasSameWhole_44 : decode cX4_hasSameWhole 44 = .ok (.iload_n 2, 1) := by decide +kernel
theorem dX4_hasSameWhole_45 : decode cX4_hasSameWhole 45 = .ok (.iaload, 1) := by decide +kernel
theorem dX4_hasSameWhole_46 : decode cX4_hasSameWhole 46 = .ok (.if_icmp .eq 5, 3) := by decide +kernel
theorem dX4_hasSameWhole_49 : decode cX4_hasSameWhole 49 = .ok (.iconst 0, 1) := by decide +kernel
theorem dX4_hasSameWhole_50 : decode cX4_hasSameWhole 50 = .ok (.ireturn, 1) := by decide +kernel
theorem dX4_hasSameWhole_51 : decode cX4_hasSameWhole 51 = .ok (.iinc 2 1, 3) := by decide +kernel
theorem dX4_hasSameWhole_54 : decode cX4_hasSameWhole 54 = .ok (.goto (-28), 3) := by decide +kernel
theorem dX4_hasSameWhole_57 : decode cX4_hasSameWhole 57 = .ok (.iconst 1, 1) := by decide +kernel
theorem dX4_hasSameWhole_58 : decode cX4_hasSameWhole 58 = .ok (.ireturn, 1) := by decide +kernel
theorem dX4_blockCount_0 : decode cX4_blockCount 0 = .ok (.aload_n 0, 1) := by decide +kernel
theorem dX4_blockCount_1 : decode cX4_blockCount 1 = .ok (.getfield 19, 3) := by decide +kernel
theorem dX4_blockCount_4 : decode cX4_blockCount 4 = .ok (.iconst 1, 1) := by decide +kernel
theorem dX4_blockCount_5 : decode cX4_blockCount 5 = .ok (.if_icmp .ge 7, 3) := by decide +kernel
theorem dX4_blockCount_8 : decode cX4_blockCount 8 = .ok (.iconst 0, 1) := by decide +kernel
theorem dX4_blockCount_9 : decode cX4_blockCount 9 = .ok (.goto 24, 3) := by decide +kernel
theorem dX4_blockCount_12 : decode cX4_blockCount 12 = .ok (.aload_n 0, 1) := by decide +kernel
theorem dX4_blockCount_13 : decode cX4_blockCount 13 = .ok (.invokevirtual 45, 3) := by decide +kernel
theorem dX4_blockCount_16 : decode cX4_blockCount 16 = .ok (.aload_n 0, 1) := by decide +kernel
theorem dX4_blockCount_17 : decode cX4_blockCount 17 = .ok (.getfield 19, 3) := by decide +kernel
theorem dX4_blockCount_20 : decode cX4_blockCount 20 = .ok (.iadd, 1) := by decide +kernel
theorem dX4_blockCount_21 : decode cX4_blockCount 21 = .ok (.iconst 1, 1) := by decide +kernel
theorem dX4_blockCount_22 : decode cX4_blockCount 22 = .ok (.isub, 1) := by decide +kernel
theorem dX4_blockCount_23 : decode cX4_blockCount 23 = .ok (.aload_n 0, 1) := by decide +kernel
theorem dX4_blockCount_24 : decode cX4_blockCount 24 = .ok (.getfield 19, 3) := by decide +kernel
theorem dX4_blockCount_27 : decode cX4_blockCount 27 = .ok (.idiv, 1) := by decide +kernel
theorem dX4_blockCount_28 : decode cX4_blockCount 28 = .ok (.aload_n 0, 1) := by decide +kernel
theorem dX4_blockCount_29 : decode cX4_blockCount 29 = .ok (.getfield 15, 3) := by decide +kernel
theorem dX4_blockCount_32 : decode cX4_blockCount 32 = .ok (.imul, 1) := by decide +kernel
theorem dX4_blockCount_33 : decode cX4_blockCount 33 = .ok (.ireturn, 1) := by decide +kernel
theorem dX4_channelOf_0 : decode cX4_channelOf 0 = .ok (.aload_n 0, 1) := by decide +kernel
theorem dX4_channelOf_1 : decode cX4_channelOf 1 = .ok (.getfield 15, 3) := by decide +kernel
theorem dX4_channelOf_4 : decode cX4_channelOf 4 = .ok (.iconst 1, 1) := by decide +kernel
theorem dX4_channelOf_5 : decode cX4_channelOf 5 = .ok (.if_icmp .ge 7, 3) := by decide +kernel
theorem dX4_channelOf_8 : decode cX4_channelOf 8 = .ok (.iconst 0, 1) := by decide +kernel
theorem dX4_channelOf_9 : decode cX4_channelOf 9 = .ok (.goto 9, 3) := by decide +kernel
theorem dX4_channelOf_12 : decode cX4_channelOf 12 = .ok (.iload_n 1, 1) := by decide +kernel
theorem dX4_channelOf_13 : decode cX4_channelOf 13 = .ok (.aload_n 0, 1) := by decide +kernel
theorem dX4_channelOf_14 : decode cX4_channelOf 14 = .ok (.getfield 15, 3) := by decide +kernel
theorem dX4_channelOf_17 : decode cX4_channelOf 17 = .ok (.irem, 1) := by decide +kernel
theorem dX4_channelOf_18 : decode cX4_channelOf 18 = .ok (.ireturn, 1) := by decide +kernel
theorem dX4_samplesBefore_0 : decode cX4_samplesBefore 0 = .ok (.aload_n 0, 1) := by decide +kernel
theorem dX4_samplesBefore_1 : decode cX4_samplesBefore 1 = .ok (.getfield 15, 3) := by decide +kernel
theorem dX4_samplesBefore_4 : decode cX4_samplesBefore 4 = .ok (.iconst 1, 1) := by decide +kernel
theorem dX4_samplesBefore_5 : decode cX4_samplesBefore 5 = .ok (.if_icmp .ge 7, 3) := by decide +kernel
theorem dX4_samplesBefore_8 : decode cX4_samplesBefore 8 = .ok (.iconst 0, 1) := by decide +kernel
theorem dX4_samplesBefore_9 : decode cX4_samplesBefore 9 = .ok (.goto 14, 3) := by decide +kernel
theorem dX4_samplesBefore_12 : decode cX4_samplesBefore 12 = .ok (.iload_n 1, 1) := by decide +kernel
theorem dX4_samplesBefore_13 : decode cX4_samplesBefore 13 = .ok (.aload_n 0, 1) := by decide +kernel
theorem dX4_samplesBefore_14 : decode cX4_samplesBefore 14 = .ok (.getfield 15, 3) := by decide +kernel
theorem dX4_samplesBefore_17 : decode cX4_samplesBefore 17 = .ok (.idiv, 1) := by decide +kernel
theorem dX4_samplesBefore_18 : decode cX4_samplesBefore 18 = .ok (.aload_n 0, 1) := by decide +kernel
theorem dX4_samplesBefore_19 : decode cX4_samplesBefore 19 = .ok (.getfield 19, 3) := by decide +kernel
theorem dX4_samplesBefore_22 : decode cX4_samplesBefore 22 = .ok (.imul, 1) := by decide +kernel
theorem dX4_samplesBefore_23 : decode cX4_samplesBefore 23 = .ok (.ireturn, 1) := by decide +kernel
theorem dX4_firstPlace_0 : decode cX4_firstPlace 0 = .ok (.aload_n 0, 1) := by decide +kernel
theorem dX4_firstPlace_1 : decode cX4_firstPlace 1 = .ok (.iload_n 1, 1) := by decide +kernel
theorem dX4_firstPlace_2 : decode cX4_firstPlace 2 = .ok (.invokevirtual 48, 3) := by decide +kernel
theorem dX4_firstPlace_5 : decode cX4_firstPlace 5 = .ok (.aload_n 0, 1) := by decide +kernel
theorem dX4_firstPlace_6 : decode cX4_firstPlace 6 = .ok (.getfield 15, 3) := by decide +kernel
theorem dX4_firstPlace_9 : decode cX4_firstPlace 9 = .ok (.imul, 1) := by decide +kernel
theorem dX4_firstPlace_10 : decode cX4_firstPlace 10 = .ok (.aload_n 0, 1) := by decide +kernel
theorem dX4_firstPlace_11 : decode cX4_firstPlace 11 = .ok (.iload_n 1, 1) := by decide +kernel
theorem dX4_firstPlace_12 : decode cX4_firstPlace 12 = .ok (.invokevirtual 52, 3) := by decide +kernel
theorem dX4_firstPlace_15 : decode cX4_firstPlace 15 = .ok (.iadd, 1) := by decide +kernel
theorem dX4_firstPlace_16 : decode cX4_firstPlace 16 = .ok (.ireturn, 1) := by decide +kernel
theorem dX4_blockSize_0 : decode cX4_blockSize 0 = .ok (.aload_n 0, 1) := by decide +kernel
theorem dX4_blockSize_1 : decode cX4_blockSize 1 = .ok (.getfield 19, 3) := by decide +kernel
theorem dX4_blockSize_4 : decode cX4_blockSize 4 = .ok (.aload_n 0, 1) := by decide +kernel
theorem dX4_blockSize_5 : decode cX4_blockSize 5 = .ok (.invokevirtual 45, 3) := by decide +kernel
theorem dX4_blockSize_8 : decode cX4_blockSize 8 = .ok (.aload_n 0, 1) := by decide +kernel
theorem dX4_blockSize_9 : decode cX4_blockSize 9 = .ok (.iload_n 1, 1) := by decide +kernel
theorem dX4_blockSize_10 : decode cX4_blockSize 10 = .ok (.invokevirtual 48, 3) := by decide +kernel
theorem dX4_blockSize_13 : decode cX4_blockSize 13 = .ok (.isub, 1) := by decide +kernel
theorem dX4_blockSize_14 : decode cX4_blockSize 14 = .ok (.invokestatic 29, 3) := by decide +kernel
theorem dX4_blockSize_17 : decode cX4_blockSize 17 = .ok (.ireturn, 1) := by decide +kernel
theorem dX4_sampleAt_0 : decode cX4_sampleAt 0 = .ok (.iload_n 1, 1) := by decide +kernel
theorem dX4_sampleAt_1 : decode cX4_sampleAt 1 = .ok (.ifCond .lt 11, 3) := by decide +kernel
theorem dX4_sampleAt_4 : decode cX4_sampleAt 4 = .ok (.iload_n 1, 1) := by decide +kernel
theorem dX4_sampleAt_5 : decode cX4_sampleAt 5 = .ok (.aload_n 0, 1) := by decide +kernel
theorem dX4_sampleAt_6 : decode cX4_sampleAt 6 = .ok (.getfield 22, 3) := by decide +kernel
theorem dX4_sampleAt_9 : decode cX4_sampleAt 9 = .ok (.if_icmp .lt 7, 3) := by decide +kernel
theorem dX4_sampleAt_12 : decode cX4_sampleAt 12 = .ok (.iconst 0, 1) := by decide +kernel
theorem dX4_sampleAt_13 : decode cX4_sampleAt 13 = .ok (.goto 9, 3) := by decide +kernel
theorem dX4_sampleAt_16 : decode cX4_sampleAt 16 = .ok (.aload_n 0, 1) := by decide +kernel
theorem dX4_sampleAt_17 : decode cX4_sampleAt 17 = .ok (.getfield 9, 3) := by decide +kernel
theorem dX4_sampleAt_20 : decode cX4_sampleAt 20 = .ok (.iload_n 1, 1) := by decide +kernel
theorem dX4_sampleAt_21 : decode cX4_sampleAt 21 = .ok (.iaload, 1) := by decide +kernel
theorem dX4_sampleAt_22 : decode cX4_sampleAt 22 = .ok (.ireturn, 1) := by decide +kernel
theorem dX4_setAt_0 : decode cX4_setAt 0 = .ok (.iload_n 1, 1) := by decide +kernel
theorem dX4_setAt_1 : decode cX4_setAt 1 = .ok (.ifCond .lt 18, 3) := by decide +kernel
theorem dX4_setAt_4 : decode cX4_setAt 4 = .ok (.iload_n 1, 1) := by decide +kernel
theorem dX4_setAt_5 : decode cX4_setAt 5 = .ok (.aload_n 0, 1) := by decide +kernel
theorem dX4_setAt_6 : decode cX4_setAt 6 = .ok (.getfield 22, 3) := by decide +kernel
theorem dX4_setAt_9 : decode cX4_setAt 9 = .ok (.if_icmp .ge 10, 3) := by decide +kernel
theorem dX4_setAt_12 : decode cX4_setAt 12 = .ok (.aload_n 0, 1) := by decide +kernel
theorem dX4_setAt_13 : decode cX4_setAt 13 = .ok (.getfield 9, 3) := by decide +kernel
theorem dX4_setAt_16 : decode cX4_setAt 16 = .ok (.iload_n 1, 1) := by decide +kernel
theorem dX4_setAt_17 : decode cX4_setAt 17 = .ok (.iload_n 2, 1) := by decide +kernel
theorem dX4_setAt_18 : decode cX4_setAt 18 = .ok (.iastore, 1) := by decide +kernel
theorem dX4_setAt_19 : decode cX4_setAt 19 = .ok (.return_, 1) := by decide +kernel
theorem dX4_toldAhead_0 : decode cX4_toldAhead 0 = .ok (.aload_n 0, 1) := by decide +kernel
theorem dX4_toldAhead_1 : decode cX4_toldAhead 1 = .ok (.iload_n 2, 1) := by decide +kernel
theorem dX4_toldAhead_2 : decode cX4_toldAhead 2 = .ok (.aload_n 0, 1) := by decide +kernel
theorem dX4_toldAhead_3 : decode cX4_toldAhead 3 = .ok (.getfield 15, 3) := by decide +kernel
theorem dX4_toldAhead_6 : decode cX4_toldAhead 6 = .ok (.isub, 1) := by decide +kernel
theorem dX4_toldAhead_7 : decode cX4_toldAhead 7 = .ok (.invokevirtual 55, 3) := by decide +kernel
theorem dX4_toldAhead_10 : decode cX4_toldAhead 10 = .ok (.istore 4, 2) := by decide +kernel
theorem dX4_toldAhead_12 : decode cX4_toldAhead 12 = .ok (.aload_n 0, 1) := by decide +kernel
theorem dX4_toldAhead_13 : decode cX4_toldAhead 13 = .ok (.iload_n 2, 1) := by decide +kernel
theorem dX4_toldAhead_14 : decode cX4_toldAhead 14 = .ok (.iconst 2, 1) := by decide +kernel
theorem dX4_toldAhead_15 : decode cX4_toldAhead 15 = .ok (.aload_n 0, 1) := by decide +kernel
theorem dX4_toldAhead_16 : decode cX4_toldAhead 16 = .ok (.getfield 15, 3) := by decide +kernel
theorem dX4_toldAhead_19 : decode cX4_toldAhead 19 = .ok (.imul, 1) := by decide +kernel
theorem dX4_toldAhead_20 : decode cX4_toldAhead 20 = .ok (.isub, 1) := by decide +kernel
theorem dX4_toldAhead_21 : decode cX4_toldAhead 21 = .ok (.invokevirtual 55, 3) := by decide +kernel
theorem dX4_toldAhead_24 : decode cX4_toldAhead 24 = .ok (.istore 5, 2) := by decide +kernel
theorem dX4_toldAhead_26 : decode cX4_toldAhead 26 = .ok (.aload_n 0, 1) := by decide +kernel
theorem dX4_toldAhead_27 : decode cX4_toldAhead 27 = .ok (.iload_n 2, 1) := by decide +kernel
theorem dX4_toldAhead_28 : decode cX4_toldAhead 28 = .ok (.iconst 3, 1) := by decide +kernel
theorem dX4_toldAhead_29 : decode cX4_toldAhead 29 = .ok (.aload_n 0, 1) := by decide +kernel
theorem dX4_toldAhead_30 : decode cX4_toldAhead 30 = .ok (.getfield 15, 3) := by decide +kernel
theorem dX4_toldAhead_33 : decode cX4_toldAhead 33 = .ok (.imul, 1) := by decide +kernel
theorem dX4_toldAhead_34 : decode cX4_toldAhead 34 = .ok (.isub, 1) := by decide +kernel
theorem dX4_toldAhead_35 : decode cX4_toldAhead 35 = .ok (.invokevirtual 55, 3) := by decide +kernel
theorem dX4_toldAhead_38 : decode cX4_toldAhead 38 = .ok (.istore 6, 2) := by decide +kernel
theorem dX4_toldAhead_40 : decode cX4_toldAhead 40 = .ok (.iload_n 1, 1) := by decide +kernel
theorem dX4_toldAhead_41 : decode cX4_toldAhead 41 = .ok (.tableswitch 51 1 3 #[27, 30, 38], 27) := by decide +kernel
theorem dX4_toldAhead_68 : decode cX4_toldAhead 68 = .ok (.iload 4, 2) := by decide +kernel
theorem dX4_toldAhead_70 : decode cX4_toldAhead 70 = .ok (.ireturn, 1) := by decide +kernel
theorem dX4_toldAhead_71 : decode cX4_toldAhead 71 = .ok (.iconst 2, 1) := by decide +kernel
theorem dX4_toldAhead_72 : decode cX4_toldAhead 72 = .ok (.iload 4, 2) := by decide +kernel
theorem dX4_toldAhead_74 : decode cX4_toldAhead 74 = .ok (.imul, 1) := by decide +kernel
theorem dX4_toldAhead_75 : decode cX4_toldAhead 75 = .ok (.iload 5, 2) := by decide +kernel
theorem dX4_toldAhead_77 : decode cX4_toldAhead 77 = .ok (.isub, 1) := by decide +kernel
theorem dX4_toldAhead_78 : decode cX4_toldAhead 78 = .ok (.ireturn, 1) := by decide +kernel
theorem dX4_toldAhead_79 : decode cX4_toldAhead 79 = .ok (.iconst 3, 1) := by decide +kernel
theorem dX4_toldAhead_80 : decode cX4_toldAhead 80 = .ok (.iload 4, 2) := by decide +kernel
theorem dX4_toldAhead_82 : decode cX4_toldAhead 82 = .ok (.imul, 1) := by decide +kernel
theorem dX4_toldAhead_83 : decode cX4_toldAhead 83 = .ok (.iconst 3, 1) := by decide +kernel
theorem dX4_toldAhead_84 : decode cX4_toldAhead 84 = .ok (.iload 5, 2) := by decide +kernel
theorem dX4_toldAhead_86 : decode cX4_toldAhead 86 = .ok (.imul, 1) := by decide +kernel
theorem dX4_toldAhead_87 : decode cX4_toldAhead 87 = .ok (.isub, 1) := by decide +kernel
theorem dX4_toldAhead_88 : decode cX4_toldAhead 88 = .ok (.iload 6, 2) := by decide +kernel
theorem dX4_toldAhead_90 : decode cX4_toldAhead 90 = .ok (.iadd, 1) := by decide +kernel
theorem dX4_toldAhead_91 : decode cX4_toldAhead 91 = .ok (.ireturn, 1) := by decide +kernel
theorem dX4_toldAhead_92 : decode cX4_toldAhead 92 = .ok (.iload_n 3, 1) := by decide +kernel
theorem dX4_toldAhead_93 : decode cX4_toldAhead 93 = .ok (.ireturn, 1) := by decide +kernel
theorem dX5_init_0 : decode cX5_init 0 = .ok (.aload_n 0, 1) := by decide +kernel
theorem dX5_init_1 : decode cX5_init 1 = .ok (.invokespecial 3, 3) := by decide +kernel
theorem dX5_init_4 : decode cX5_init 4 = .ok (.aload_n 0, 1) := by decide +kernel
theorem dX5_init_5 : decode cX5_init 5 = .ok (.new 9, 3) := by decide +kernel
theorem dX5_init_8 : decode cX5_init 8 = .ok (.dup, 1) := by decide +kernel
theorem dX5_init_9 : decode cX5_init 9 = .ok (.invokespecial 11, 3) := by decide +kernel
theorem dX5_init_12 : decode cX5_init 12 = .ok (.putfield 12, 3) := by decide +kernel
theorem dX5_init_15 : decode cX5_init 15 = .ok (.aload_n 0, 1) := by decide +kernel
theorem dX5_init_16 : decode cX5_init 16 = .ok (.new 18, 3) := by decide +kernel
theorem dX5_init_19 : decode cX5_init 19 = .ok (.dup, 1) := by decide +kernel
theorem dX5_init_20 : decode cX5_init 20 = .ok (.invokespecial 20, 3) := by decide +kernel
theorem dX5_init_23 : decode cX5_init 23 = .ok (.putfield 21, 3) := by decide +kernel
theorem dX5_init_26 : decode cX5_init 26 = .ok (.aload_n 0, 1) := by decide +kernel
theorem dX5_init_27 : decode cX5_init 27 = .ok (.new 25, 3) := by decide +kernel
theorem dX5_init_30 : decode cX5_init 30 = .ok (.dup, 1) := by decide +kernel
theorem dX5_init_31 : decode cX5_init 31 = .ok (.iconst 0, 1) := by decide +kernel
theorem dX5_init_32 : decode cX5_init 32 = .ok (.iconst 0, 1) := by decide +kernel
theorem dX5_init_33 : decode cX5_init 33 = .ok (.invokespecial 27, 3) := by decide +kernel
theorem dX5_init_36 : decode cX5_init 36 = .ok (.putfield 30, 3) := by decide +kernel
theorem dX5_init_39 : decode cX5_init 39 = .ok (.aload_n 0, 1) := by decide +kernel
theorem dX5_init_40 : decode cX5_init 40 = .ok (.new 25, 3) := by decide +kernel
theorem dX5_init_43 : decode cX5_init 43 = .ok (.dup, 1) := by decide +kernel
theorem dX5_init_44 : decode cX5_init 44 = .ok (.iconst 0, 1) := by decide +kernel
theorem dX5_init_45 : decode cX5_init 45 = .ok (.iconst 0, 1) := by decide +kernel
theorem dX5_init_46 : decode cX5_init 46 = .ok (.invokespecial 27, 3) := by decide +kernel
theorem dX5_init_49 : decode cX5_init 49 = .ok (.putfield 34, 3) := by decide +kernel
theorem dX5_init_52 : decode cX5_init 52 = .ok (.aload_n 0, 1) := by decide +kernel
theorem dX5_init_53 : decode cX5_init 53 = .ok (.iconst (-1), 1) := by decide +kernel
theorem dX5_init_54 : decode cX5_init 54 = .ok (.putfield 37, 3) := by decide +kernel
theorem dX5_init_57 : decode cX5_init 57 = .ok (.return_, 1) := by decide +kernel
theorem dX5_parse_0 : decode cX5_parse 0 = .ok (.aload_n 0, 1) := by decide +kernel
theorem dX5_parse_1 : decode cX5_parse 1 = .ok (.getfield 21, 3) := by decide +kernel
theorem dX5_parse_4 : decode cX5_parse 4 = .ok (.invokevirtual 41, 3) := by decide +kernel
theorem dX5_parse_7 : decode cX5_parse 7 = .ok (.aload_n 0, 1) := by decide +kernel
theorem dX5_parse_8 : decode cX5_parse 8 = .ok (.iconst (-1), 1) := by decide +kernel
theorem dX5_parse_9 : decode cX5_parse 9 = .ok (.putfield 37, 3) := by decide +kernel
theorem dX5_parse_12 : decode cX5_parse 12 = .ok (.aload_n 0, 1) := by decide +kernel
theorem dX5_parse_13 : decode cX5_parse 13 = .ok (.invokevirtual 44, 3) := by decide +kernel
theorem dX5_parse_16 : decode cX5_parse 16 = .ok (.aload_n 0, 1) := by decide +kernel
theorem dX5_parse_17 : decode cX5_parse 17 = .ok (.invokevirtual 47, 3) := by decide +kernel
theorem dX5_parse_20 : decode cX5_parse 20 = .ok (.ifCond .eq 13, 3) := by decide +kernel
theorem dX5_parse_23 : decode cX5_parse 23 = .ok (.aload_n 0, 1) := by decide +kernel
theorem dX5_parse_24 : decode cX5_parse 24 = .ok (.getfield 34, 3) := by decide +kernel
theorem dX5_parse_27 : decode cX5_parse 27 = .ok (.invokevirtual 51, 3) := by decide +kernel
theorem dX5_parse_30 : decode cX5_parse 30 = .ok (.goto 4, 3) := by decide +kernel
theorem dX5_parse_33 : decode cX5_parse 33 = .ok (.iconst 0, 1) := by decide +kernel
theorem dX5_parse_34 : decode cX5_parse 34 = .ok (.istore_n 1, 1) := by decide +kernel
theorem dX5_parse_35 : decode cX5_parse 35 = .ok (.iconst 0, 1) := by decide +kernel
theorem dX5_parse_36 : decode cX5_parse 36 = .ok (.istore_n 2, 1) := by decide +kernel
theorem dX5_parse_37 : decode cX5_parse 37 = .ok (.iload_n 2, 1) := by decide +kernel
theorem dX5_parse_38 : decode cX5_parse 38 = .ok (.iload_n 1, 1) := by decide +kernel
theorem dX5_parse_39 : decode cX5_parse 39 = .ok (.if_icmp .ge 21, 3) := by decide +kernel
theorem dX5_parse_42 : decode cX5_parse 42 = .ok (.aload_n 0, 1) := by decide +kernel
theorem dX5_parse_43 : decode cX5_parse 43 = .ok (.invokevirtual 47, 3) := by decide +kernel
theorem dX5_parse_46 : decode cX5_parse 46 = .ok (.ifCond .eq 14, 3) := by decide +kernel
theorem dX5_parse_49 : decode cX5_parse 49 = .ok (.aload_n 0, 1) := by decide +kernel
theorem dX5_parse_50 : decode cX5_parse 50 = .ok (.iload_n 2, 1) := by decide +kernel
theorem dX5_parse_51 : decode cX5_parse 51 = .ok (.invokevirtual 55, 3) := by decide +kernel
theorem dX5_parse_54 : decode cX5_parse 54 = .ok (.iinc 2 1, 3) := by decide +kernel
theorem dX5_parse_57 : decode cX5_parse 57 = .ok (.goto (-20), 3) := by decide +kernel
theorem dX5_parse_60 : decode cX5_parse 60 = .ok (.aload_n 0, 1) := by decide +kernel
theorem dX5_parse_61 : decode cX5_parse 61 = .ok (.iconst 2, 1) := by decide +kernel
theorem dX5_parse_62 : decode cX5_parse 62 = .ok (.iconst 5, 1) := by decide +kernel
theorem dX5_parse_63 : decode cX5_parse 63 = .ok (.iconst 5, 1) := by decide +kernel
theorem dX5_parse_64 : decode cX5_parse 64 = .ok (.invokevirtual 59, 3) := by decide +kernel
theorem dX5_parse_67 : decode cX5_parse 67 = .ok (.pop, 1) := by decide +kernel
theorem dX5_parse_68 : decode cX5_parse 68 = .ok (.aload_n 0, 1) := by decide +kernel
theorem dX5_parse_69 : decode cX5_parse 69 = .ok (.invokevirtual 63, 3) := by decide +kernel
theorem dX5_parse_72 : decode cX5_parse 72 = .ok (.aload_n 0, 1) := by decide +kernel
theorem dX5_parse_73 : decode cX5_parse 73 = .ok (.invokevirtual 47, 3) := by decide +kernel
theorem dX5_parse_76 : decode cX5_parse 76 = .ok (.ifCond .eq 21, 3) := by decide +kernel
theorem dX5_parse_79 : decode cX5_parse 79 = .ok (.aload_n 0, 1) := by decide +kernel
theorem dX5_parse_80 : decode cX5_parse 80 = .ok (.getfield 30, 3) := by decide +kernel
theorem dX5_parse_83 : decode cX5_parse 83 = .ok (.astore_n 2, 1) := by decide +kernel
theorem dX5_parse_84 : decode cX5_parse 84 = .ok (.aload_n 0, 1) := by decide +kernel
theorem dX5_parse_85 : decode cX5_parse 85 = .ok (.aload_n 0, 1) := by decide +kernel
theorem dX5_parse_86 : decode cX5_parse 86 = .ok (.getfield 34, 3) := by decide +kernel
theorem dX5_parse_89 : decode cX5_parse 89 = .ok (.putfield 30, 3) := by decide +kernel
theorem dX5_parse_92 : decode cX5_parse 92 = .ok (.aload_n 0, 1) := by decide +kernel
theorem dX5_parse_93 : decode cX5_parse 93 = .ok (.aload_n 2, 1) := by decide +kernel
theorem dX5_parse_94 : decode cX5_parse 94 = .ok (.putfield 34, 3) := by decide +kernel
theorem dX5_parse_97 : decode cX5_parse 97 = .ok (.aload_n 0, 1) := by decide +kernel
theorem dX5_parse_98 : decode cX5_parse 98 = .ok (.getfield 37, 3) := by decide +kernel
theorem dX5_parse_101 : decode cX5_parse 101 = .ok (.ireturn, 1) := by decide +kernel
theorem dX5_isRight_0 : decode cX5_isRight 0 = .ok (.aload_n 0, 1) := by decide +kernel
theorem dX5_isRight_1 : decode cX5_isRight 1 = .ok (.getfield 37, 3) := by decide +kernel
theorem dX5_isRight_4 : decode cX5_isRight 4 = .ok (.iconst (-1), 1) := by decide +kernel
theorem dX5_isRight_5 : decode cX5_isRight 5 = .ok (.if_icmp .ne 7, 3) := by decide +kernel
theorem dX5_isRight_8 : decode cX5_isRight 8 = .ok (.iconst 1, 1) := by decide +kernel
theorem dX5_isRight_9 : decode cX5_isRight 9 = .ok (.goto 4, 3) := by decide +kernel
theorem dX5_isRight_12 : decode cX5_isRight 12 = .ok (.iconst 0, 1) := by decide +kernel
theorem dX5_isRight_13 : decode cX5_isRight 13 = .ok (.ireturn, 1) := by decide +kernel
theorem dX5_parseHead_0 : decode cX5_parseHead 0 = .ok (.aload_n 0, 1) := by decide +kernel
theorem dX5_parseHead_1 : decode cX5_parseHead 1 = .ok (.bipush 83, 2) := by decide +kernel
theorem dX5_parseHead_3 : decode cX5_parseHead 3 = .ok (.invokevirtual 66, 3) := by decide +kernel
theorem dX5_parseHead_6 : decode cX5_parseHead 6 = .ok (.aload_n 0, 1) := by decide +kernel
theorem dX5_parseHead_7 : decode cX5_parseHead 7 = .ok (.bipush 66, 2) := by decide +kernel
theorem dX5_parseHead_9 : decode cX5_parseHead 9 = .ok (.invokevirtual 66, 3) := by decide +kernel
theorem dX5_parseHead_12 : decode cX5_parseHead 12 = .ok (.aload_n 0, 1) := by decide +kernel
theorem dX5_parseHead_13 : decode cX5_parseHead 13 = .ok (.iconst 2, 1) := by decide +kernel
theorem dX5_parseHead_14 : decode cX5_parseHead 14 = .ok (.iconst 1, 1) := by decide +kernel
theorem dX5_parseHead_15 : decode cX5_parseHead 15 = .ok (.iconst 2, 1) := by decide +kernel
theorem dX5_parseHead_16 : decode cX5_parseHead 16 = .ok (.invokevirtual 59, 3) := by decide +kernel
theorem dX5_parseHead_19 : decode cX5_parseHead 19 = .ok (.istore_n 1, 1) := by decide +kernel
theorem dX5_parseHead_20 : decode cX5_parseHead 20 = .ok (.aload_n 0, 1) := by decide +kernel
theorem dX5_parseHead_21 : decode cX5_parseHead 21 = .ok (.iconst 4, 1) := by decide +kernel
theorem dX5_parseHead_22 : decode cX5_parseHead 22 = .ok (.iconst 1, 1) := by decide +kernel
theorem dX5_parseHead_23 : decode cX5_parseHead 23 = .ok (.bipush 64, 2) := by decide +kernel
theorem dX5_parseHead_25 : decode cX5_parseHead 25 = .ok (.invokevirtual 59, 3) := by decide +kernel
theorem dX5_parseHead_28 : decode cX5_parseHead 28 = .ok (.istore_n 2, 1) := by decide +kernel
theorem dX5_parseHead_29 : decode cX5_parseHead 29 = .ok (.aload_n 0, 1) := by decide +kernel
theorem dX5_parseHead_30 : decode cX5_parseHead 30 = .ok (.bipush 6, 2) := by decide +kernel
theorem dX5_parseHead_32 : decode cX5_parseHead 32 = .ok (.iconst 0, 1) := by decide +kernel
theorem dX5_parseHead_33 : decode cX5_parseHead 33 = .ok (.sipush 400, 3) := by decide +kernel
theorem dX5_parseHead_36 : decode cX5_parseHead 36 = .ok (.invokevirtual 59, 3) := by decide +kernel
theorem dX5_parseHead_39 : decode cX5_parseHead 39 = .ok (.istore_n 3, 1) := by decide +kernel
theorem dX5_parseHead_40 : decode cX5_parseHead 40 = .ok (.aload_n 0, 1) := by decide +kernel
theorem dX5_parseHead_41 : decode cX5_parseHead 41 = .ok (.invokevirtual 47, 3) := by decide +kernel
theorem dX5_parseHead_44 : decode cX5_parseHead 44 = .ok (.ifCond .eq 13, 3) := by decide +kernel
theorem dX5_parseHead_47 : decode cX5_parseHead 47 = .ok (.aload_n 0, 1) := by decide +kernel
theorem dX5_parseHead_48 : decode cX5_parseHead 48 = .ok (.getfield 34, 3) := by decide +kernel
theorem dX5_parseHead_51 : decode cX5_parseHead 51 = .ok (.iload_n 1, 1) := by decide +kernel
theorem dX5_parseHead_52 : decode cX5_parseHead 52 = .ok (.iload_n 2, 1) := by decide +kernel
theorem dX5_parseHead_53 : decode cX5_parseHead 53 = .ok (.iload_n 3, 1) := by decide +kernel
theorem dX5_parseHead_54 : decode cX5_parseHead 54 = .ok (.invokevirtual 69, 3) := by decide +kernel
theorem dX5_parseHead_57 : decode cX5_parseHead 57 = .ok (.return_, 1) := by decide +kernel
theorem dX5_parseBlock_0 : decode cX5_parseBlock 0 = .ok (.aload_n 0, 1) := by decide +kernel
theorem dX5_parseBlock_1 : decode cX5_parseBlock 1 = .ok (.iconst 2, 1) := by decide +kernel
theorem dX5_parseBlock_2 : decode cX5_parseBlock 2 = .ok (.iconst 0, 1) := by decide +kernel
theorem dX5_parseBlock_3 : decode cX5_parseBlock 3 = .ok (.iconst 4, 1) := by decide +kernel
theorem dX5_parseBlock_4 : decode cX5_parseBlock 4 = .ok (.invokevirtual 59, 3) := by decide +kernel
theorem dX5_parseBlock_7 : decode cX5_parseBlock 7 = .ok (.istore_n 2, 1) := by decide +kernel
theorem dX5_parseBlock_8 : decode cX5_parseBlock 8 = .ok (.iload_n 2, 1) := by decide +kernel
theorem dX5_parseBlock_9 : decode cX5_parseBlock 9 = .ok (.iconst 4, 1) := by decide +kernel
theorem dX5_parseBlock_10 : decode cX5_parseBlock 10 = .ok (.if_icmp .ne 7, 3) := by decide +kernel
theorem dX5_parseBlock_13 : decode cX5_parseBlock 13 = .ok (.iconst 0, 1) := by decide +kernel
theorem dX5_parseBlock_14 : decode cX5_parseBlock 14 = .ok (.goto 11, 3) := by decide +kernel
theorem dX5_parseBlock_17 : decode cX5_parseBlock 17 = .ok (.aload_n 0, 1) := by decide +kernel
theorem dX5_parseBlock_18 : decode cX5_parseBlock 18 = .ok (.iconst 3, 1) := by decide +kernel
theorem dX5_parseBlock_19 : decode cX5_parseBlock 19 = .ok (.iconst 0, 1) := by decide +kernel
theorem dX5_parseBlock_20 : decode cX5_parseBlock 20 = .ok (.bipush 15, 2) := by decide +kernel
theorem dX5_parseBlock_22 : decode cX5_parseBlock 22 = .ok (.invokevirtual 59, 3) := by decide +kernel
theorem dX5_parseBlock_25 : decode cX5_parseBlock 25 = .ok (.istore_n 3, 1) := by decide +kernel
theorem dX5_parseBlock_26 : decode cX5_parseBlock 26 = .ok (.aload_n 0, 1) := by decide +kernel
theorem dX5_parseBlock_27 : decode cX5_parseBlock 27 = .ok (.getfield 12, 3) := by decide +kernel
theorem dX5_parseBlock_30 : decode cX5_parseBlock 30 = .ok (.iload_n 1, 1) := by decide +kernel
theorem dX5_parseBlock_31 : decode cX5_parseBlock 31 = .ok (.aload_n 0, 1) := by decide +kernel
theorem dX5_parseBlock_32 : decode cX5_parseBlock 32 = .ok (.getfield 34, 3) := by decide +kernel
theorem dX5_parseBlock_35 : decode cX5_parseBlock 35 = .ok (.getfield 73, 3) := by decide +kernel
theorem dX5_parseBlock_38 : decode cX5_parseBlock 38 = .ok (.invokevirtual 76, 3) := by decide +kernel
theorem dX5_parseBlock_41 : decode cX5_parseBlock 41 = .ok (.istore 4, 2) := by decide +kernel
theorem dX5_parseBlock_43 : decode cX5_parseBlock 43 = .ok (.aload_n 0, 1) := by decide +kernel
theorem dX5_parseBlock_44 : decode cX5_parseBlock 44 = .ok (.getfield 34, 3) := by decide +kernel
theorem dX5_parseBlock_47 : decode cX5_parseBlock 47 = .ok (.iload_n 1, 1) := by decide +kernel
theorem dX5_parseBlock_48 : decode cX5_parseBlock 48 = .ok (.invokevirtual 80, 3) := by decide +kernel
theorem dX5_parseBlock_51 : decode cX5_parseBlock 51 = .ok (.istore 5, 2) := by decide +kernel
theorem dX5_parseBlock_53 : decode cX5_parseBlock 53 = .ok (.aload_n 0, 1) := by decide +kernel
theorem dX5_parseBlock_54 : decode cX5_parseBlock 54 = .ok (.getfield 34, 3) := by decide +kernel
theorem dX5_parseBlock_57 : decode cX5_parseBlock 57 = .ok (.iload_n 1, 1) := by decide +kernel
theorem dX5_parseBlock_58 : decode cX5_parseBlock 58 = .ok (.invokevirtual 84, 3) := by decide +kernel
theorem dX5_parseBlock_61 : decode cX5_parseBlock 61 = .ok (.istore 6, 2) := by decide +kernel
theorem dX5_parseBlock_63 : decode cX5_parseBlock 63 = .ok (.iconst 0, 1) := by decide +kernel
theorem dX5_parseBlock_64 : decode cX5_parseBlock 64 = .ok (.istore 7, 2) := by decide +kernel
theorem dX5_parseBlock_66 : decode cX5_parseBlock 66 = .ok (.iload 7, 2) := by decide +kernel
theorem dX5_parseBlock_68 : decode cX5_parseBlock 68 = .ok (.iload 6, 2) := by decide +kernel
theorem dX5_parseBlock_70 : decode cX5_parseBlock 70 = .ok (.if_icmp .ge 115, 3) := by decide +kernel
theorem dX5_parseBlock_73 : decode cX5_parseBlock 73 = .ok (.aload_n 0, 1) := by decide +kernel
theorem dX5_parseBlock_74 : decode cX5_parseBlock 74 = .ok (.invokevirtual 47, 3) := by decide +kernel
theorem dX5_parseBlock_77 : decode cX5_parseBlock 77 = .ok (.ifCond .eq 108, 3) := by decide +kernel
theorem dX5_parseBlock_80 : decode cX5_parseBlock 80 = .ok (.aload_n 0, 1) := by decide +kernel
theorem dX5_parseBlock_81 : decode cX5_parseBlock 81 = .ok (.getfield 21, 3) := by decide +kernel
theorem dX5_parseBlock_84 : decode cX5_parseBlock 84 = .ok (.getfield 87, 3) := by decide +kernel
theorem dX5_parseBlock_87 : decode cX5_parseBlock 87 = .ok (.istore 8, 2) := by decide +kernel
theorem dX5_parseBlock_89 : decode cX5_parseBlock 89 = .ok (.iload_n 2, 1) := by decide +kernel
theorem dX5_parseBlock_90 : decode cX5_parseBlock 90 = .ok (.iconst 4, 1) := by decide +kernel
theorem dX5_parseBlock_91 : decode cX5_parseBlock 91 = .ok (.if_icmp .ne 7, 3) := by decide +kernel
theorem dX5_parseBlock_94 : decode cX5_parseBlock 94 = .ok (.iconst 0, 1) := by decide +kernel
theorem dX5_parseBlock_95 : decode cX5_parseBlock 95 = .ok (.goto 14, 3) := by decide +kernel
theorem dX5_parseBlock_98 : decode cX5_parseBlock 98 = .ok (.aload_n 0, 1) := by decide +kernel
theorem dX5_parseBlock_99 : decode cX5_parseBlock 99 = .ok (.iload_n 3, 1) := by decide +kernel
theorem dX5_parseBlock_100 : decode cX5_parseBlock 100 = .ok (.iconst 0, 1) := by decide +kernel
theorem dX5_parseBlock_101 : decode cX5_parseBlock 101 = .ok (.ldc 92, 2) := by decide +kernel
theorem dX5_parseBlock_103 : decode cX5_parseBlock 103 = .ok (.invokevirtual 59, 3) := by decide +kernel
theorem dX5_parseBlock_106 : decode cX5_parseBlock 106 = .ok (.invokestatic 93, 3) := by decide +kernel
theorem dX5_parseBlock_109 : decode cX5_parseBlock 109 = .ok (.istore 9, 2) := by decide +kernel
theorem dX5_parseBlock_111 : decode cX5_parseBlock 111 = .ok (.aload_n 0, 1) := by decide +kernel
theorem dX5_parseBlock_112 : decode cX5_parseBlock 112 = .ok (.getfield 34, 3) := by decide +kernel
theorem dX5_parseBlock_115 : decode cX5_parseBlock 115 = .ok (.iload_n 2, 1) := by decide +kernel
theorem dX5_parseBlock_116 : decode cX5_parseBlock 116 = .ok (.iload 5, 2) := by decide +kernel
theorem dX5_parseBlock_118 : decode cX5_parseBlock 118 = .ok (.iload 4, 2) := by decide +kernel
theorem dX5_parseBlock_120 : decode cX5_parseBlock 120 = .ok (.invokevirtual 96, 3) := by decide +kernel
theorem dX5_parseBlock_123 : decode cX5_parseBlock 123 = .ok (.iload 9, 2) := by decide +kernel
theorem dX5_parseBlock_125 : decode cX5_parseBlock 125 = .ok (.iadd, 1) := by decide +kernel
theorem dX5_parseBlock_126 : decode cX5_parseBlock 126 = .ok (.istore 10, 2) := by decide +kernel
theorem dX5_parseBlock_128 : decode cX5_parseBlock 128 = .ok (.aload_n 0, 1) := by decide +kernel
theorem dX5_parseBlock_129 : decode cX5_parseBlock 129 = .ok (.invokevirtual 47, 3) := by decide +kernel
theorem dX5_parseBlock_132 : decode cX5_parseBlock 132 = .ok (.ifCond .eq 17, 3) := by decide +kernel
theorem dX5_parseBlock_135 : decode cX5_parseBlock 135 = .ok (.iload 10, 2) := by decide +kernel
theorem dX5_parseBlock_137 : decode cX5_parseBlock 137 = .ok (.invokestatic 99, 3) := by decide +kernel
theorem dX5_parseBlock_140 : decode cX5_parseBlock 140 = .ok (.ifCond .ne 9, 3) := by decide +kernel
theorem dX5_parseBlock_143 : decode cX5_parseBlock 143 = .ok (.aload_n 0, 1) := by decide +kernel
theorem dX5_parseBlock_144 : decode cX5_parseBlock 144 = .ok (.iload 8, 2) := by decide +kernel
theorem dX5_parseBlock_146 : decode cX5_parseBlock 146 = .ok (.putfield 37, 3) := by decide +kernel
theorem dX5_parseBlock_149 : decode cX5_parseBlock 149 = .ok (.aload_n 0, 1) := by decide +kernel
theorem dX5_parseBlock_150 : decode cX5_parseBlock 150 = .ok (.invokevirtual 47, 3) := by decide +kernel
theorem dX5_parseBlock_153 : decode cX5_parseBlock 153 = .ok (.ifCond .eq 14, 3) := by decide +kernel
theorem dX5_parseBlock_156 : decode cX5_parseBlock 156 = .ok (.aload_n 0, 1) := by decide +kernel
theorem dX5_parseBlock_157 : decode cX5_parseBlock 157 = .ok (.getfield 34, 3) := by decide +kernel
theorem dX5_parseBlock_160 : decode cX5_parseBlock 160 = .ok (.iload 5, 2) := by decide +kernel
theorem dX5_parseBlock_162 : decode cX5_parseBlock 162 = .ok (.iload 10, 2) := by decide +kernel
theorem dX5_parseBlock_164 : decode cX5_parseBlock 164 = .ok (.invokevirtual 103, 3) := by decide +kernel
theorem dX5_parseBlock_167 : decode cX5_parseBlock 167 = .ok (.iload 5, 2) := by decide +kernel
theorem dX5_parseBlock_169 : decode cX5_parseBlock 169 = .ok (.aload_n 0, 1) := by decide +kernel
theorem dX5_parseBlock_170 : decode cX5_parseBlock 170 = .ok (.getfield 34, 3) := by decide +kernel
theorem dX5_parseBlock_173 : decode cX5_parseBlock 173 = .ok (.getfield 73, 3) := by decide +kernel
theorem dX5_parseBlock_176 : decode cX5_parseBlock 176 = .ok (.iadd, 1) := by decide +kernel
theorem dX5_parseBlock_177 : decode cX5_parseBlock 177 = .ok (.istore 5, 2) := by decide +kernel
theorem dX5_parseBlock_179 : decode cX5_parseBlock 179 = .ok (.iinc 7 1, 3) := by decide +kernel
theorem dX5_parseBlock_182 : decode cX5_parseBlock 182 = .ok (.goto (-116), 3) := by decide +kernel
theorem dX5_parseBlock_185 : decode cX5_parseBlock 185 = .ok (.aload_n 0, 1) := by decide +kernel
theorem dX5_parseBlock_186 : decode cX5_parseBlock 186 = .ok (.invokevirtual 47, 3) := by decide +kernel
theorem dX5_parseBlock_189 : decode cX5_parseBlock 189 = .ok (.ifCond .eq 15, 3) := by decide +kernel
theorem dX5_parseBlock_192 : decode cX5_parseBlock 192 = .ok (.aload_n 0, 1) := by decide +kernel
theorem dX5_parseBlock_193 : decode cX5_parseBlock 193 = .ok (.getfield 12, 3) := by decide +kernel
theorem dX5_parseBlock_196 : decode cX5_parseBlock 196 = .ok (.iload_n 1, 1) := by decide +kernel
theorem dX5_parseBlock_197 : decode cX5_parseBlock 197 = .ok (.aload_n 0, 1) := by decide +kernel
theorem dX5_parseBlock_198 : decode cX5_parseBlock 198 = .ok (.getfield 34, 3) := by decide +kernel
theorem dX5_parseBlock_201 : decode cX5_parseBlock 201 = .ok (.invokevirtual 106, 3) := by decide +kernel
theorem dX5_parseBlock_204 : decode cX5_parseBlock 204 = .ok (.return_, 1) := by decide +kernel
theorem dX5_parseFilling_0 : decode cX5_parseFilling 0 = .ok (.aload_n 0, 1) := by decide +kernel
theorem dX5_parseFilling_1 : decode cX5_parseFilling 1 = .ok (.getfield 21, 3) := by decide +kernel
theorem dX5_parseFilling_4 : decode cX5_parseFilling 4 = .ok (.getfield 87, 3) := by decide +kernel
theorem dX5_parseFilling_7 : decode cX5_parseFilling 7 = .ok (.bipush 7, 2) := by decide +kernel
theorem dX5_parseFilling_9 : decode cX5_parseFilling 9 = .ok (.iadd, 1) := by decide +kernel
theorem dX5_parseFilling_10 : decode cX5_parseFilling 10 = .ok (.bipush (-8), 2) := by decide +kernel
theorem dX5_parseFilling_12 : decode cX5_parseFilling 12 = .ok (.iand, 1) := by decide +kernel
theorem dX5_parseFilling_13 : decode cX5_parseFilling 13 = .ok (.istore_n 1, 1) := by decide +kernel
theorem dX5_parseFilling_14 : decode cX5_parseFilling 14 = .ok (.aload_n 0, 1) := by decide +kernel
theorem dX5_parseFilling_15 : decode cX5_parseFilling 15 = .ok (.invokevirtual 47, 3) := by decide +kernel
theorem dX5_parseFilling_18 : decode cX5_parseFilling 18 = .ok (.ifCond .eq 51, 3) := by decide +kernel
theorem dX5_parseFilling_21 : decode cX5_parseFilling 21 = .ok (.aload_n 0, 1) := by decide +kernel
theorem dX5_parseFilling_22 : decode cX5_parseFilling 22 = .ok (.getfield 21, 3) := by decide +kernel
theorem dX5_parseFilling_25 : decode cX5_parseFilling 25 = .ok (.getfield 87, 3) := by decide +kernel
theorem dX5_parseFilling_28 : decode cX5_parseFilling 28 = .ok (.iload_n 1, 1) := by decide +kernel
theorem dX5_parseFilling_29 : decode cX5_parseFilling 29 = .ok (.if_icmp .ge 40, 3) := by decide +kernel
theorem dX5_parseFilling_32 : decode cX5_parseFilling 32 = .ok (.aload_n 0, 1) := by decide +kernel
theorem dX5_parseFilling_33 : decode cX5_parseFilling 33 = .ok (.getfield 21, 3) := by decide +kernel
theorem dX5_parseFilling_36 : decode cX5_parseFilling 36 = .ok (.invokevirtual 110, 3) := by decide +kernel
theorem dX5_parseFilling_39 : decode cX5_parseFilling 39 = .ok (.ifCond .eq 14, 3) := by decide +kernel
theorem dX5_parseFilling_42 : decode cX5_parseFilling 42 = .ok (.aload_n 0, 1) := by decide +kernel
theorem dX5_parseFilling_43 : decode cX5_parseFilling 43 = .ok (.aload_n 0, 1) := by decide +kernel
theorem dX5_parseFilling_44 : decode cX5_parseFilling 44 = .ok (.getfield 21, 3) := by decide +kernel
theorem dX5_parseFilling_47 : decode cX5_parseFilling 47 = .ok (.getfield 87, 3) := by decide +kernel
theorem dX5_parseFilling_50 : decode cX5_parseFilling 50 = .ok (.putfield 37, 3) := by decide +kernel
theorem dX5_parseFilling_53 : decode cX5_parseFilling 53 = .ok (.aload_n 0, 1) := by decide +kernel
theorem dX5_parseFilling_54 : decode cX5_parseFilling 54 = .ok (.getfield 21, 3) := by decide +kernel
theorem dX5_parseFilling_57 : decode cX5_parseFilling 57 = .ok (.dup, 1) := by decide +kernel
theorem dX5_parseFilling_58 : decode cX5_parseFilling 58 = .ok (.getfield 87, 3) := by decide +kernel
theorem dX5_parseFilling_61 : decode cX5_parseFilling 61 = .ok (.iconst 1, 1) := by decide +kernel
theorem dX5_parseFilling_62 : decode cX5_parseFilling 62 = .ok (.iadd, 1) := by decide +kernel
theorem dX5_parseFilling_63 : decode cX5_parseFilling 63 = .ok (.putfield 87, 3) := by decide +kernel
theorem dX5_parseFilling_66 : decode cX5_parseFilling 66 = .ok (.goto (-52), 3) := by decide +kernel
theorem dX5_parseFilling_69 : decode cX5_parseFilling 69 = .ok (.aload_n 0, 1) := by decide +kernel
theorem dX5_parseFilling_70 : decode cX5_parseFilling 70 = .ok (.invokevirtual 47, 3) := by decide +kernel
theorem dX5_parseFilling_73 : decode cX5_parseFilling 73 = .ok (.ifCond .eq 31, 3) := by decide +kernel
theorem dX5_parseFilling_76 : decode cX5_parseFilling 76 = .ok (.aload_n 0, 1) := by decide +kernel
theorem dX5_parseFilling_77 : decode cX5_parseFilling 77 = .ok (.getfield 21, 3) := by decide +kernel
theorem dX5_parseFilling_80 : decode cX5_parseFilling 80 = .ok (.getfield 87, 3) := by decide +kernel
end
section
theorem dX5_parseFilling_83 : decode cX5_parseFilling 83 = .ok (.aload_n 0, 1) := by decide +kernel
theorem dX5_parseFilling_84 : decode cX5_parseFilling 84 = .ok (.getfield 21, 3) := by decide +kernel
theorem dX5_parseFilling_87 : decode cX5_parseFilling 87 = .ok (.getfield 113, 3) := by decide +kernel
theorem dX5_parseFilling_90 : decode cX5_parseFilling 90 = .ok (.if_icmp .ge 14, 3) := by decide +kernel
theorem dX5_parseFilling_93 : decode cX5_parseFilling 93 = .ok (.aload_n 0, 1) := by decide +kernel
theorem dX5_parseFilling_94 : decode cX5_parseFilling 94 = .ok (.aload_n 0, 1) := by decide +kernel
theorem dX5_parseFilling_95 : decode cX5_parseFilling 95 = .ok (.getfield 21, 3) := by decide +kernel
theorem dX5_parseFilling_98 : decode cX5_parseFilling 98 = .ok (.getfield 87, 3) := by decide +kernel
theorem dX5_parseFilling_101 : decode cX5_parseFilling 101 = .ok (.putfield 37, 3) := by decide +kernel
theorem dX5_parseFilling_104 : decode cX5_parseFilling 104 = .ok (.return_, 1) := by decide +kernel
theorem dX5_nextByte_0 : decode cX5_nextByte 0 = .ok (.aload_n 0, 1) := by decide +kernel
theorem dX5_nextByte_1 : decode cX5_nextByte 1 = .ok (.getfield 21, 3) := by decide +kernel
theorem dX5_nextByte_4 : decode cX5_nextByte 4 = .ok (.getfield 87, 3) := by decide +kernel
theorem dX5_nextByte_7 : decode cX5_nextByte 7 = .ok (.istore_n 2, 1) := by decide +kernel
theorem dX5_nextByte_8 : decode cX5_nextByte 8 = .ok (.aload_n 0, 1) := by decide +kernel
theorem dX5_nextByte_9 : decode cX5_nextByte 9 = .ok (.invokevirtual 47, 3) := by decide +kernel
theorem dX5_nextByte_12 : decode cX5_nextByte 12 = .ok (.ifCond .eq 19, 3) := by decide +kernel
theorem dX5_nextByte_15 : decode cX5_nextByte 15 = .ok (.aload_n 0, 1) := by decide +kernel
theorem dX5_nextByte_16 : decode cX5_nextByte 16 = .ok (.iload_n 2, 1) := by decide +kernel
theorem dX5_nextByte_17 : decode cX5_nextByte 17 = .ok (.aload_n 0, 1) := by decide +kernel
theorem dX5_nextByte_18 : decode cX5_nextByte 18 = .ok (.getfield 21, 3) := by decide +kernel
theorem dX5_nextByte_21 : decode cX5_nextByte 21 = .ok (.bipush 8, 2) := by decide +kernel
theorem dX5_nextByte_23 : decode cX5_nextByte 23 = .ok (.invokevirtual 116, 3) := by decide +kernel
theorem dX5_nextByte_26 : decode cX5_nextByte 26 = .ok (.iload_n 1, 1) := by decide +kernel
theorem dX5_nextByte_27 : decode cX5_nextByte 27 = .ok (.iload_n 1, 1) := by decide +kernel
theorem dX5_nextByte_28 : decode cX5_nextByte 28 = .ok (.invokevirtual 119, 3) := by decide +kernel
theorem dX5_nextByte_31 : decode cX5_nextByte 31 = .ok (.return_, 1) := by decide +kernel
theorem dX5_nextWithin_0 : decode cX5_nextWithin 0 = .ok (.aload_n 0, 1) := by decide +kernel
theorem dX5_nextWithin_1 : decode cX5_nextWithin 1 = .ok (.invokevirtual 47, 3) := by decide +kernel
theorem dX5_nextWithin_4 : decode cX5_nextWithin 4 = .ok (.ifCond .ne 5, 3) := by decide +kernel
theorem dX5_nextWithin_7 : decode cX5_nextWithin 7 = .ok (.iload_n 2, 1) := by decide +kernel
theorem dX5_nextWithin_8 : decode cX5_nextWithin 8 = .ok (.ireturn, 1) := by decide +kernel
theorem dX5_nextWithin_9 : decode cX5_nextWithin 9 = .ok (.aload_n 0, 1) := by decide +kernel
theorem dX5_nextWithin_10 : decode cX5_nextWithin 10 = .ok (.getfield 21, 3) := by decide +kernel
theorem dX5_nextWithin_13 : decode cX5_nextWithin 13 = .ok (.getfield 87, 3) := by decide +kernel
theorem dX5_nextWithin_16 : decode cX5_nextWithin 16 = .ok (.istore 4, 2) := by decide +kernel
theorem dX5_nextWithin_18 : decode cX5_nextWithin 18 = .ok (.aload_n 0, 1) := by decide +kernel
theorem dX5_nextWithin_19 : decode cX5_nextWithin 19 = .ok (.getfield 21, 3) := by decide +kernel
theorem dX5_nextWithin_22 : decode cX5_nextWithin 22 = .ok (.iload_n 1, 1) := by decide +kernel
theorem dX5_nextWithin_23 : decode cX5_nextWithin 23 = .ok (.invokevirtual 123, 3) := by decide +kernel
theorem dX5_nextWithin_26 : decode cX5_nextWithin 26 = .ok (.istore 5, 2) := by decide +kernel
theorem dX5_nextWithin_28 : decode cX5_nextWithin 28 = .ok (.aload_n 0, 1) := by decide +kernel
theorem dX5_nextWithin_29 : decode cX5_nextWithin 29 = .ok (.iload 4, 2) := by decide +kernel
theorem dX5_nextWithin_31 : decode cX5_nextWithin 31 = .ok (.iload 5, 2) := by decide +kernel
theorem dX5_nextWithin_33 : decode cX5_nextWithin 33 = .ok (.iload_n 2, 1) := by decide +kernel
theorem dX5_nextWithin_34 : decode cX5_nextWithin 34 = .ok (.iload_n 3, 1) := by decide +kernel
theorem dX5_nextWithin_35 : decode cX5_nextWithin 35 = .ok (.invokevirtual 119, 3) := by decide +kernel
theorem dX5_nextWithin_38 : decode cX5_nextWithin 38 = .ok (.aload_n 0, 1) := by decide +kernel
theorem dX5_nextWithin_39 : decode cX5_nextWithin 39 = .ok (.invokevirtual 47, 3) := by decide +kernel
theorem dX5_nextWithin_42 : decode cX5_nextWithin 42 = .ok (.ifCond .eq 8, 3) := by decide +kernel
theorem dX5_nextWithin_45 : decode cX5_nextWithin 45 = .ok (.iload 5, 2) := by decide +kernel
theorem dX5_nextWithin_47 : decode cX5_nextWithin 47 = .ok (.goto 4, 3) := by decide +kernel
theorem dX5_nextWithin_50 : decode cX5_nextWithin 50 = .ok (.iload_n 2, 1) := by decide +kernel
theorem dX5_nextWithin_51 : decode cX5_nextWithin 51 = .ok (.ireturn, 1) := by decide +kernel
theorem dX5_judge_0 : decode cX5_judge 0 = .ok (.iload_n 2, 1) := by decide +kernel
theorem dX5_judge_1 : decode cX5_judge 1 = .ok (.iconst (-1), 1) := by decide +kernel
theorem dX5_judge_2 : decode cX5_judge 2 = .ok (.if_icmp .ne 17, 3) := by decide +kernel
theorem dX5_judge_5 : decode cX5_judge 5 = .ok (.aload_n 0, 1) := by decide +kernel
theorem dX5_judge_6 : decode cX5_judge 6 = .ok (.aload_n 0, 1) := by decide +kernel
theorem dX5_judge_7 : decode cX5_judge 7 = .ok (.getfield 21, 3) := by decide +kernel
theorem dX5_judge_10 : decode cX5_judge 10 = .ok (.getfield 113, 3) := by decide +kernel
theorem dX5_judge_13 : decode cX5_judge 13 = .ok (.putfield 37, 3) := by decide +kernel
theorem dX5_judge_16 : decode cX5_judge 16 = .ok (.goto 19, 3) := by decide +kernel
theorem dX5_judge_19 : decode cX5_judge 19 = .ok (.iload_n 2, 1) := by decide +kernel
theorem dX5_judge_20 : decode cX5_judge 20 = .ok (.iload_n 3, 1) := by decide +kernel
theorem dX5_judge_21 : decode cX5_judge 21 = .ok (.if_icmp .lt 9, 3) := by decide +kernel
theorem dX5_judge_24 : decode cX5_judge 24 = .ok (.iload_n 2, 1) := by decide +kernel
theorem dX5_judge_25 : decode cX5_judge 25 = .ok (.iload 4, 2) := by decide +kernel
theorem dX5_judge_27 : decode cX5_judge 27 = .ok (.if_icmp .le 8, 3) := by decide +kernel
theorem dX5_judge_30 : decode cX5_judge 30 = .ok (.aload_n 0, 1) := by decide +kernel
theorem dX5_judge_31 : decode cX5_judge 31 = .ok (.iload_n 1, 1) := by decide +kernel
theorem dX5_judge_32 : decode cX5_judge 32 = .ok (.putfield 37, 3) := by decide +kernel
theorem dX5_judge_35 : decode cX5_judge 35 = .ok (.return_, 1) := by decide +kernel
end
section
theorem dX6_init_0 : decode cX6_init 0 = .ok (.aload_n 0, 1) := by decide +kernel
theorem dX6_init_1 : decode cX6_init 1 = .ok (.invokespecial 3, 3) := by decide +kernel
theorem dX6_init_4 : decode cX6_init 4 = .ok (.aload_n 0, 1) := by decide +kernel
theorem dX6_init_5 : decode cX6_init 5 = .ok (.new 9, 3) := by decide +kernel
theorem dX6_init_8 : decode cX6_init 8 = .ok (.dup, 1) := by decide +kernel
theorem dX6_init_9 : decode cX6_init 9 = .ok (.iconst 1, 1) := by decide +kernel
theorem dX6_init_10 : decode cX6_init 10 = .ok (.bipush 16, 2) := by decide +kernel
theorem dX6_init_12 : decode cX6_init 12 = .ok (.invokespecial 11, 3) := by decide +kernel
theorem dX6_init_15 : decode cX6_init 15 = .ok (.putfield 14, 3) := by decide +kernel
theorem dX6_init_18 : decode cX6_init 18 = .ok (.aload_n 0, 1) := by decide +kernel
theorem dX6_init_19 : decode cX6_init 19 = .ok (.new 20, 3) := by decide +kernel
theorem dX6_init_22 : decode cX6_init 22 = .ok (.dup, 1) := by decide +kernel
theorem dX6_init_23 : decode cX6_init 23 = .ok (.invokespecial 22, 3) := by decide +kernel
theorem dX6_init_26 : decode cX6_init 26 = .ok (.putfield 23, 3) := by decide +kernel
theorem dX6_init_29 : decode cX6_init 29 = .ok (.aload_n 0, 1) := by decide +kernel
theorem dX6_init_30 : decode cX6_init 30 = .ok (.new 27, 3) := by decide +kernel
theorem dX6_init_33 : decode cX6_init 33 = .ok (.dup, 1) := by decide +kernel
theorem dX6_init_34 : decode cX6_init 34 = .ok (.invokespecial 29, 3) := by decide +kernel
theorem dX6_init_37 : decode cX6_init 37 = .ok (.putfield 30, 3) := by decide +kernel
theorem dX6_init_40 : decode cX6_init 40 = .ok (.aload_n 0, 1) := by decide +kernel
theorem dX6_init_41 : decode cX6_init 41 = .ok (.sipush 800, 3) := by decide +kernel
theorem dX6_init_44 : decode cX6_init 44 = .ok (.newarray .int, 2) := by decide +kernel
theorem dX6_init_46 : decode cX6_init 46 = .ok (.putfield 34, 3) := by decide +kernel
theorem dX6_init_49 : decode cX6_init 49 = .ok (.aload_n 0, 1) := by decide +kernel
theorem dX6_init_50 : decode cX6_init 50 = .ok (.sipush 800, 3) := by decide +kernel
theorem dX6_init_53 : decode cX6_init 53 = .ok (.newarray .int, 2) := by decide +kernel
theorem dX6_init_55 : decode cX6_init 55 = .ok (.putfield 38, 3) := by decide +kernel
theorem dX6_init_58 : decode cX6_init 58 = .ok (.aload_n 0, 1) := by decide +kernel
theorem dX6_init_59 : decode cX6_init 59 = .ok (.bipush 64, 2) := by decide +kernel
theorem dX6_init_61 : decode cX6_init 61 = .ok (.newarray .int, 2) := by decide +kernel
theorem dX6_init_63 : decode cX6_init 63 = .ok (.putfield 41, 3) := by decide +kernel
theorem dX6_init_66 : decode cX6_init 66 = .ok (.return_, 1) := by decide +kernel
theorem dX6_compose_0 : decode cX6_compose 0 = .ok (.aload_n 0, 1) := by decide +kernel
theorem dX6_compose_1 : decode cX6_compose 1 = .ok (.getfield 14, 3) := by decide +kernel
theorem dX6_compose_4 : decode cX6_compose 4 = .ok (.aload_n 1, 1) := by decide +kernel
theorem dX6_compose_5 : decode cX6_compose 5 = .ok (.invokevirtual 44, 3) := by decide +kernel
theorem dX6_compose_8 : decode cX6_compose 8 = .ok (.aload_n 0, 1) := by decide +kernel
theorem dX6_compose_9 : decode cX6_compose 9 = .ok (.aload_n 0, 1) := by decide +kernel
theorem dX6_compose_10 : decode cX6_compose 10 = .ok (.getfield 14, 3) := by decide +kernel
theorem dX6_compose_13 : decode cX6_compose 13 = .ok (.invokevirtual 48, 3) := by decide +kernel
theorem dX6_compose_16 : decode cX6_compose 16 = .ok (.sipush 800, 3) := by decide +kernel
theorem dX6_compose_19 : decode cX6_compose 19 = .ok (.invokestatic 52, 3) := by decide +kernel
theorem dX6_compose_22 : decode cX6_compose 22 = .ok (.putfield 58, 3) := by decide +kernel
theorem dX6_compose_25 : decode cX6_compose 25 = .ok (.aload_n 0, 1) := by decide +kernel
theorem dX6_compose_26 : decode cX6_compose 26 = .ok (.getfield 30, 3) := by decide +kernel
theorem dX6_compose_29 : decode cX6_compose 29 = .ok (.invokevirtual 61, 3) := by decide +kernel
theorem dX6_compose_32 : decode cX6_compose 32 = .ok (.aload_n 0, 1) := by decide +kernel
theorem dX6_compose_33 : decode cX6_compose 33 = .ok (.getfield 30, 3) := by decide +kernel
theorem dX6_compose_36 : decode cX6_compose 36 = .ok (.bipush 8, 2) := by decide +kernel
theorem dX6_compose_38 : decode cX6_compose 38 = .ok (.bipush 83, 2) := by decide +kernel
theorem dX6_compose_40 : decode cX6_compose 40 = .ok (.invokevirtual 64, 3) := by decide +kernel
theorem dX6_compose_43 : decode cX6_compose 43 = .ok (.aload_n 0, 1) := by decide +kernel
theorem dX6_compose_44 : decode cX6_compose 44 = .ok (.getfield 30, 3) := by decide +kernel
theorem dX6_compose_47 : decode cX6_compose 47 = .ok (.bipush 8, 2) := by decide +kernel
theorem dX6_compose_49 : decode cX6_compose 49 = .ok (.bipush 66, 2) := by decide +kernel
theorem dX6_compose_51 : decode cX6_compose 51 = .ok (.invokevirtual 64, 3) := by decide +kernel
theorem dX6_compose_54 : decode cX6_compose 54 = .ok (.aload_n 0, 1) := by decide +kernel
theorem dX6_compose_55 : decode cX6_compose 55 = .ok (.getfield 30, 3) := by decide +kernel
theorem dX6_compose_58 : decode cX6_compose 58 = .ok (.iconst 2, 1) := by decide +kernel
theorem dX6_compose_59 : decode cX6_compose 59 = .ok (.aload_n 0, 1) := by decide +kernel
theorem dX6_compose_60 : decode cX6_compose 60 = .ok (.getfield 14, 3) := by decide +kernel
theorem dX6_compose_63 : decode cX6_compose 63 = .ok (.getfield 67, 3) := by decide +kernel
theorem dX6_compose_66 : decode cX6_compose 66 = .ok (.invokevirtual 70, 3) := by decide +kernel
theorem dX6_compose_69 : decode cX6_compose 69 = .ok (.aload_n 0, 1) := by decide +kernel
theorem dX6_compose_70 : decode cX6_compose 70 = .ok (.getfield 30, 3) := by decide +kernel
theorem dX6_compose_73 : decode cX6_compose 73 = .ok (.iconst 4, 1) := by decide +kernel
theorem dX6_compose_74 : decode cX6_compose 74 = .ok (.aload_n 0, 1) := by decide +kernel
theorem dX6_compose_75 : decode cX6_compose 75 = .ok (.getfield 14, 3) := by decide +kernel
theorem dX6_compose_78 : decode cX6_compose 78 = .ok (.getfield 73, 3) := by decide +kernel
theorem dX6_compose_81 : decode cX6_compose 81 = .ok (.invokevirtual 70, 3) := by decide +kernel
theorem dX6_compose_84 : decode cX6_compose 84 = .ok (.aload_n 0, 1) := by decide +kernel
theorem dX6_compose_85 : decode cX6_compose 85 = .ok (.getfield 30, 3) := by decide +kernel
theorem dX6_compose_88 : decode cX6_compose 88 = .ok (.bipush 6, 2) := by decide +kernel
theorem dX6_compose_90 : decode cX6_compose 90 = .ok (.aload_n 0, 1) := by decide +kernel
theorem dX6_compose_91 : decode cX6_compose 91 = .ok (.getfield 14, 3) := by decide +kernel
theorem dX6_compose_94 : decode cX6_compose 94 = .ok (.invokevirtual 76, 3) := by decide +kernel
theorem dX6_compose_97 : decode cX6_compose 97 = .ok (.invokevirtual 70, 3) := by decide +kernel
theorem dX6_compose_100 : decode cX6_compose 100 = .ok (.iconst 0, 1) := by decide +kernel
theorem dX6_compose_101 : decode cX6_compose 101 = .ok (.istore_n 2, 1) := by decide +kernel
theorem dX6_compose_102 : decode cX6_compose 102 = .ok (.iload_n 2, 1) := by decide +kernel
theorem dX6_compose_103 : decode cX6_compose 103 = .ok (.aload_n 0, 1) := by decide +kernel
theorem dX6_compose_104 : decode cX6_compose 104 = .ok (.getfield 58, 3) := by decide +kernel
theorem dX6_compose_107 : decode cX6_compose 107 = .ok (.if_icmp .ge 31, 3) := by decide +kernel
theorem dX6_compose_110 : decode cX6_compose 110 = .ok (.aload_n 0, 1) := by decide +kernel
theorem dX6_compose_111 : decode cX6_compose 111 = .ok (.getfield 23, 3) := by decide +kernel
theorem dX6_compose_114 : decode cX6_compose 114 = .ok (.iload_n 2, 1) := by decide +kernel
theorem dX6_compose_115 : decode cX6_compose 115 = .ok (.aload_n 0, 1) := by decide +kernel
theorem dX6_compose_116 : decode cX6_compose 116 = .ok (.getfield 14, 3) := by decide +kernel
theorem dX6_compose_119 : decode cX6_compose 119 = .ok (.invokevirtual 79, 3) := by decide +kernel
theorem dX6_compose_122 : decode cX6_compose 122 = .ok (.aload_n 0, 1) := by decide +kernel
theorem dX6_compose_123 : decode cX6_compose 123 = .ok (.iload_n 2, 1) := by decide +kernel
theorem dX6_compose_124 : decode cX6_compose 124 = .ok (.invokevirtual 83, 3) := by decide +kernel
theorem dX6_compose_127 : decode cX6_compose 127 = .ok (.aload_n 0, 1) := by decide +kernel
theorem dX6_compose_128 : decode cX6_compose 128 = .ok (.iload_n 2, 1) := by decide +kernel
theorem dX6_compose_129 : decode cX6_compose 129 = .ok (.invokevirtual 87, 3) := by decide +kernel
theorem dX6_compose_132 : decode cX6_compose 132 = .ok (.iinc 2 1, 3) := by decide +kernel
theorem dX6_compose_135 : decode cX6_compose 135 = .ok (.goto (-33), 3) := by decide +kernel
theorem dX6_compose_138 : decode cX6_compose 138 = .ok (.aload_n 0, 1) := by decide +kernel
theorem dX6_compose_139 : decode cX6_compose 139 = .ok (.getfield 30, 3) := by decide +kernel
theorem dX6_compose_142 : decode cX6_compose 142 = .ok (.iconst 2, 1) := by decide +kernel
theorem dX6_compose_143 : decode cX6_compose 143 = .ok (.iconst 5, 1) := by decide +kernel
theorem dX6_compose_144 : decode cX6_compose 144 = .ok (.invokevirtual 70, 3) := by decide +kernel
theorem dX6_compose_147 : decode cX6_compose 147 = .ok (.aload_n 0, 1) := by decide +kernel
theorem dX6_compose_148 : decode cX6_compose 148 = .ok (.getfield 30, 3) := by decide +kernel
theorem dX6_compose_151 : decode cX6_compose 151 = .ok (.invokevirtual 90, 3) := by decide +kernel
theorem dX6_compose_154 : decode cX6_compose 154 = .ok (.return_, 1) := by decide +kernel
theorem dX6_choose_0 : decode cX6_choose 0 = .ok (.aload_n 0, 1) := by decide +kernel
theorem dX6_choose_1 : decode cX6_choose 1 = .ok (.iload_n 1, 1) := by decide +kernel
theorem dX6_choose_2 : decode cX6_choose 2 = .ok (.iconst 0, 1) := by decide +kernel
theorem dX6_choose_3 : decode cX6_choose 3 = .ok (.invokevirtual 93, 3) := by decide +kernel
theorem dX6_choose_6 : decode cX6_choose 6 = .ok (.aload_n 0, 1) := by decide +kernel
theorem dX6_choose_7 : decode cX6_choose 7 = .ok (.iconst 0, 1) := by decide +kernel
theorem dX6_choose_8 : decode cX6_choose 8 = .ok (.invokevirtual 96, 3) := by decide +kernel
theorem dX6_choose_11 : decode cX6_choose 11 = .ok (.ifCond .ne 18, 3) := by decide +kernel
theorem dX6_choose_14 : decode cX6_choose 14 = .ok (.aload_n 0, 1) := by decide +kernel
theorem dX6_choose_15 : decode cX6_choose 15 = .ok (.getfield 34, 3) := by decide +kernel
theorem dX6_choose_18 : decode cX6_choose 18 = .ok (.iload_n 1, 1) := by decide +kernel
theorem dX6_choose_19 : decode cX6_choose 19 = .ok (.iconst 4, 1) := by decide +kernel
theorem dX6_choose_20 : decode cX6_choose 20 = .ok (.iastore, 1) := by decide +kernel
theorem dX6_choose_21 : decode cX6_choose 21 = .ok (.aload_n 0, 1) := by decide +kernel
theorem dX6_choose_22 : decode cX6_choose 22 = .ok (.getfield 38, 3) := by decide +kernel
theorem dX6_choose_25 : decode cX6_choose 25 = .ok (.iload_n 1, 1) := by decide +kernel
theorem dX6_choose_26 : decode cX6_choose 26 = .ok (.iconst (-1), 1) := by decide +kernel
theorem dX6_choose_27 : decode cX6_choose 27 = .ok (.iastore, 1) := by decide +kernel
theorem dX6_choose_28 : decode cX6_choose 28 = .ok (.return_, 1) := by decide +kernel
theorem dX6_choose_29 : decode cX6_choose 29 = .ok (.ldc 102, 2) := by decide +kernel
theorem dX6_choose_31 : decode cX6_choose 31 = .ok (.istore_n 2, 1) := by decide +kernel
theorem dX6_choose_32 : decode cX6_choose 32 = .ok (.iconst 0, 1) := by decide +kernel
theorem dX6_choose_33 : decode cX6_choose 33 = .ok (.istore_n 3, 1) := by decide +kernel
theorem dX6_choose_34 : decode cX6_choose 34 = .ok (.iload_n 3, 1) := by decide +kernel
theorem dX6_choose_35 : decode cX6_choose 35 = .ok (.iconst 4, 1) := by decide +kernel
theorem dX6_choose_36 : decode cX6_choose 36 = .ok (.if_icmp .ge 82, 3) := by decide +kernel
theorem dX6_choose_39 : decode cX6_choose 39 = .ok (.aload_n 0, 1) := by decide +kernel
theorem dX6_choose_40 : decode cX6_choose 40 = .ok (.iload_n 1, 1) := by decide +kernel
theorem dX6_choose_41 : decode cX6_choose 41 = .ok (.iload_n 3, 1) := by decide +kernel
theorem dX6_choose_42 : decode cX6_choose 42 = .ok (.invokevirtual 93, 3) := by decide +kernel
theorem dX6_choose_45 : decode cX6_choose 45 = .ok (.iconst 0, 1) := by decide +kernel
theorem dX6_choose_46 : decode cX6_choose 46 = .ok (.istore 4, 2) := by decide +kernel
theorem dX6_choose_48 : decode cX6_choose 48 = .ok (.iload 4, 2) := by decide +kernel
theorem dX6_choose_50 : decode cX6_choose 50 = .ok (.bipush 15, 2) := by decide +kernel
theorem dX6_choose_52 : decode cX6_choose 52 = .ok (.if_icmp .gt 60, 3) := by decide +kernel
theorem dX6_choose_55 : decode cX6_choose 55 = .ok (.aload_n 0, 1) := by decide +kernel
theorem dX6_choose_56 : decode cX6_choose 56 = .ok (.iload 4, 2) := by decide +kernel
theorem dX6_choose_58 : decode cX6_choose 58 = .ok (.invokevirtual 96, 3) := by decide +kernel
theorem dX6_choose_61 : decode cX6_choose 61 = .ok (.istore 5, 2) := by decide +kernel
theorem dX6_choose_63 : decode cX6_choose 63 = .ok (.aload_n 0, 1) := by decide +kernel
theorem dX6_choose_64 : decode cX6_choose 64 = .ok (.iload_n 3, 1) := by decide +kernel
theorem dX6_choose_65 : decode cX6_choose 65 = .ok (.iload 4, 2) := by decide +kernel
theorem dX6_choose_67 : decode cX6_choose 67 = .ok (.iload 5, 2) := by decide +kernel
theorem dX6_choose_69 : decode cX6_choose 69 = .ok (.invokevirtual 103, 3) := by decide +kernel
theorem dX6_choose_72 : decode cX6_choose 72 = .ok (.istore 6, 2) := by decide +kernel
theorem dX6_choose_74 : decode cX6_choose 74 = .ok (.iload 6, 2) := by decide +kernel
theorem dX6_choose_76 : decode cX6_choose 76 = .ok (.iload_n 2, 1) := by decide +kernel
theorem dX6_choose_77 : decode cX6_choose 77 = .ok (.if_icmp .ge 21, 3) := by decide +kernel
theorem dX6_choose_80 : decode cX6_choose 80 = .ok (.iload 6, 2) := by decide +kernel
theorem dX6_choose_82 : decode cX6_choose 82 = .ok (.istore_n 2, 1) := by decide +kernel
theorem dX6_choose_83 : decode cX6_choose 83 = .ok (.aload_n 0, 1) := by decide +kernel
theorem dX6_choose_84 : decode cX6_choose 84 = .ok (.getfield 34, 3) := by decide +kernel
theorem dX6_choose_87 : decode cX6_choose 87 = .ok (.iload_n 1, 1) := by decide +kernel
theorem dX6_choose_88 : decode cX6_choose 88 = .ok (.iload_n 3, 1) := by decide +kernel
theorem dX6_choose_89 : decode cX6_choose 89 = .ok (.iastore, 1) := by decide +kernel
theorem dX6_choose_90 : decode cX6_choose 90 = .ok (.aload_n 0, 1) := by decide +kernel
theorem dX6_choose_91 : decode cX6_choose 91 = .ok (.getfield 38, 3) := by decide +kernel
theorem dX6_choose_94 : decode cX6_choose 94 = .ok (.iload_n 1, 1) := by decide +kernel
theorem dX6_choose_95 : decode cX6_choose 95 = .ok (.iload 4, 2) := by decide +kernel
theorem dX6_choose_97 : decode cX6_choose 97 = .ok (.iastore, 1) := by decide +kernel
theorem dX6_choose_98 : decode cX6_choose 98 = .ok (.iload 5, 2) := by decide +kernel
theorem dX6_choose_100 : decode cX6_choose 100 = .ok (.ifCond .ne 6, 3) := by decide +kernel
theorem dX6_choose_103 : decode cX6_choose 103 = .ok (.goto 9, 3) := by decide +kernel
theorem dX6_choose_106 : decode cX6_choose 106 = .ok (.iinc 4 1, 3) := by decide +kernel
theorem dX6_choose_109 : decode cX6_choose 109 = .ok (.goto (-61), 3) := by decide +kernel
theorem dX6_choose_112 : decode cX6_choose 112 = .ok (.iinc 3 1, 3) := by decide +kernel
theorem dX6_choose_115 : decode cX6_choose 115 = .ok (.goto (-81), 3) := by decide +kernel
theorem dX6_choose_118 : decode cX6_choose 118 = .ok (.return_, 1) := by decide +kernel
theorem dX6_putBlock_0 : decode cX6_putBlock 0 = .ok (.aload_n 0, 1) := by decide +kernel
theorem dX6_putBlock_1 : decode cX6_putBlock 1 = .ok (.getfield 34, 3) := by decide +kernel
theorem dX6_putBlock_4 : decode cX6_putBlock 4 = .ok (.iload_n 1, 1) := by decide +kernel
theorem dX6_putBlock_5 : decode cX6_putBlock 5 = .ok (.iaload, 1) := by decide +kernel
theorem dX6_putBlock_6 : decode cX6_putBlock 6 = .ok (.istore_n 2, 1) := by decide +kernel
theorem dX6_putBlock_7 : decode cX6_putBlock 7 = .ok (.aload_n 0, 1) := by decide +kernel
theorem dX6_putBlock_8 : decode cX6_putBlock 8 = .ok (.getfield 30, 3) := by decide +kernel
theorem dX6_putBlock_11 : decode cX6_putBlock 11 = .ok (.iconst 2, 1) := by decide +kernel
theorem dX6_putBlock_12 : decode cX6_putBlock 12 = .ok (.iload_n 2, 1) := by decide +kernel
theorem dX6_putBlock_13 : decode cX6_putBlock 13 = .ok (.invokevirtual 70, 3) := by decide +kernel
theorem dX6_putBlock_16 : decode cX6_putBlock 16 = .ok (.iload_n 2, 1) := by decide +kernel
theorem dX6_putBlock_17 : decode cX6_putBlock 17 = .ok (.iconst 4, 1) := by decide +kernel
theorem dX6_putBlock_18 : decode cX6_putBlock 18 = .ok (.if_icmp .ne 4, 3) := by decide +kernel
theorem dX6_putBlock_21 : decode cX6_putBlock 21 = .ok (.return_, 1) := by decide +kernel
theorem dX6_putBlock_22 : decode cX6_putBlock 22 = .ok (.aload_n 0, 1) := by decide +kernel
theorem dX6_putBlock_23 : decode cX6_putBlock 23 = .ok (.getfield 38, 3) := by decide +kernel
theorem dX6_putBlock_26 : decode cX6_putBlock 26 = .ok (.iload_n 1, 1) := by decide +kernel
theorem dX6_putBlock_27 : decode cX6_putBlock 27 = .ok (.iaload, 1) := by decide +kernel
theorem dX6_putBlock_28 : decode cX6_putBlock 28 = .ok (.istore_n 3, 1) := by decide +kernel
theorem dX6_putBlock_29 : decode cX6_putBlock 29 = .ok (.aload_n 0, 1) := by decide +kernel
theorem dX6_putBlock_30 : decode cX6_putBlock 30 = .ok (.getfield 30, 3) := by decide +kernel
theorem dX6_putBlock_33 : decode cX6_putBlock 33 = .ok (.iconst 3, 1) := by decide +kernel
theorem dX6_putBlock_34 : decode cX6_putBlock 34 = .ok (.iload_n 3, 1) := by decide +kernel
theorem dX6_putBlock_35 : decode cX6_putBlock 35 = .ok (.invokevirtual 70, 3) := by decide +kernel
theorem dX6_putBlock_38 : decode cX6_putBlock 38 = .ok (.aload_n 0, 1) := by decide +kernel
theorem dX6_putBlock_39 : decode cX6_putBlock 39 = .ok (.iload_n 1, 1) := by decide +kernel
theorem dX6_putBlock_40 : decode cX6_putBlock 40 = .ok (.iload_n 2, 1) := by decide +kernel
theorem dX6_putBlock_41 : decode cX6_putBlock 41 = .ok (.invokevirtual 93, 3) := by decide +kernel
theorem dX6_putBlock_44 : decode cX6_putBlock 44 = .ok (.iconst 0, 1) := by decide +kernel
theorem dX6_putBlock_45 : decode cX6_putBlock 45 = .ok (.istore 4, 2) := by decide +kernel
theorem dX6_putBlock_47 : decode cX6_putBlock 47 = .ok (.iload 4, 2) := by decide +kernel
theorem dX6_putBlock_49 : decode cX6_putBlock 49 = .ok (.aload_n 0, 1) := by decide +kernel
theorem dX6_putBlock_50 : decode cX6_putBlock 50 = .ok (.getfield 107, 3) := by decide +kernel
theorem dX6_putBlock_53 : decode cX6_putBlock 53 = .ok (.if_icmp .ge 24, 3) := by decide +kernel
theorem dX6_putBlock_56 : decode cX6_putBlock 56 = .ok (.aload_n 0, 1) := by decide +kernel
theorem dX6_putBlock_57 : decode cX6_putBlock 57 = .ok (.getfield 30, 3) := by decide +kernel
theorem dX6_putBlock_60 : decode cX6_putBlock 60 = .ok (.iload_n 3, 1) := by decide +kernel
theorem dX6_putBlock_61 : decode cX6_putBlock 61 = .ok (.aload_n 0, 1) := by decide +kernel
theorem dX6_putBlock_62 : decode cX6_putBlock 62 = .ok (.getfield 41, 3) := by decide +kernel
theorem dX6_putBlock_65 : decode cX6_putBlock 65 = .ok (.iload 4, 2) := by decide +kernel
theorem dX6_putBlock_67 : decode cX6_putBlock 67 = .ok (.iaload, 1) := by decide +kernel
theorem dX6_putBlock_68 : decode cX6_putBlock 68 = .ok (.invokevirtual 70, 3) := by decide +kernel
theorem dX6_putBlock_71 : decode cX6_putBlock 71 = .ok (.iinc 4 1, 3) := by decide +kernel
theorem dX6_putBlock_74 : decode cX6_putBlock 74 = .ok (.goto (-27), 3) := by decide +kernel
theorem dX6_putBlock_77 : decode cX6_putBlock 77 = .ok (.return_, 1) := by decide +kernel
theorem dX6_findRests_0 : decode cX6_findRests 0 = .ok (.aload_n 0, 1) := by decide +kernel
theorem dX6_findRests_1 : decode cX6_findRests 1 = .ok (.getfield 23, 3) := by decide +kernel
theorem dX6_findRests_4 : decode cX6_findRests 4 = .ok (.iload_n 1, 1) := by decide +kernel
theorem dX6_findRests_5 : decode cX6_findRests 5 = .ok (.aload_n 0, 1) := by decide +kernel
theorem dX6_findRests_6 : decode cX6_findRests 6 = .ok (.getfield 14, 3) := by decide +kernel
theorem dX6_findRests_9 : decode cX6_findRests 9 = .ok (.getfield 67, 3) := by decide +kernel
theorem dX6_findRests_12 : decode cX6_findRests 12 = .ok (.invokevirtual 110, 3) := by decide +kernel
theorem dX6_findRests_15 : decode cX6_findRests 15 = .ok (.istore_n 3, 1) := by decide +kernel
theorem dX6_findRests_16 : decode cX6_findRests 16 = .ok (.aload_n 0, 1) := by decide +kernel
theorem dX6_findRests_17 : decode cX6_findRests 17 = .ok (.getfield 14, 3) := by decide +kernel
theorem dX6_findRests_20 : decode cX6_findRests 20 = .ok (.iload_n 1, 1) := by decide +kernel
theorem dX6_findRests_21 : decode cX6_findRests 21 = .ok (.invokevirtual 113, 3) := by decide +kernel
theorem dX6_findRests_24 : decode cX6_findRests 24 = .ok (.istore 4, 2) := by decide +kernel
theorem dX6_findRests_26 : decode cX6_findRests 26 = .ok (.aload_n 0, 1) := by decide +kernel
theorem dX6_findRests_27 : decode cX6_findRests 27 = .ok (.aload_n 0, 1) := by decide +kernel
theorem dX6_findRests_28 : decode cX6_findRests 28 = .ok (.getfield 14, 3) := by decide +kernel
theorem dX6_findRests_31 : decode cX6_findRests 31 = .ok (.iload_n 1, 1) := by decide +kernel
theorem dX6_findRests_32 : decode cX6_findRests 32 = .ok (.invokevirtual 116, 3) := by decide +kernel
theorem dX6_findRests_35 : decode cX6_findRests 35 = .ok (.bipush 64, 2) := by decide +kernel
theorem dX6_findRests_37 : decode cX6_findRests 37 = .ok (.invokestatic 52, 3) := by decide +kernel
theorem dX6_findRests_40 : decode cX6_findRests 40 = .ok (.putfield 107, 3) := by decide +kernel
theorem dX6_findRests_43 : decode cX6_findRests 43 = .ok (.iconst 0, 1) := by decide +kernel
theorem dX6_findRests_44 : decode cX6_findRests 44 = .ok (.istore 5, 2) := by decide +kernel
theorem dX6_findRests_46 : decode cX6_findRests 46 = .ok (.iload 5, 2) := by decide +kernel
theorem dX6_findRests_48 : decode cX6_findRests 48 = .ok (.aload_n 0, 1) := by decide +kernel
theorem dX6_findRests_49 : decode cX6_findRests 49 = .ok (.getfield 107, 3) := by decide +kernel
theorem dX6_findRests_52 : decode cX6_findRests 52 = .ok (.if_icmp .ge 52, 3) := by decide +kernel
theorem dX6_findRests_55 : decode cX6_findRests 55 = .ok (.aload_n 0, 1) := by decide +kernel
theorem dX6_findRests_56 : decode cX6_findRests 56 = .ok (.getfield 41, 3) := by decide +kernel
theorem dX6_findRests_59 : decode cX6_findRests 59 = .ok (.iload 5, 2) := by decide +kernel
theorem dX6_findRests_61 : decode cX6_findRests 61 = .ok (.aload_n 0, 1) := by decide +kernel
theorem dX6_findRests_62 : decode cX6_findRests 62 = .ok (.getfield 14, 3) := by decide +kernel
theorem dX6_findRests_65 : decode cX6_findRests 65 = .ok (.iload 4, 2) := by decide +kernel
theorem dX6_findRests_67 : decode cX6_findRests 67 = .ok (.invokevirtual 119, 3) := by decide +kernel
theorem dX6_findRests_70 : decode cX6_findRests 70 = .ok (.aload_n 0, 1) := by decide +kernel
theorem dX6_findRests_71 : decode cX6_findRests 71 = .ok (.getfield 14, 3) := by decide +kernel
theorem dX6_findRests_74 : decode cX6_findRests 74 = .ok (.iload_n 2, 1) := by decide +kernel
theorem dX6_findRests_75 : decode cX6_findRests 75 = .ok (.iload 4, 2) := by decide +kernel
theorem dX6_findRests_77 : decode cX6_findRests 77 = .ok (.iload_n 3, 1) := by decide +kernel
theorem dX6_findRests_78 : decode cX6_findRests 78 = .ok (.invokevirtual 122, 3) := by decide +kernel
theorem dX6_findRests_81 : decode cX6_findRests 81 = .ok (.isub, 1) := by decide +kernel
theorem dX6_findRests_82 : decode cX6_findRests 82 = .ok (.invokestatic 125, 3) := by decide +kernel
theorem dX6_findRests_85 : decode cX6_findRests 85 = .ok (.iastore, 1) := by decide +kernel
theorem dX6_findRests_86 : decode cX6_findRests 86 = .ok (.iload 4, 2) := by decide +kernel
theorem dX6_findRests_88 : decode cX6_findRests 88 = .ok (.aload_n 0, 1) := by decide +kernel
theorem dX6_findRests_89 : decode cX6_findRests 89 = .ok (.getfield 14, 3) := by decide +kernel
theorem dX6_findRests_92 : decode cX6_findRests 92 = .ok (.getfield 67, 3) := by decide +kernel
theorem dX6_findRests_95 : decode cX6_findRests 95 = .ok (.iadd, 1) := by decide +kernel
theorem dX6_findRests_96 : decode cX6_findRests 96 = .ok (.istore 4, 2) := by decide +kernel
theorem dX6_findRests_98 : decode cX6_findRests 98 = .ok (.iinc 5 1, 3) := by decide +kernel
theorem dX6_findRests_101 : decode cX6_findRests 101 = .ok (.goto (-55), 3) := by decide +kernel
theorem dX6_findRests_104 : decode cX6_findRests 104 = .ok (.return_, 1) := by decide +kernel
theorem dX6_zerosFor_0 : decode cX6_zerosFor 0 = .ok (.iconst 0, 1) := by decide +kernel
theorem dX6_zerosFor_1 : decode cX6_zerosFor 1 = .ok (.istore_n 2, 1) := by decide +kernel
theorem dX6_zerosFor_2 : decode cX6_zerosFor 2 = .ok (.iconst 0, 1) := by decide +kernel
theorem dX6_zerosFor_3 : decode cX6_zerosFor 3 = .ok (.istore_n 3, 1) := by decide +kernel
theorem dX6_zerosFor_4 : decode cX6_zerosFor 4 = .ok (.iload_n 3, 1) := by decide +kernel
theorem dX6_zerosFor_5 : decode cX6_zerosFor 5 = .ok (.aload_n 0, 1) := by decide +kernel
theorem dX6_zerosFor_6 : decode cX6_zerosFor 6 = .ok (.getfield 107, 3) := by decide +kernel
theorem dX6_zerosFor_9 : decode cX6_zerosFor 9 = .ok (.if_icmp .ge 20, 3) := by decide +kernel
theorem dX6_zerosFor_12 : decode cX6_zerosFor 12 = .ok (.iload_n 2, 1) := by decide +kernel
theorem dX6_zerosFor_13 : decode cX6_zerosFor 13 = .ok (.aload_n 0, 1) := by decide +kernel
theorem dX6_zerosFor_14 : decode cX6_zerosFor 14 = .ok (.getfield 41, 3) := by decide +kernel
theorem dX6_zerosFor_17 : decode cX6_zerosFor 17 = .ok (.iload_n 3, 1) := by decide +kernel
theorem dX6_zerosFor_18 : decode cX6_zerosFor 18 = .ok (.iaload, 1) := by decide +kernel
theorem dX6_zerosFor_19 : decode cX6_zerosFor 19 = .ok (.iload_n 1, 1) := by decide +kernel
theorem dX6_zerosFor_20 : decode cX6_zerosFor 20 = .ok (.ishr, 1) := by decide +kernel
theorem dX6_zerosFor_21 : decode cX6_zerosFor 21 = .ok (.iadd, 1) := by decide +kernel
theorem dX6_zerosFor_22 : decode cX6_zerosFor 22 = .ok (.istore_n 2, 1) := by decide +kernel
theorem dX6_zerosFor_23 : decode cX6_zerosFor 23 = .ok (.iinc 3 1, 3) := by decide +kernel
theorem dX6_zerosFor_26 : decode cX6_zerosFor 26 = .ok (.goto (-22), 3) := by decide +kernel
theorem dX6_zerosFor_29 : decode cX6_zerosFor 29 = .ok (.iload_n 2, 1) := by decide +kernel
theorem dX6_zerosFor_30 : decode cX6_zerosFor 30 = .ok (.ireturn, 1) := by decide +kernel
theorem dX6_bitsWith_0 : decode cX6_bitsWith 0 = .ok (.iconst 2, 1) := by decide +kernel
theorem dX6_bitsWith_1 : decode cX6_bitsWith 1 = .ok (.iload_n 1, 1) := by decide +kernel
theorem dX6_bitsWith_2 : decode cX6_bitsWith 2 = .ok (.invokestatic 128, 3) := by decide +kernel
theorem dX6_bitsWith_5 : decode cX6_bitsWith 5 = .ok (.iconst 3, 1) := by decide +kernel
theorem dX6_bitsWith_6 : decode cX6_bitsWith 6 = .ok (.iload_n 2, 1) := by decide +kernel
theorem dX6_bitsWith_7 : decode cX6_bitsWith 7 = .ok (.invokestatic 128, 3) := by decide +kernel
theorem dX6_bitsWith_10 : decode cX6_bitsWith 10 = .ok (.iadd, 1) := by decide +kernel
theorem dX6_bitsWith_11 : decode cX6_bitsWith 11 = .ok (.iload_n 3, 1) := by decide +kernel
theorem dX6_bitsWith_12 : decode cX6_bitsWith 12 = .ok (.iadd, 1) := by decide +kernel
theorem dX6_bitsWith_13 : decode cX6_bitsWith 13 = .ok (.aload_n 0, 1) := by decide +kernel
theorem dX6_bitsWith_14 : decode cX6_bitsWith 14 = .ok (.getfield 107, 3) := by decide +kernel
theorem dX6_bitsWith_17 : decode cX6_bitsWith 17 = .ok (.iconst 1, 1) := by decide +kernel
theorem dX6_bitsWith_18 : decode cX6_bitsWith 18 = .ok (.iload_n 2, 1) := by decide +kernel
theorem dX6_bitsWith_19 : decode cX6_bitsWith 19 = .ok (.iadd, 1) := by decide +kernel
theorem dX6_bitsWith_20 : decode cX6_bitsWith 20 = .ok (.imul, 1) := by decide +kernel
theorem dX6_bitsWith_21 : decode cX6_bitsWith 21 = .ok (.iadd, 1) := by decide +kernel
theorem dX6_bitsWith_22 : decode cX6_bitsWith 22 = .ok (.ireturn, 1) := by decide +kernel
theorem dX6_bitsFor_0 : decode cX6_bitsFor 0 = .ok (.aload_n 0, 1) := by decide +kernel
theorem dX6_bitsFor_1 : decode cX6_bitsFor 1 = .ok (.iload_n 1, 1) := by decide +kernel
theorem dX6_bitsFor_2 : decode cX6_bitsFor 2 = .ok (.iload_n 2, 1) := by decide +kernel
theorem dX6_bitsFor_3 : decode cX6_bitsFor 3 = .ok (.invokevirtual 93, 3) := by decide +kernel
theorem dX6_bitsFor_6 : decode cX6_bitsFor 6 = .ok (.aload_n 0, 1) := by decide +kernel
theorem dX6_bitsFor_7 : decode cX6_bitsFor 7 = .ok (.iload_n 2, 1) := by decide +kernel
theorem dX6_bitsFor_8 : decode cX6_bitsFor 8 = .ok (.iload_n 3, 1) := by decide +kernel
theorem dX6_bitsFor_9 : decode cX6_bitsFor 9 = .ok (.aload_n 0, 1) := by decide +kernel
theorem dX6_bitsFor_10 : decode cX6_bitsFor 10 = .ok (.iload_n 3, 1) := by decide +kernel
theorem dX6_bitsFor_11 : decode cX6_bitsFor 11 = .ok (.invokevirtual 96, 3) := by decide +kernel
theorem dX6_bitsFor_14 : decode cX6_bitsFor 14 = .ok (.invokevirtual 103, 3) := by decide +kernel
theorem dX6_bitsFor_17 : decode cX6_bitsFor 17 = .ok (.ireturn, 1) := by decide +kernel
theorem dX6_bitsTaken_0 : decode cX6_bitsTaken 0 = .ok (.aload_n 0, 1) := by decide +kernel
theorem dX6_bitsTaken_1 : decode cX6_bitsTaken 1 = .ok (.getfield 34, 3) := by decide +kernel
theorem dX6_bitsTaken_4 : decode cX6_bitsTaken 4 = .ok (.iload_n 1, 1) := by decide +kernel
theorem dX6_bitsTaken_5 : decode cX6_bitsTaken 5 = .ok (.iaload, 1) := by decide +kernel
theorem dX6_bitsTaken_6 : decode cX6_bitsTaken 6 = .ok (.iconst 4, 1) := by decide +kernel
theorem dX6_bitsTaken_7 : decode cX6_bitsTaken 7 = .ok (.if_icmp .ne 11, 3) := by decide +kernel
theorem dX6_bitsTaken_10 : decode cX6_bitsTaken 10 = .ok (.iconst 2, 1) := by decide +kernel
theorem dX6_bitsTaken_11 : decode cX6_bitsTaken 11 = .ok (.iconst 4, 1) := by decide +kernel
theorem dX6_bitsTaken_12 : decode cX6_bitsTaken 12 = .ok (.invokestatic 128, 3) := by decide +kernel
theorem dX6_bitsTaken_15 : decode cX6_bitsTaken 15 = .ok (.goto 20, 3) := by decide +kernel
theorem dX6_bitsTaken_18 : decode cX6_bitsTaken 18 = .ok (.aload_n 0, 1) := by decide +kernel
theorem dX6_bitsTaken_19 : decode cX6_bitsTaken 19 = .ok (.iload_n 1, 1) := by decide +kernel
theorem dX6_bitsTaken_20 : decode cX6_bitsTaken 20 = .ok (.aload_n 0, 1) := by decide +kernel
theorem dX6_bitsTaken_21 : decode cX6_bitsTaken 21 = .ok (.getfield 34, 3) := by decide +kernel
theorem dX6_bitsTaken_24 : decode cX6_bitsTaken 24 = .ok (.iload_n 1, 1) := by decide +kernel
theorem dX6_bitsTaken_25 : decode cX6_bitsTaken 25 = .ok (.iaload, 1) := by decide +kernel
theorem dX6_bitsTaken_26 : decode cX6_bitsTaken 26 = .ok (.aload_n 0, 1) := by decide +kernel
theorem dX6_bitsTaken_27 : decode cX6_bitsTaken 27 = .ok (.getfield 38, 3) := by decide +kernel
theorem dX6_bitsTaken_30 : decode cX6_bitsTaken 30 = .ok (.iload_n 1, 1) := by decide +kernel
theorem dX6_bitsTaken_31 : decode cX6_bitsTaken 31 = .ok (.iaload, 1) := by decide +kernel
theorem dX6_bitsTaken_32 : decode cX6_bitsTaken 32 = .ok (.invokevirtual 131, 3) := by decide +kernel
theorem dX6_bitsTaken_35 : decode cX6_bitsTaken 35 = .ok (.ireturn, 1) := by decide +kernel
theorem dX7_init_0 : decode cX7_init 0 = .ok (.aload_n 0, 1) := by decide +kernel
theorem dX7_init_1 : decode cX7_init 1 = .ok (.invokespecial 3, 3) := by decide +kernel
theorem dX7_init_4 : decode cX7_init 4 = .ok (.aload_n 0, 1) := by decide +kernel
theorem dX7_init_5 : decode cX7_init 5 = .ok (.new 9, 3) := by decide +kernel
theorem dX7_init_8 : decode cX7_init 8 = .ok (.dup, 1) := by decide +kernel
theorem dX7_init_9 : decode cX7_init 9 = .ok (.iconst 1, 1) := by decide +kernel
theorem dX7_init_10 : decode cX7_init 10 = .ok (.bipush 16, 2) := by decide +kernel
theorem dX7_init_12 : decode cX7_init 12 = .ok (.invokespecial 11, 3) := by decide +kernel
theorem dX7_init_15 : decode cX7_init 15 = .ok (.putfield 14, 3) := by decide +kernel
theorem dX7_init_18 : decode cX7_init 18 = .ok (.aload_n 0, 1) := by decide +kernel
theorem dX7_init_19 : decode cX7_init 19 = .ok (.new 18, 3) := by decide +kernel
theorem dX7_init_22 : decode cX7_init 22 = .ok (.dup, 1) := by decide +kernel
theorem dX7_init_23 : decode cX7_init 23 = .ok (.invokespecial 20, 3) := by decide +kernel
theorem dX7_init_26 : decode cX7_init 26 = .ok (.putfield 21, 3) := by decide +kernel
theorem dX7_init_29 : decode cX7_init 29 = .ok (.aload_n 0, 1) := by decide +kernel
theorem dX7_init_30 : decode cX7_init 30 = .ok (.new 25, 3) := by decide +kernel
theorem dX7_init_33 : decode cX7_init 33 = .ok (.dup, 1) := by decide +kernel
theorem dX7_init_34 : decode cX7_init 34 = .ok (.invokespecial 27, 3) := by decide +kernel
theorem dX7_init_37 : decode cX7_init 37 = .ok (.putfield 28, 3) := by decide +kernel
theorem dX7_init_40 : decode cX7_init 40 = .ok (.aload_n 0, 1) := by decide +kernel
theorem dX7_init_41 : decode cX7_init 41 = .ok (.aload_n 0, 1) := by decide +kernel
theorem dX7_init_42 : decode cX7_init 42 = .ok (.getfield 21, 3) := by decide +kernel
theorem dX7_init_45 : decode cX7_init 45 = .ok (.getfield 32, 3) := by decide +kernel
theorem dX7_init_48 : decode cX7_init 48 = .ok (.getfield 36, 3) := by decide +kernel
theorem dX7_init_51 : decode cX7_init 51 = .ok (.putfield 42, 3) := by decide +kernel
theorem dX7_init_54 : decode cX7_init 54 = .ok (.aload_n 0, 1) := by decide +kernel
theorem dX7_init_55 : decode cX7_init 55 = .ok (.aload_n 0, 1) := by decide +kernel
theorem dX7_init_56 : decode cX7_init 56 = .ok (.getfield 28, 3) := by decide +kernel
theorem dX7_init_59 : decode cX7_init 59 = .ok (.getfield 45, 3) := by decide +kernel
theorem dX7_init_62 : decode cX7_init 62 = .ok (.getfield 48, 3) := by decide +kernel
theorem dX7_init_65 : decode cX7_init 65 = .ok (.putfield 51, 3) := by decide +kernel
theorem dX7_init_68 : decode cX7_init 68 = .ok (.return_, 1) := by decide +kernel
theorem dX7_settings_0 : decode cX7_settings 0 = .ok (.iload_n 1, 1) := by decide +kernel
theorem dX7_settings_1 : decode cX7_settings 1 = .ok (.iconst 1, 1) := by decide +kernel
theorem dX7_settings_2 : decode cX7_settings 2 = .ok (.if_icmp .lt 19, 3) := by decide +kernel
theorem dX7_settings_5 : decode cX7_settings 5 = .ok (.iload_n 1, 1) := by decide +kernel
theorem dX7_settings_6 : decode cX7_settings 6 = .ok (.iconst 2, 1) := by decide +kernel
theorem dX7_settings_7 : decode cX7_settings 7 = .ok (.if_icmp .gt 14, 3) := by decide +kernel
theorem dX7_settings_10 : decode cX7_settings 10 = .ok (.iload_n 2, 1) := by decide +kernel
theorem dX7_settings_11 : decode cX7_settings 11 = .ok (.iconst 1, 1) := by decide +kernel
theorem dX7_settings_12 : decode cX7_settings 12 = .ok (.if_icmp .lt 9, 3) := by decide +kernel
theorem dX7_settings_15 : decode cX7_settings 15 = .ok (.iload_n 2, 1) := by decide +kernel
theorem dX7_settings_16 : decode cX7_settings 16 = .ok (.bipush 64, 2) := by decide +kernel
theorem dX7_settings_18 : decode cX7_settings 18 = .ok (.if_icmp .le 5, 3) := by decide +kernel
theorem dX7_settings_21 : decode cX7_settings 21 = .ok (.iconst 0, 1) := by decide +kernel
theorem dX7_settings_22 : decode cX7_settings 22 = .ok (.ireturn, 1) := by decide +kernel
theorem dX7_settings_23 : decode cX7_settings 23 = .ok (.aload_n 0, 1) := by decide +kernel
theorem dX7_settings_24 : decode cX7_settings 24 = .ok (.getfield 14, 3) := by decide +kernel
theorem dX7_settings_27 : decode cX7_settings 27 = .ok (.iload_n 1, 1) := by decide +kernel
theorem dX7_settings_28 : decode cX7_settings 28 = .ok (.iload_n 2, 1) := by decide +kernel
theorem dX7_settings_29 : decode cX7_settings 29 = .ok (.invokevirtual 54, 3) := by decide +kernel
theorem dX7_settings_32 : decode cX7_settings 32 = .ok (.iconst 1, 1) := by decide +kernel
theorem dX7_settings_33 : decode cX7_settings 33 = .ok (.ireturn, 1) := by decide +kernel
theorem dX7_sample_0 : decode cX7_sample 0 = .ok (.iload_n 1, 1) := by decide +kernel
theorem dX7_sample_1 : decode cX7_sample 1 = .ok (.invokestatic 57, 3) := by decide +kernel
theorem dX7_sample_4 : decode cX7_sample 4 = .ok (.ifCond .eq 24, 3) := by decide +kernel
theorem dX7_sample_7 : decode cX7_sample 7 = .ok (.aload_n 0, 1) := by decide +kernel
theorem dX7_sample_8 : decode cX7_sample 8 = .ok (.getfield 14, 3) := by decide +kernel
theorem dX7_sample_11 : decode cX7_sample 11 = .ok (.iload_n 1, 1) := by decide +kernel
theorem dX7_sample_12 : decode cX7_sample 12 = .ok (.invokevirtual 61, 3) := by decide +kernel
theorem dX7_sample_15 : decode cX7_sample 15 = .ok (.ifCond .eq 13, 3) := by decide +kernel
theorem dX7_sample_18 : decode cX7_sample 18 = .ok (.aload_n 0, 1) := by decide +kernel
theorem dX7_sample_19 : decode cX7_sample 19 = .ok (.getfield 14, 3) := by decide +kernel
theorem dX7_sample_22 : decode cX7_sample 22 = .ok (.getfield 64, 3) := by decide +kernel
theorem dX7_sample_25 : decode cX7_sample 25 = .ok (.goto 4, 3) := by decide +kernel
theorem dX7_sample_28 : decode cX7_sample 28 = .ok (.iconst (-1), 1) := by decide +kernel
theorem dX7_sample_29 : decode cX7_sample 29 = .ok (.ireturn, 1) := by decide +kernel
theorem dX7_write_0 : decode cX7_write 0 = .ok (.aload_n 0, 1) := by decide +kernel
theorem dX7_write_1 : decode cX7_write 1 = .ok (.getfield 21, 3) := by decide +kernel
theorem dX7_write_4 : decode cX7_write 4 = .ok (.aload_n 0, 1) := by decide +kernel
theorem dX7_write_5 : decode cX7_write 5 = .ok (.getfield 14, 3) := by decide +kernel
theorem dX7_write_8 : decode cX7_write 8 = .ok (.invokevirtual 68, 3) := by decide +kernel
theorem dX7_write_11 : decode cX7_write 11 = .ok (.aload_n 0, 1) := by decide +kernel
theorem dX7_write_12 : decode cX7_write 12 = .ok (.getfield 42, 3) := by decide +kernel
theorem dX7_write_15 : decode cX7_write 15 = .ok (.getfield 72, 3) := by decide +kernel
theorem dX7_write_18 : decode cX7_write 18 = .ok (.ireturn, 1) := by decide +kernel
theorem dX7_at_0 : decode cX7_at 0 = .ok (.aload_n 0, 1) := by decide +kernel
theorem dX7_at_1 : decode cX7_at 1 = .ok (.getfield 42, 3) := by decide +kernel
theorem dX7_at_4 : decode cX7_at 4 = .ok (.iload_n 1, 1) := by decide +kernel
theorem dX7_at_5 : decode cX7_at 5 = .ok (.invokevirtual 75, 3) := by decide +kernel
theorem dX7_at_8 : decode cX7_at 8 = .ok (.ireturn, 1) := by decide +kernel
theorem dX7_block_0 : decode cX7_block 0 = .ok (.iload_n 1, 1) := by decide +kernel
theorem dX7_block_1 : decode cX7_block 1 = .ok (.ifCond .lt 14, 3) := by decide +kernel
theorem dX7_block_4 : decode cX7_block 4 = .ok (.iload_n 1, 1) := by decide +kernel
theorem dX7_block_5 : decode cX7_block 5 = .ok (.aload_n 0, 1) := by decide +kernel
theorem dX7_block_6 : decode cX7_block 6 = .ok (.getfield 21, 3) := by decide +kernel
theorem dX7_block_9 : decode cX7_block 9 = .ok (.getfield 79, 3) := by decide +kernel
theorem dX7_block_12 : decode cX7_block 12 = .ok (.if_icmp .lt 5, 3) := by decide +kernel
theorem dX7_block_15 : decode cX7_block 15 = .ok (.iconst (-1), 1) := by decide +kernel
theorem dX7_block_16 : decode cX7_block 16 = .ok (.ireturn, 1) := by decide +kernel
theorem dX7_block_17 : decode cX7_block 17 = .ok (.iload_n 2, 1) := by decide +kernel
theorem dX7_block_18 : decode cX7_block 18 = .ok (.tableswitch 71 0 3 #[30, 42, 52, 62], 30) := by decide +kernel
theorem dX7_block_48 : decode cX7_block 48 = .ok (.aload_n 0, 1) := by decide +kernel
theorem dX7_block_49 : decode cX7_block 49 = .ok (.getfield 21, 3) := by decide +kernel
theorem dX7_block_52 : decode cX7_block 52 = .ok (.getfield 82, 3) := by decide +kernel
theorem dX7_block_55 : decode cX7_block 55 = .ok (.iload_n 1, 1) := by decide +kernel
theorem dX7_block_56 : decode cX7_block 56 = .ok (.invokevirtual 85, 3) := by decide +kernel
theorem dX7_block_59 : decode cX7_block 59 = .ok (.ireturn, 1) := by decide +kernel
theorem dX7_block_60 : decode cX7_block 60 = .ok (.aload_n 0, 1) := by decide +kernel
theorem dX7_block_61 : decode cX7_block 61 = .ok (.getfield 21, 3) := by decide +kernel
theorem dX7_block_64 : decode cX7_block 64 = .ok (.getfield 88, 3) := by decide +kernel
theorem dX7_block_67 : decode cX7_block 67 = .ok (.iload_n 1, 1) := by decide +kernel
theorem dX7_block_68 : decode cX7_block 68 = .ok (.iaload, 1) := by decide +kernel
theorem dX7_block_69 : decode cX7_block 69 = .ok (.ireturn, 1) := by decide +kernel
theorem dX7_block_70 : decode cX7_block 70 = .ok (.aload_n 0, 1) := by decide +kernel
theorem dX7_block_71 : decode cX7_block 71 = .ok (.getfield 21, 3) := by decide +kernel
theorem dX7_block_74 : decode cX7_block 74 = .ok (.getfield 92, 3) := by decide +kernel
theorem dX7_block_77 : decode cX7_block 77 = .ok (.iload_n 1, 1) := by decide +kernel
theorem dX7_block_78 : decode cX7_block 78 = .ok (.iaload, 1) := by decide +kernel
theorem dX7_block_79 : decode cX7_block 79 = .ok (.ireturn, 1) := by decide +kernel
theorem dX7_block_80 : decode cX7_block 80 = .ok (.aload_n 0, 1) := by decide +kernel
theorem dX7_block_81 : decode cX7_block 81 = .ok (.getfield 21, 3) := by decide +kernel
theorem dX7_block_84 : decode cX7_block 84 = .ok (.iload_n 1, 1) := by decide +kernel
theorem dX7_block_85 : decode cX7_block 85 = .ok (.invokevirtual 95, 3) := by decide +kernel
theorem dX7_block_88 : decode cX7_block 88 = .ok (.ireturn, 1) := by decide +kernel
theorem dX7_block_89 : decode cX7_block 89 = .ok (.iconst (-1), 1) := by decide +kernel
theorem dX7_block_90 : decode cX7_block 90 = .ok (.ireturn, 1) := by decide +kernel
theorem dX7_cost_0 : decode cX7_cost 0 = .ok (.iload_n 1, 1) := by decide +kernel
theorem dX7_cost_1 : decode cX7_cost 1 = .ok (.ifCond .lt 18, 3) := by decide +kernel
theorem dX7_cost_4 : decode cX7_cost 4 = .ok (.iload_n 1, 1) := by decide +kernel
theorem dX7_cost_5 : decode cX7_cost 5 = .ok (.aload_n 0, 1) := by decide +kernel
theorem dX7_cost_6 : decode cX7_cost 6 = .ok (.getfield 21, 3) := by decide +kernel
theorem dX7_cost_9 : decode cX7_cost 9 = .ok (.getfield 79, 3) := by decide +kernel
theorem dX7_cost_12 : decode cX7_cost 12 = .ok (.if_icmp .ge 7, 3) := by decide +kernel
theorem dX7_cost_15 : decode cX7_cost 15 = .ok (.iconst 1, 1) := by decide +kernel
theorem dX7_cost_16 : decode cX7_cost 16 = .ok (.goto 4, 3) := by decide +kernel
theorem dX7_cost_19 : decode cX7_cost 19 = .ok (.iconst 0, 1) := by decide +kernel
theorem dX7_cost_20 : decode cX7_cost 20 = .ok (.istore 4, 2) := by decide +kernel
theorem dX7_cost_22 : decode cX7_cost 22 = .ok (.iload 4, 2) := by decide +kernel
theorem dX7_cost_24 : decode cX7_cost 24 = .ok (.ifCond .eq 22, 3) := by decide +kernel
theorem dX7_cost_27 : decode cX7_cost 27 = .ok (.iload_n 2, 1) := by decide +kernel
theorem dX7_cost_28 : decode cX7_cost 28 = .ok (.ifCond .lt 18, 3) := by decide +kernel
theorem dX7_cost_31 : decode cX7_cost 31 = .ok (.iload_n 2, 1) := by decide +kernel
theorem dX7_cost_32 : decode cX7_cost 32 = .ok (.iconst 4, 1) := by decide +kernel
theorem dX7_cost_33 : decode cX7_cost 33 = .ok (.if_icmp .ge 13, 3) := by decide +kernel
theorem dX7_cost_36 : decode cX7_cost 36 = .ok (.iload_n 3, 1) := by decide +kernel
theorem dX7_cost_37 : decode cX7_cost 37 = .ok (.ifCond .lt 9, 3) := by decide +kernel
theorem dX7_cost_40 : decode cX7_cost 40 = .ok (.iload_n 3, 1) := by decide +kernel
theorem dX7_cost_41 : decode cX7_cost 41 = .ok (.bipush 15, 2) := by decide +kernel
theorem dX7_cost_43 : decode cX7_cost 43 = .ok (.if_icmp .le 5, 3) := by decide +kernel
theorem dX7_cost_46 : decode cX7_cost 46 = .ok (.iconst (-1), 1) := by decide +kernel
theorem dX7_cost_47 : decode cX7_cost 47 = .ok (.ireturn, 1) := by decide +kernel
theorem dX7_cost_48 : decode cX7_cost 48 = .ok (.aload_n 0, 1) := by decide +kernel
theorem dX7_cost_49 : decode cX7_cost 49 = .ok (.getfield 21, 3) := by decide +kernel
theorem dX7_cost_52 : decode cX7_cost 52 = .ok (.iload_n 1, 1) := by decide +kernel
theorem dX7_cost_53 : decode cX7_cost 53 = .ok (.iload_n 2, 1) := by decide +kernel
theorem dX7_cost_54 : decode cX7_cost 54 = .ok (.iload_n 3, 1) := by decide +kernel
theorem dX7_cost_55 : decode cX7_cost 55 = .ok (.invokevirtual 98, 3) := by decide +kernel
theorem dX7_cost_58 : decode cX7_cost 58 = .ok (.ireturn, 1) := by decide +kernel
theorem dX7_feed_0 : decode cX7_feed 0 = .ok (.iload_n 1, 1) := by decide +kernel
theorem dX7_feed_1 : decode cX7_feed 1 = .ok (.ifCond .lt 25, 3) := by decide +kernel
theorem dX7_feed_4 : decode cX7_feed 4 = .ok (.iload_n 1, 1) := by decide +kernel
theorem dX7_feed_5 : decode cX7_feed 5 = .ok (.sipush 255, 3) := by decide +kernel
theorem dX7_feed_8 : decode cX7_feed 8 = .ok (.if_icmp .gt 18, 3) := by decide +kernel
theorem dX7_feed_11 : decode cX7_feed 11 = .ok (.aload_n 0, 1) := by decide +kernel
theorem dX7_feed_12 : decode cX7_feed 12 = .ok (.getfield 51, 3) := by decide +kernel
theorem dX7_feed_15 : decode cX7_feed 15 = .ok (.iload_n 1, 1) := by decide +kernel
theorem dX7_feed_16 : decode cX7_feed 16 = .ok (.invokevirtual 102, 3) := by decide +kernel
theorem dX7_feed_19 : decode cX7_feed 19 = .ok (.ifCond .eq 7, 3) := by decide +kernel
theorem dX7_feed_22 : decode cX7_feed 22 = .ok (.iconst 1, 1) := by decide +kernel
theorem dX7_feed_23 : decode cX7_feed 23 = .ok (.goto 4, 3) := by decide +kernel
theorem dX7_feed_26 : decode cX7_feed 26 = .ok (.iconst 0, 1) := by decide +kernel
theorem dX7_feed_27 : decode cX7_feed 27 = .ok (.ireturn, 1) := by decide +kernel
theorem dX7_take_0 : decode cX7_take 0 = .ok (.aload_n 0, 1) := by decide +kernel
theorem dX7_take_1 : decode cX7_take 1 = .ok (.getfield 51, 3) := by decide +kernel
theorem dX7_take_4 : decode cX7_take 4 = .ok (.aload_n 0, 1) := by decide +kernel
theorem dX7_take_5 : decode cX7_take 5 = .ok (.getfield 42, 3) := by decide +kernel
theorem dX7_take_8 : decode cX7_take 8 = .ok (.invokevirtual 103, 3) := by decide +kernel
theorem dX7_take_11 : decode cX7_take 11 = .ok (.aload_n 0, 1) := by decide +kernel
theorem dX7_take_12 : decode cX7_take 12 = .ok (.getfield 51, 3) := by decide +kernel
theorem dX7_take_15 : decode cX7_take 15 = .ok (.getfield 72, 3) := by decide +kernel
theorem dX7_take_18 : decode cX7_take 18 = .ok (.ireturn, 1) := by decide +kernel
theorem dX7_read_0 : decode cX7_read 0 = .ok (.aload_n 0, 1) := by decide +kernel
theorem dX7_read_1 : decode cX7_read 1 = .ok (.getfield 28, 3) := by decide +kernel
theorem dX7_read_4 : decode cX7_read 4 = .ok (.invokevirtual 107, 3) := by decide +kernel
theorem dX7_read_7 : decode cX7_read 7 = .ok (.istore_n 1, 1) := by decide +kernel
theorem dX7_read_8 : decode cX7_read 8 = .ok (.aload_n 0, 1) := by decide +kernel
theorem dX7_read_9 : decode cX7_read 9 = .ok (.getfield 51, 3) := by decide +kernel
theorem dX7_read_12 : decode cX7_read 12 = .ok (.invokevirtual 111, 3) := by decide +kernel
theorem dX7_read_15 : decode cX7_read 15 = .ok (.iload_n 1, 1) := by decide +kernel
theorem dX7_read_16 : decode cX7_read 16 = .ok (.iconst (-1), 1) := by decide +kernel
theorem dX7_read_17 : decode cX7_read 17 = .ok (.if_icmp .ne 16, 3) := by decide +kernel
theorem dX7_read_20 : decode cX7_read 20 = .ok (.aload_n 0, 1) := by decide +kernel
theorem dX7_read_21 : decode cX7_read 21 = .ok (.getfield 28, 3) := by decide +kernel
theorem dX7_read_24 : decode cX7_read 24 = .ok (.getfield 114, 3) := by decide +kernel
theorem dX7_read_27 : decode cX7_read 27 = .ok (.getfield 64, 3) := by decide +kernel
theorem dX7_read_30 : decode cX7_read 30 = .ok (.goto 6, 3) := by decide +kernel
theorem dX7_read_33 : decode cX7_read 33 = .ok (.iconst (-1), 1) := by decide +kernel
theorem dX7_read_34 : decode cX7_read 34 = .ok (.iload_n 1, 1) := by decide +kernel
theorem dX7_read_35 : decode cX7_read 35 = .ok (.isub, 1) := by decide +kernel
theorem dX7_read_36 : decode cX7_read 36 = .ok (.ireturn, 1) := by decide +kernel
theorem dX7_value_0 : decode cX7_value 0 = .ok (.iload_n 1, 1) := by decide +kernel
theorem dX7_value_1 : decode cX7_value 1 = .ok (.ifCond .lt 31, 3) := by decide +kernel
theorem dX7_value_4 : decode cX7_value 4 = .ok (.iload_n 1, 1) := by decide +kernel
theorem dX7_value_5 : decode cX7_value 5 = .ok (.aload_n 0, 1) := by decide +kernel
theorem dX7_value_6 : decode cX7_value 6 = .ok (.getfield 28, 3) := by decide +kernel
theorem dX7_value_9 : decode cX7_value 9 = .ok (.getfield 114, 3) := by decide +kernel
theorem dX7_value_12 : decode cX7_value 12 = .ok (.getfield 64, 3) := by decide +kernel
theorem dX7_value_15 : decode cX7_value 15 = .ok (.if_icmp .ge 17, 3) := by decide +kernel
theorem dX7_value_18 : decode cX7_value 18 = .ok (.aload_n 0, 1) := by decide +kernel
theorem dX7_value_19 : decode cX7_value 19 = .ok (.getfield 28, 3) := by decide +kernel
theorem dX7_value_22 : decode cX7_value 22 = .ok (.getfield 114, 3) := by decide +kernel
theorem dX7_value_25 : decode cX7_value 25 = .ok (.iload_n 1, 1) := by decide +kernel
theorem dX7_value_26 : decode cX7_value 26 = .ok (.invokevirtual 115, 3) := by decide +kernel
theorem dX7_value_29 : decode cX7_value 29 = .ok (.goto 5, 3) := by decide +kernel
theorem dX7_value_32 : decode cX7_value 32 = .ok (.ldc 118, 2) := by decide +kernel
theorem dX7_value_34 : decode cX7_value 34 = .ok (.ireturn, 1) := by decide +kernel
theorem dX7_same_0 : decode cX7_same 0 = .ok (.aload_n 0, 1) := by decide +kernel
theorem dX7_same_1 : decode cX7_same 1 = .ok (.getfield 14, 3) := by decide +kernel
theorem dX7_same_4 : decode cX7_same 4 = .ok (.aload_n 0, 1) := by decide +kernel
theorem dX7_same_5 : decode cX7_same 5 = .ok (.getfield 28, 3) := by decide +kernel
theorem dX7_same_8 : decode cX7_same 8 = .ok (.getfield 114, 3) := by decide +kernel
theorem dX7_same_11 : decode cX7_same 11 = .ok (.invokevirtual 119, 3) := by decide +kernel
theorem dX7_same_14 : decode cX7_same 14 = .ok (.ireturn, 1) := by decide +kernel
theorem dX7_count_0 : decode cX7_count 0 = .ok (.iload_n 1, 1) := by decide +kernel
theorem dX7_count_1 : decode cX7_count 1 = .ok (.tableswitch 93 0 5 #[39, 47, 55, 63, 71, 82], 39) := by decide +kernel
theorem dX7_count_40 : decode cX7_count 40 = .ok (.aload_n 0, 1) := by decide +kernel
theorem dX7_count_41 : decode cX7_count 41 = .ok (.getfield 14, 3) := by decide +kernel
theorem dX7_count_44 : decode cX7_count 44 = .ok (.getfield 64, 3) := by decide +kernel
theorem dX7_count_47 : decode cX7_count 47 = .ok (.ireturn, 1) := by decide +kernel
theorem dX7_count_48 : decode cX7_count 48 = .ok (.aload_n 0, 1) := by decide +kernel
theorem dX7_count_49 : decode cX7_count 49 = .ok (.getfield 42, 3) := by decide +kernel
theorem dX7_count_52 : decode cX7_count 52 = .ok (.getfield 72, 3) := by decide +kernel
theorem dX7_count_55 : decode cX7_count 55 = .ok (.ireturn, 1) := by decide +kernel
theorem dX7_count_56 : decode cX7_count 56 = .ok (.aload_n 0, 1) := by decide +kernel
theorem dX7_count_57 : decode cX7_count 57 = .ok (.getfield 21, 3) := by decide +kernel
theorem dX7_count_60 : decode cX7_count 60 = .ok (.getfield 79, 3) := by decide +kernel
theorem dX7_count_63 : decode cX7_count 63 = .ok (.ireturn, 1) := by decide +kernel
theorem dX7_count_64 : decode cX7_count 64 = .ok (.aload_n 0, 1) := by decide +kernel
theorem dX7_count_65 : decode cX7_count 65 = .ok (.getfield 51, 3) := by decide +kernel
theorem dX7_count_68 : decode cX7_count 68 = .ok (.getfield 72, 3) := by decide +kernel
theorem dX7_count_71 : decode cX7_count 71 = .ok (.ireturn, 1) := by decide +kernel
theorem dX7_count_72 : decode cX7_count 72 = .ok (.aload_n 0, 1) := by decide +kernel
theorem dX7_count_73 : decode cX7_count 73 = .ok (.getfield 28, 3) := by decide +kernel
theorem dX7_count_76 : decode cX7_count 76 = .ok (.getfield 114, 3) := by decide +kernel
theorem dX7_count_79 : decode cX7_count 79 = .ok (.getfield 64, 3) := by decide +kernel
theorem dX7_count_82 : decode cX7_count 82 = .ok (.ireturn, 1) := by decide +kernel
theorem dX7_count_83 : decode cX7_count 83 = .ok (.aload_n 0, 1) := by decide +kernel
theorem dX7_count_84 : decode cX7_count 84 = .ok (.getfield 28, 3) := by decide +kernel
theorem dX7_count_87 : decode cX7_count 87 = .ok (.getfield 114, 3) := by decide +kernel
theorem dX7_count_90 : decode cX7_count 90 = .ok (.getfield 123, 3) := by decide +kernel
theorem dX7_count_93 : decode cX7_count 93 = .ok (.ireturn, 1) := by decide +kernel
theorem dX7_count_94 : decode cX7_count 94 = .ok (.iconst (-1), 1) := by decide +kernel
theorem dX7_count_95 : decode cX7_count 95 = .ok (.ireturn, 1) := by decide +kernel
theorem dX7_isSample_0 : decode cX7_isSample 0 = .ok (.iload_n 0, 1) := by decide +kernel
theorem dX7_isSample_1 : decode cX7_isSample 1 = .ok (.sipush (-32768), 3) := by decide +kernel
theorem dX7_isSample_4 : decode cX7_isSample 4 = .ok (.if_icmp .lt 14, 3) := by decide +kernel
theorem dX7_isSample_7 : decode cX7_isSample 7 = .ok (.iload_n 0, 1) := by decide +kernel
theorem dX7_isSample_8 : decode cX7_isSample 8 = .ok (.sipush 32767, 3) := by decide +kernel
theorem dX7_isSample_11 : decode cX7_isSample 11 = .ok (.if_icmp .gt 7, 3) := by decide +kernel
theorem dX7_isSample_14 : decode cX7_isSample 14 = .ok (.iconst 1, 1) := by decide +kernel
theorem dX7_isSample_15 : decode cX7_isSample 15 = .ok (.goto 4, 3) := by decide +kernel
theorem dX7_isSample_18 : decode cX7_isSample 18 = .ok (.iconst 0, 1) := by decide +kernel
theorem dX7_isSample_19 : decode cX7_isSample 19 = .ok (.ireturn, 1) := by decide +kernel
theorem dX7_numberBits_0 : decode cX7_numberBits 0 = .ok (.iload_n 1, 1) := by decide +kernel
theorem dX7_numberBits_1 : decode cX7_numberBits 1 = .ok (.iload_n 0, 1) := by decide +kernel
theorem dX7_numberBits_2 : decode cX7_numberBits 2 = .ok (.ishr, 1) := by decide +kernel
theorem dX7_numberBits_3 : decode cX7_numberBits 3 = .ok (.iconst 1, 1) := by decide +kernel
theorem dX7_numberBits_4 : decode cX7_numberBits 4 = .ok (.iadd, 1) := by decide +kernel
theorem dX7_numberBits_5 : decode cX7_numberBits 5 = .ok (.iload_n 0, 1) := by decide +kernel
theorem dX7_numberBits_6 : decode cX7_numberBits 6 = .ok (.iadd, 1) := by decide +kernel
theorem dX7_numberBits_7 : decode cX7_numberBits 7 = .ok (.ireturn, 1) := by decide +kernel
theorem dX7_fold_0 : decode cX7_fold 0 = .ok (.iload_n 0, 1) := by decide +kernel
theorem dX7_fold_1 : decode cX7_fold 1 = .ok (.ifCond .ge 12, 3) := by decide +kernel
theorem dX7_fold_4 : decode cX7_fold 4 = .ok (.bipush (-2), 2) := by decide +kernel
theorem dX7_fold_6 : decode cX7_fold 6 = .ok (.iload_n 0, 1) := by decide +kernel
theorem dX7_fold_7 : decode cX7_fold 7 = .ok (.imul, 1) := by decide +kernel
theorem dX7_fold_8 : decode cX7_fold 8 = .ok (.iconst 1, 1) := by decide +kernel
theorem dX7_fold_9 : decode cX7_fold 9 = .ok (.isub, 1) := by decide +kernel
theorem dX7_fold_10 : decode cX7_fold 10 = .ok (.goto 6, 3) := by decide +kernel
theorem dX7_fold_13 : decode cX7_fold 13 = .ok (.iconst 2, 1) := by decide +kernel
theorem dX7_fold_14 : decode cX7_fold 14 = .ok (.iload_n 0, 1) := by decide +kernel
theorem dX7_fold_15 : decode cX7_fold 15 = .ok (.imul, 1) := by decide +kernel
theorem dX7_fold_16 : decode cX7_fold 16 = .ok (.ireturn, 1) := by decide +kernel
theorem dX7_unfold_0 : decode cX7_unfold 0 = .ok (.iload_n 0, 1) := by decide +kernel
theorem dX7_unfold_1 : decode cX7_unfold 1 = .ok (.iconst 2, 1) := by decide +kernel
theorem dX7_unfold_2 : decode cX7_unfold 2 = .ok (.irem, 1) := by decide +kernel
theorem dX7_unfold_3 : decode cX7_unfold 3 = .ok (.ifCond .ne 9, 3) := by decide +kernel
theorem dX7_unfold_6 : decode cX7_unfold 6 = .ok (.iload_n 0, 1) := by decide +kernel
theorem dX7_unfold_7 : decode cX7_unfold 7 = .ok (.iconst 2, 1) := by decide +kernel
theorem dX7_unfold_8 : decode cX7_unfold 8 = .ok (.idiv, 1) := by decide +kernel
theorem dX7_unfold_9 : decode cX7_unfold 9 = .ok (.goto 9, 3) := by decide +kernel
theorem dX7_unfold_12 : decode cX7_unfold 12 = .ok (.iload_n 0, 1) := by decide +kernel
theorem dX7_unfold_13 : decode cX7_unfold 13 = .ok (.iconst 2, 1) := by decide +kernel
theorem dX7_unfold_14 : decode cX7_unfold 14 = .ok (.idiv, 1) := by decide +kernel
theorem dX7_unfold_15 : decode cX7_unfold 15 = .ok (.ineg, 1) := by decide +kernel
theorem dX7_unfold_16 : decode cX7_unfold 16 = .ok (.iconst 1, 1) := by decide +kernel
theorem dX7_unfold_17 : decode cX7_unfold 17 = .ok (.isub, 1) := by decide +kernel
theorem dX7_unfold_18 : decode cX7_unfold 18 = .ok (.ireturn, 1) := by decide +kernel
theorem dX7_roundedMean_0 : decode cX7_roundedMean 0 = .ok (.iload_n 1, 1) := by decide +kernel
theorem dX7_roundedMean_1 : decode cX7_roundedMean 1 = .ok (.iconst 1, 1) := by decide +kernel
theorem dX7_roundedMean_2 : decode cX7_roundedMean 2 = .ok (.if_icmp .ge 7, 3) := by decide +kernel
theorem dX7_roundedMean_5 : decode cX7_roundedMean 5 = .ok (.iconst 0, 1) := by decide +kernel
theorem dX7_roundedMean_6 : decode cX7_roundedMean 6 = .ok (.goto 12, 3) := by decide +kernel
theorem dX7_roundedMean_9 : decode cX7_roundedMean 9 = .ok (.iload_n 0, 1) := by decide +kernel
theorem dX7_roundedMean_10 : decode cX7_roundedMean 10 = .ok (.iload_n 1, 1) := by decide +kernel
theorem dX7_roundedMean_11 : decode cX7_roundedMean 11 = .ok (.iconst 2, 1) := by decide +kernel
theorem dX7_roundedMean_12 : decode cX7_roundedMean 12 = .ok (.idiv, 1) := by decide +kernel
theorem dX7_roundedMean_13 : decode cX7_roundedMean 13 = .ok (.iadd, 1) := by decide +kernel
theorem dX7_roundedMean_14 : decode cX7_roundedMean 14 = .ok (.iload_n 1, 1) := by decide +kernel
theorem dX7_roundedMean_15 : decode cX7_roundedMean 15 = .ok (.invokestatic 126, 3) := by decide +kernel
theorem dX7_roundedMean_18 : decode cX7_roundedMean 18 = .ok (.ireturn, 1) := by decide +kernel
theorem dJ9_floorDiv_7cf53_0 : decode cJ9_floorDiv_7cf53 0 = .ok (.iload_n 0, 1) := by decide +kernel
theorem dJ9_floorDiv_7cf53_1 : decode cJ9_floorDiv_7cf53 1 = .ok (.iload_n 1, 1) := by decide +kernel
theorem dJ9_floorDiv_7cf53_2 : decode cJ9_floorDiv_7cf53 2 = .ok (.idiv, 1) := by decide +kernel
theorem dJ9_floorDiv_7cf53_3 : decode cJ9_floorDiv_7cf53 3 = .ok (.istore_n 2, 1) := by decide +kernel
theorem dJ9_floorDiv_7cf53_4 : decode cJ9_floorDiv_7cf53 4 = .ok (.iload_n 0, 1) := by decide +kernel
theorem dJ9_floorDiv_7cf53_5 : decode cJ9_floorDiv_7cf53 5 = .ok (.iload_n 1, 1) := by decide +kernel
theorem dJ9_floorDiv_7cf53_6 : decode cJ9_floorDiv_7cf53 6 = .ok (.ixor, 1) := by decide +kernel
theorem dJ9_floorDiv_7cf53_7 : decode cJ9_floorDiv_7cf53 7 = .ok (.ifCond .ge 14, 3) := by decide +kernel
theorem dJ9_floorDiv_7cf53_10 : decode cJ9_floorDiv_7cf53 10 = .ok (.iload_n 2, 1) := by decide +kernel
theorem dJ9_floorDiv_7cf53_11 : decode cJ9_floorDiv_7cf53 11 = .ok (.iload_n 1, 1) := by decide +kernel
theorem dJ9_floorDiv_7cf53_12 : decode cJ9_floorDiv_7cf53 12 = .ok (.imul, 1) := by decide +kernel
theorem dJ9_floorDiv_7cf53_13 : decode cJ9_floorDiv_7cf53 13 = .ok (.iload_n 0, 1) := by decide +kernel
theorem dJ9_floorDiv_7cf53_14 : decode cJ9_floorDiv_7cf53 14 = .ok (.if_icmp .eq 7, 3) := by decide +kernel
theorem dJ9_floorDiv_7cf53_17 : decode cJ9_floorDiv_7cf53 17 = .ok (.iload_n 2, 1) := by decide +kernel
theorem dJ9_floorDiv_7cf53_18 : decode cJ9_floorDiv_7cf53 18 = .ok (.iconst 1, 1) := by decide +kernel
theorem dJ9_floorDiv_7cf53_19 : decode cJ9_floorDiv_7cf53 19 = .ok (.isub, 1) := by decide +kernel
theorem dJ9_floorDiv_7cf53_20 : decode cJ9_floorDiv_7cf53 20 = .ok (.ireturn, 1) := by decide +kernel
theorem dJ9_floorDiv_7cf53_21 : decode cJ9_floorDiv_7cf53 21 = .ok (.iload_n 2, 1) := by decide +kernel
theorem dJ9_floorDiv_7cf53_22 : decode cJ9_floorDiv_7cf53 22 = .ok (.ireturn, 1) := by decide +kernel
theorem dJ9_min_7cf53_0 : decode cJ9_min_7cf53 0 = .ok (.iload_n 0, 1) := by decide +kernel
theorem dJ9_min_7cf53_1 : decode cJ9_min_7cf53 1 = .ok (.iload_n 1, 1) := by decide +kernel
theorem dJ9_min_7cf53_2 : decode cJ9_min_7cf53 2 = .ok (.if_icmp .gt 7, 3) := by decide +kernel
theorem dJ9_min_7cf53_5 : decode cJ9_min_7cf53 5 = .ok (.iload_n 0, 1) := by decide +kernel
theorem dJ9_min_7cf53_6 : decode cJ9_min_7cf53 6 = .ok (.goto 4, 3) := by decide +kernel
theorem dJ9_min_7cf53_9 : decode cJ9_min_7cf53 9 = .ok (.iload_n 1, 1) := by decide +kernel
theorem dJ9_min_7cf53_10 : decode cJ9_min_7cf53 10 = .ok (.ireturn, 1) := by decide +kernel
end
section
theorem dX8_init_0 : decode cX8_init 0 = .ok (.aload_n 0, 1) := by decide +kernel
theorem dX8_init_1 : decode cX8_init 1 = .ok (.invokespecial 1, 3) := by decide +kernel
theorem dX8_init_4 : decode cX8_init 4 = .ok (.aload_n 0, 1) := by decide +kernel
theorem dX8_init_5 : decode cX8_init 5 = .ok (.iconst 1, 1) := by decide +kernel
theorem dX8_init_6 : decode cX8_init 6 = .ok (.putfield 7, 3) := by decide +kernel
theorem dX8_init_9 : decode cX8_init 9 = .ok (.aload_n 0, 1) := by decide +kernel
theorem dX8_init_10 : decode cX8_init 10 = .ok (.bipush 16, 2) := by decide +kernel
theorem dX8_init_12 : decode cX8_init 12 = .ok (.putfield 13, 3) := by decide +kernel
theorem dX8_init_15 : decode cX8_init 15 = .ok (.aload_n 0, 1) := by decide +kernel
theorem dX8_init_16 : decode cX8_init 16 = .ok (.sipush 800, 3) := by decide +kernel
theorem dX8_init_19 : decode cX8_init 19 = .ok (.newarray .int, 2) := by decide +kernel
theorem dX8_init_21 : decode cX8_init 21 = .ok (.putfield 16, 3) := by decide +kernel
theorem dX8_init_24 : decode cX8_init 24 = .ok (.aload_n 0, 1) := by decide +kernel
theorem dX8_init_25 : decode cX8_init 25 = .ok (.ldc 20, 2) := by decide +kernel
theorem dX8_init_27 : decode cX8_init 27 = .ok (.newarray .byte, 2) := by decide +kernel
theorem dX8_init_29 : decode cX8_init 29 = .ok (.putfield 21, 3) := by decide +kernel
theorem dX8_init_32 : decode cX8_init 32 = .ok (.aload_n 0, 1) := by decide +kernel
theorem dX8_init_33 : decode cX8_init 33 = .ok (.sipush 3200, 3) := by decide +kernel
theorem dX8_init_36 : decode cX8_init 36 = .ok (.newarray .int, 2) := by decide +kernel
theorem dX8_init_38 : decode cX8_init 38 = .ok (.putfield 25, 3) := by decide +kernel
theorem dX8_init_41 : decode cX8_init 41 = .ok (.aload_n 0, 1) := by decide +kernel
theorem dX8_init_42 : decode cX8_init 42 = .ok (.sipush 800, 3) := by decide +kernel
theorem dX8_init_45 : decode cX8_init 45 = .ok (.newarray .int, 2) := by decide +kernel
theorem dX8_init_47 : decode cX8_init 47 = .ok (.putfield 28, 3) := by decide +kernel
theorem dX8_init_50 : decode cX8_init 50 = .ok (.aload_n 0, 1) := by decide +kernel
theorem dX8_init_51 : decode cX8_init 51 = .ok (.sipush 3000, 3) := by decide +kernel
theorem dX8_init_54 : decode cX8_init 54 = .ok (.newarray .int, 2) := by decide +kernel
theorem dX8_init_56 : decode cX8_init 56 = .ok (.putfield 31, 3) := by decide +kernel
theorem dX8_init_59 : decode cX8_init 59 = .ok (.aload_n 0, 1) := by decide +kernel
theorem dX8_init_60 : decode cX8_init 60 = .ok (.sipush 800, 3) := by decide +kernel
theorem dX8_init_63 : decode cX8_init 63 = .ok (.newarray .int, 2) := by decide +kernel
theorem dX8_init_65 : decode cX8_init 65 = .ok (.putfield 34, 3) := by decide +kernel
theorem dX8_init_68 : decode cX8_init 68 = .ok (.aload_n 0, 1) := by decide +kernel
theorem dX8_init_69 : decode cX8_init 69 = .ok (.sipush 800, 3) := by decide +kernel
theorem dX8_init_72 : decode cX8_init 72 = .ok (.newarray .int, 2) := by decide +kernel
theorem dX8_init_74 : decode cX8_init 74 = .ok (.putfield 37, 3) := by decide +kernel
theorem dX8_init_77 : decode cX8_init 77 = .ok (.aload_n 0, 1) := by decide +kernel
theorem dX8_init_78 : decode cX8_init 78 = .ok (.bipush 8, 2) := by decide +kernel
theorem dX8_init_80 : decode cX8_init 80 = .ok (.newarray .int, 2) := by decide +kernel
theorem dX8_init_82 : decode cX8_init 82 = .ok (.putfield 40, 3) := by decide +kernel
theorem dX8_init_85 : decode cX8_init 85 = .ok (.return_, 1) := by decide +kernel
theorem dX8_settings_0 : decode cX8_settings 0 = .ok (.iload_n 1, 1) := by decide +kernel
theorem dX8_settings_1 : decode cX8_settings 1 = .ok (.iconst 1, 1) := by decide +kernel
theorem dX8_settings_2 : decode cX8_settings 2 = .ok (.if_icmp .lt 19, 3) := by decide +kernel
theorem dX8_settings_5 : decode cX8_settings 5 = .ok (.iload_n 1, 1) := by decide +kernel
theorem dX8_settings_6 : decode cX8_settings 6 = .ok (.iconst 2, 1) := by decide +kernel
theorem dX8_settings_7 : decode cX8_settings 7 = .ok (.if_icmp .gt 14, 3) := by decide +kernel
theorem dX8_settings_10 : decode cX8_settings 10 = .ok (.iload_n 2, 1) := by decide +kernel
theorem dX8_settings_11 : decode cX8_settings 11 = .ok (.iconst 1, 1) := by decide +kernel
theorem dX8_settings_12 : decode cX8_settings 12 = .ok (.if_icmp .lt 9, 3) := by decide +kernel
theorem dX8_settings_15 : decode cX8_settings 15 = .ok (.iload_n 2, 1) := by decide +kernel
theorem dX8_settings_16 : decode cX8_settings 16 = .ok (.bipush 64, 2) := by decide +kernel
theorem dX8_settings_18 : decode cX8_settings 18 = .ok (.if_icmp .le 5, 3) := by decide +kernel
theorem dX8_settings_21 : decode cX8_settings 21 = .ok (.iconst 0, 1) := by decide +kernel
theorem dX8_settings_22 : decode cX8_settings 22 = .ok (.ireturn, 1) := by decide +kernel
theorem dX8_settings_23 : decode cX8_settings 23 = .ok (.aload_n 0, 1) := by decide +kernel
theorem dX8_settings_24 : decode cX8_settings 24 = .ok (.iload_n 1, 1) := by decide +kernel
theorem dX8_settings_25 : decode cX8_settings 25 = .ok (.putfield 7, 3) := by decide +kernel
theorem dX8_settings_28 : decode cX8_settings 28 = .ok (.aload_n 0, 1) := by decide +kernel
theorem dX8_settings_29 : decode cX8_settings 29 = .ok (.iload_n 2, 1) := by decide +kernel
theorem dX8_settings_30 : decode cX8_settings 30 = .ok (.putfield 13, 3) := by decide +kernel
theorem dX8_settings_33 : decode cX8_settings 33 = .ok (.aload_n 0, 1) := by decide +kernel
theorem dX8_settings_34 : decode cX8_settings 34 = .ok (.iconst 0, 1) := by decide +kernel
theorem dX8_settings_35 : decode cX8_settings 35 = .ok (.putfield 43, 3) := by decide +kernel
theorem dX8_settings_38 : decode cX8_settings 38 = .ok (.iconst 1, 1) := by decide +kernel
theorem dX8_settings_39 : decode cX8_settings 39 = .ok (.ireturn, 1) := by decide +kernel
theorem dX8_sample_0 : decode cX8_sample 0 = .ok (.iload_n 1, 1) := by decide +kernel
theorem dX8_sample_1 : decode cX8_sample 1 = .ok (.sipush (-32768), 3) := by decide +kernel
theorem dX8_sample_4 : decode cX8_sample 4 = .ok (.if_icmp .lt 25, 3) := by decide +kernel
theorem dX8_sample_7 : decode cX8_sample 7 = .ok (.iload_n 1, 1) := by decide +kernel
theorem dX8_sample_8 : decode cX8_sample 8 = .ok (.sipush 32767, 3) := by decide +kernel
theorem dX8_sample_11 : decode cX8_sample 11 = .ok (.if_icmp .gt 18, 3) := by decide +kernel
theorem dX8_sample_14 : decode cX8_sample 14 = .ok (.aload_n 0, 1) := by decide +kernel
theorem dX8_sample_15 : decode cX8_sample 15 = .ok (.getfield 43, 3) := by decide +kernel
theorem dX8_sample_18 : decode cX8_sample 18 = .ok (.sipush 400, 3) := by decide +kernel
theorem dX8_sample_21 : decode cX8_sample 21 = .ok (.aload_n 0, 1) := by decide +kernel
theorem dX8_sample_22 : decode cX8_sample 22 = .ok (.getfield 7, 3) := by decide +kernel
theorem dX8_sample_25 : decode cX8_sample 25 = .ok (.imul, 1) := by decide +kernel
theorem dX8_sample_26 : decode cX8_sample 26 = .ok (.if_icmp .ne 5, 3) := by decide +kernel
theorem dX8_sample_29 : decode cX8_sample 29 = .ok (.iconst (-1), 1) := by decide +kernel
theorem dX8_sample_30 : decode cX8_sample 30 = .ok (.ireturn, 1) := by decide +kernel
theorem dX8_sample_31 : decode cX8_sample 31 = .ok (.aload_n 0, 1) := by decide +kernel
theorem dX8_sample_32 : decode cX8_sample 32 = .ok (.getfield 16, 3) := by decide +kernel
theorem dX8_sample_35 : decode cX8_sample 35 = .ok (.aload_n 0, 1) := by decide +kernel
theorem dX8_sample_36 : decode cX8_sample 36 = .ok (.getfield 43, 3) := by decide +kernel
theorem dX8_sample_39 : decode cX8_sample 39 = .ok (.iload_n 1, 1) := by decide +kernel
theorem dX8_sample_40 : decode cX8_sample 40 = .ok (.iastore, 1) := by decide +kernel
theorem dX8_sample_41 : decode cX8_sample 41 = .ok (.aload_n 0, 1) := by decide +kernel
theorem dX8_sample_42 : decode cX8_sample 42 = .ok (.dup, 1) := by decide +kernel
theorem dX8_sample_43 : decode cX8_sample 43 = .ok (.getfield 43, 3) := by decide +kernel
theorem dX8_sample_46 : decode cX8_sample 46 = .ok (.iconst 1, 1) := by decide +kernel
theorem dX8_sample_47 : decode cX8_sample 47 = .ok (.iadd, 1) := by decide +kernel
theorem dX8_sample_48 : decode cX8_sample 48 = .ok (.putfield 43, 3) := by decide +kernel
theorem dX8_sample_51 : decode cX8_sample 51 = .ok (.aload_n 0, 1) := by decide +kernel
theorem dX8_sample_52 : decode cX8_sample 52 = .ok (.getfield 43, 3) := by decide +kernel
theorem dX8_sample_55 : decode cX8_sample 55 = .ok (.ireturn, 1) := by decide +kernel
theorem dX8_forgetMeans_0 : decode cX8_forgetMeans 0 = .ok (.iconst 0, 1) := by decide +kernel
theorem dX8_forgetMeans_1 : decode cX8_forgetMeans 1 = .ok (.istore_n 1, 1) := by decide +kernel
theorem dX8_forgetMeans_2 : decode cX8_forgetMeans 2 = .ok (.iload_n 1, 1) := by decide +kernel
theorem dX8_forgetMeans_3 : decode cX8_forgetMeans 3 = .ok (.bipush 8, 2) := by decide +kernel
theorem dX8_forgetMeans_5 : decode cX8_forgetMeans 5 = .ok (.if_icmp .ge 16, 3) := by decide +kernel
theorem dX8_forgetMeans_8 : decode cX8_forgetMeans 8 = .ok (.aload_n 0, 1) := by decide +kernel
theorem dX8_forgetMeans_9 : decode cX8_forgetMeans 9 = .ok (.getfield 40, 3) := by decide +kernel
theorem dX8_forgetMeans_12 : decode cX8_forgetMeans 12 = .ok (.iload_n 1, 1) := by decide +kernel
theorem dX8_forgetMeans_13 : decode cX8_forgetMeans 13 = .ok (.iconst 0, 1) := by decide +kernel
theorem dX8_forgetMeans_14 : decode cX8_forgetMeans 14 = .ok (.iastore, 1) := by decide +kernel
theorem dX8_forgetMeans_15 : decode cX8_forgetMeans 15 = .ok (.iinc 1 1, 3) := by decide +kernel
theorem dX8_forgetMeans_18 : decode cX8_forgetMeans 18 = .ok (.goto (-16), 3) := by decide +kernel
theorem dX8_forgetMeans_21 : decode cX8_forgetMeans 21 = .ok (.return_, 1) := by decide +kernel
theorem dX8_rounded_0 : decode cX8_rounded 0 = .ok (.lload_n 0, 1) := by decide +kernel
theorem dX8_rounded_1 : decode cX8_rounded 1 = .ok (.iload_n 2, 1) := by decide +kernel
theorem dX8_rounded_2 : decode cX8_rounded 2 = .ok (.iconst 2, 1) := by decide +kernel
theorem dX8_rounded_3 : decode cX8_rounded 3 = .ok (.idiv, 1) := by decide +kernel
theorem dX8_rounded_4 : decode cX8_rounded 4 = .ok (.i2l, 1) := by decide +kernel
theorem dX8_rounded_5 : decode cX8_rounded 5 = .ok (.ladd, 1) := by decide +kernel
theorem dX8_rounded_6 : decode cX8_rounded 6 = .ok (.lstore_n 3, 1) := by decide +kernel
theorem dX8_rounded_7 : decode cX8_rounded 7 = .ok (.lload_n 3, 1) := by decide +kernel
theorem dX8_rounded_8 : decode cX8_rounded 8 = .ok (.iload_n 2, 1) := by decide +kernel
theorem dX8_rounded_9 : decode cX8_rounded 9 = .ok (.i2l, 1) := by decide +kernel
theorem dX8_rounded_10 : decode cX8_rounded 10 = .ok (.ldiv, 1) := by decide +kernel
theorem dX8_rounded_11 : decode cX8_rounded 11 = .ok (.lstore 5, 2) := by decide +kernel
theorem dX8_rounded_13 : decode cX8_rounded 13 = .ok (.lload 5, 2) := by decide +kernel
theorem dX8_rounded_15 : decode cX8_rounded 15 = .ok (.iload_n 2, 1) := by decide +kernel
theorem dX8_rounded_16 : decode cX8_rounded 16 = .ok (.i2l, 1) := by decide +kernel
theorem dX8_rounded_17 : decode cX8_rounded 17 = .ok (.lmul, 1) := by decide +kernel
theorem dX8_rounded_18 : decode cX8_rounded 18 = .ok (.lload_n 3, 1) := by decide +kernel
theorem dX8_rounded_19 : decode cX8_rounded 19 = .ok (.lcmp, 1) := by decide +kernel
theorem dX8_rounded_20 : decode cX8_rounded 20 = .ok (.ifCond .le 10, 3) := by decide +kernel
theorem dX8_rounded_23 : decode cX8_rounded 23 = .ok (.lload 5, 2) := by decide +kernel
theorem dX8_rounded_25 : decode cX8_rounded 25 = .ok (.lconst 1, 1) := by decide +kernel
theorem dX8_rounded_26 : decode cX8_rounded 26 = .ok (.lsub, 1) := by decide +kernel
theorem dX8_rounded_27 : decode cX8_rounded 27 = .ok (.goto 5, 3) := by decide +kernel
theorem dX8_rounded_30 : decode cX8_rounded 30 = .ok (.lload 5, 2) := by decide +kernel
theorem dX8_rounded_32 : decode cX8_rounded 32 = .ok (.l2i, 1) := by decide +kernel
theorem dX8_rounded_33 : decode cX8_rounded 33 = .ok (.ireturn, 1) := by decide +kernel
theorem dX8_meanOf_0 : decode cX8_meanOf 0 = .ok (.aload_n 0, 1) := by decide +kernel
theorem dX8_meanOf_1 : decode cX8_meanOf 1 = .ok (.getfield 40, 3) := by decide +kernel
theorem dX8_meanOf_4 : decode cX8_meanOf 4 = .ok (.iconst 4, 1) := by decide +kernel
theorem dX8_meanOf_5 : decode cX8_meanOf 5 = .ok (.iload_n 1, 1) := by decide +kernel
theorem dX8_meanOf_6 : decode cX8_meanOf 6 = .ok (.imul, 1) := by decide +kernel
theorem dX8_meanOf_7 : decode cX8_meanOf 7 = .ok (.iaload, 1) := by decide +kernel
theorem dX8_meanOf_8 : decode cX8_meanOf 8 = .ok (.i2l, 1) := by decide +kernel
theorem dX8_meanOf_9 : decode cX8_meanOf 9 = .ok (.aload_n 0, 1) := by decide +kernel
theorem dX8_meanOf_10 : decode cX8_meanOf 10 = .ok (.getfield 40, 3) := by decide +kernel
theorem dX8_meanOf_13 : decode cX8_meanOf 13 = .ok (.iconst 4, 1) := by decide +kernel
theorem dX8_meanOf_14 : decode cX8_meanOf 14 = .ok (.iload_n 1, 1) := by decide +kernel
theorem dX8_meanOf_15 : decode cX8_meanOf 15 = .ok (.imul, 1) := by decide +kernel
theorem dX8_meanOf_16 : decode cX8_meanOf 16 = .ok (.iconst 1, 1) := by decide +kernel
theorem dX8_meanOf_17 : decode cX8_meanOf 17 = .ok (.iadd, 1) := by decide +kernel
theorem dX8_meanOf_18 : decode cX8_meanOf 18 = .ok (.iaload, 1) := by decide +kernel
theorem dX8_meanOf_19 : decode cX8_meanOf 19 = .ok (.i2l, 1) := by decide +kernel
theorem dX8_meanOf_20 : decode cX8_meanOf 20 = .ok (.ladd, 1) := by decide +kernel
theorem dX8_meanOf_21 : decode cX8_meanOf 21 = .ok (.aload_n 0, 1) := by decide +kernel
theorem dX8_meanOf_22 : decode cX8_meanOf 22 = .ok (.getfield 40, 3) := by decide +kernel
theorem dX8_meanOf_25 : decode cX8_meanOf 25 = .ok (.iconst 4, 1) := by decide +kernel
theorem dX8_meanOf_26 : decode cX8_meanOf 26 = .ok (.iload_n 1, 1) := by decide +kernel
theorem dX8_meanOf_27 : decode cX8_meanOf 27 = .ok (.imul, 1) := by decide +kernel
theorem dX8_meanOf_28 : decode cX8_meanOf 28 = .ok (.iconst 2, 1) := by decide +kernel
theorem dX8_meanOf_29 : decode cX8_meanOf 29 = .ok (.iadd, 1) := by decide +kernel
theorem dX8_meanOf_30 : decode cX8_meanOf 30 = .ok (.iaload, 1) := by decide +kernel
theorem dX8_meanOf_31 : decode cX8_meanOf 31 = .ok (.i2l, 1) := by decide +kernel
theorem dX8_meanOf_32 : decode cX8_meanOf 32 = .ok (.ladd, 1) := by decide +kernel
theorem dX8_meanOf_33 : decode cX8_meanOf 33 = .ok (.aload_n 0, 1) := by decide +kernel
theorem dX8_meanOf_34 : decode cX8_meanOf 34 = .ok (.getfield 40, 3) := by decide +kernel
theorem dX8_meanOf_37 : decode cX8_meanOf 37 = .ok (.iconst 4, 1) := by decide +kernel
theorem dX8_meanOf_38 : decode cX8_meanOf 38 = .ok (.iload_n 1, 1) := by decide +kernel
theorem dX8_meanOf_39 : decode cX8_meanOf 39 = .ok (.imul, 1) := by decide +kernel
theorem dX8_meanOf_40 : decode cX8_meanOf 40 = .ok (.iconst 3, 1) := by decide +kernel
theorem dX8_meanOf_41 : decode cX8_meanOf 41 = .ok (.iadd, 1) := by decide +kernel
theorem dX8_meanOf_42 : decode cX8_meanOf 42 = .ok (.iaload, 1) := by decide +kernel
theorem dX8_meanOf_43 : decode cX8_meanOf 43 = .ok (.i2l, 1) := by decide +kernel
theorem dX8_meanOf_44 : decode cX8_meanOf 44 = .ok (.ladd, 1) := by decide +kernel
theorem dX8_meanOf_45 : decode cX8_meanOf 45 = .ok (.iconst 4, 1) := by decide +kernel
theorem dX8_meanOf_46 : decode cX8_meanOf 46 = .ok (.invokestatic 46, 3) := by decide +kernel
theorem dX8_meanOf_49 : decode cX8_meanOf 49 = .ok (.ireturn, 1) := by decide +kernel
theorem dX8_noteMean_0 : decode cX8_noteMean 0 = .ok (.iconst 4, 1) := by decide +kernel
theorem dX8_noteMean_1 : decode cX8_noteMean 1 = .ok (.iload_n 1, 1) := by decide +kernel
theorem dX8_noteMean_2 : decode cX8_noteMean 2 = .ok (.imul, 1) := by decide +kernel
theorem dX8_noteMean_3 : decode cX8_noteMean 3 = .ok (.istore 5, 2) := by decide +kernel
theorem dX8_noteMean_5 : decode cX8_noteMean 5 = .ok (.iload 5, 2) := by decide +kernel
theorem dX8_noteMean_7 : decode cX8_noteMean 7 = .ok (.iconst 4, 1) := by decide +kernel
theorem dX8_noteMean_8 : decode cX8_noteMean 8 = .ok (.iload_n 1, 1) := by decide +kernel
theorem dX8_noteMean_9 : decode cX8_noteMean 9 = .ok (.imul, 1) := by decide +kernel
theorem dX8_noteMean_10 : decode cX8_noteMean 10 = .ok (.iconst 3, 1) := by decide +kernel
theorem dX8_noteMean_11 : decode cX8_noteMean 11 = .ok (.iadd, 1) := by decide +kernel
theorem dX8_noteMean_12 : decode cX8_noteMean 12 = .ok (.if_icmp .ge 25, 3) := by decide +kernel
theorem dX8_noteMean_15 : decode cX8_noteMean 15 = .ok (.aload_n 0, 1) := by decide +kernel
theorem dX8_noteMean_16 : decode cX8_noteMean 16 = .ok (.getfield 40, 3) := by decide +kernel
theorem dX8_noteMean_19 : decode cX8_noteMean 19 = .ok (.iload 5, 2) := by decide +kernel
theorem dX8_noteMean_21 : decode cX8_noteMean 21 = .ok (.aload_n 0, 1) := by decide +kernel
theorem dX8_noteMean_22 : decode cX8_noteMean 22 = .ok (.getfield 40, 3) := by decide +kernel
theorem dX8_noteMean_25 : decode cX8_noteMean 25 = .ok (.iload 5, 2) := by decide +kernel
theorem dX8_noteMean_27 : decode cX8_noteMean 27 = .ok (.iconst 1, 1) := by decide +kernel
theorem dX8_noteMean_28 : decode cX8_noteMean 28 = .ok (.iadd, 1) := by decide +kernel
theorem dX8_noteMean_29 : decode cX8_noteMean 29 = .ok (.iaload, 1) := by decide +kernel
theorem dX8_noteMean_30 : decode cX8_noteMean 30 = .ok (.iastore, 1) := by decide +kernel
theorem dX8_noteMean_31 : decode cX8_noteMean 31 = .ok (.iinc 5 1, 3) := by decide +kernel
theorem dX8_noteMean_34 : decode cX8_noteMean 34 = .ok (.goto (-29), 3) := by decide +kernel
theorem dX8_noteMean_37 : decode cX8_noteMean 37 = .ok (.aload_n 0, 1) := by decide +kernel
theorem dX8_noteMean_38 : decode cX8_noteMean 38 = .ok (.getfield 40, 3) := by decide +kernel
theorem dX8_noteMean_41 : decode cX8_noteMean 41 = .ok (.iconst 4, 1) := by decide +kernel
theorem dX8_noteMean_42 : decode cX8_noteMean 42 = .ok (.iload_n 1, 1) := by decide +kernel
theorem dX8_noteMean_43 : decode cX8_noteMean 43 = .ok (.imul, 1) := by decide +kernel
theorem dX8_noteMean_44 : decode cX8_noteMean 44 = .ok (.iconst 3, 1) := by decide +kernel
theorem dX8_noteMean_45 : decode cX8_noteMean 45 = .ok (.iadd, 1) := by decide +kernel
theorem dX8_noteMean_46 : decode cX8_noteMean 46 = .ok (.lload_n 2, 1) := by decide +kernel
theorem dX8_noteMean_47 : decode cX8_noteMean 47 = .ok (.iload 4, 2) := by decide +kernel
theorem dX8_noteMean_49 : decode cX8_noteMean 49 = .ok (.invokestatic 46, 3) := by decide +kernel
theorem dX8_noteMean_52 : decode cX8_noteMean 52 = .ok (.iastore, 1) := by decide +kernel
theorem dX8_noteMean_53 : decode cX8_noteMean 53 = .ok (.return_, 1) := by decide +kernel
theorem dX8_before_0 : decode cX8_before 0 = .ok (.iload_n 1, 1) := by decide +kernel
theorem dX8_before_1 : decode cX8_before 1 = .ok (.iload_n 2, 1) := by decide +kernel
theorem dX8_before_2 : decode cX8_before 2 = .ok (.iload_n 3, 1) := by decide +kernel
theorem dX8_before_3 : decode cX8_before 3 = .ok (.imul, 1) := by decide +kernel
theorem dX8_before_4 : decode cX8_before 4 = .ok (.isub, 1) := by decide +kernel
theorem dX8_before_5 : decode cX8_before 5 = .ok (.istore 4, 2) := by decide +kernel
theorem dX8_before_7 : decode cX8_before 7 = .ok (.iload 4, 2) := by decide +kernel
theorem dX8_before_9 : decode cX8_before 9 = .ok (.ifCond .ge 7, 3) := by decide +kernel
theorem dX8_before_12 : decode cX8_before 12 = .ok (.iconst 0, 1) := by decide +kernel
theorem dX8_before_13 : decode cX8_before 13 = .ok (.goto 7, 3) := by decide +kernel
theorem dX8_before_16 : decode cX8_before 16 = .ok (.aload_n 0, 1) := by decide +kernel
theorem dX8_before_17 : decode cX8_before 17 = .ok (.iload 4, 2) := by decide +kernel
theorem dX8_before_19 : decode cX8_before 19 = .ok (.iaload, 1) := by decide +kernel
theorem dX8_before_20 : decode cX8_before 20 = .ok (.ireturn, 1) := by decide +kernel
theorem dX8_ahead_0 : decode cX8_ahead 0 = .ok (.aload_n 1, 1) := by decide +kernel
theorem dX8_ahead_1 : decode cX8_ahead 1 = .ok (.iload_n 2, 1) := by decide +kernel
theorem dX8_ahead_2 : decode cX8_ahead 2 = .ok (.iload_n 3, 1) := by decide +kernel
theorem dX8_ahead_3 : decode cX8_ahead 3 = .ok (.iconst 1, 1) := by decide +kernel
theorem dX8_ahead_4 : decode cX8_ahead 4 = .ok (.invokestatic 50, 3) := by decide +kernel
theorem dX8_ahead_7 : decode cX8_ahead 7 = .ok (.istore 5, 2) := by decide +kernel
theorem dX8_ahead_9 : decode cX8_ahead 9 = .ok (.aload_n 1, 1) := by decide +kernel
theorem dX8_ahead_10 : decode cX8_ahead 10 = .ok (.iload_n 2, 1) := by decide +kernel
theorem dX8_ahead_11 : decode cX8_ahead 11 = .ok (.iload_n 3, 1) := by decide +kernel
theorem dX8_ahead_12 : decode cX8_ahead 12 = .ok (.iconst 2, 1) := by decide +kernel
theorem dX8_ahead_13 : decode cX8_ahead 13 = .ok (.invokestatic 50, 3) := by decide +kernel
theorem dX8_ahead_16 : decode cX8_ahead 16 = .ok (.istore 6, 2) := by decide +kernel
theorem dX8_ahead_18 : decode cX8_ahead 18 = .ok (.aload_n 1, 1) := by decide +kernel
theorem dX8_ahead_19 : decode cX8_ahead 19 = .ok (.iload_n 2, 1) := by decide +kernel
theorem dX8_ahead_20 : decode cX8_ahead 20 = .ok (.iload_n 3, 1) := by decide +kernel
theorem dX8_ahead_21 : decode cX8_ahead 21 = .ok (.iconst 3, 1) := by decide +kernel
theorem dX8_ahead_22 : decode cX8_ahead 22 = .ok (.invokestatic 50, 3) := by decide +kernel
theorem dX8_ahead_25 : decode cX8_ahead 25 = .ok (.istore 7, 2) := by decide +kernel
theorem dX8_ahead_27 : decode cX8_ahead 27 = .ok (.iload_n 0, 1) := by decide +kernel
theorem dX8_ahead_28 : decode cX8_ahead 28 = .ok (.tableswitch 42 0 2 #[28, 31, 34], 28) := by decide +kernel
theorem dX8_ahead_56 : decode cX8_ahead 56 = .ok (.iload 4, 2) := by decide +kernel
theorem dX8_ahead_58 : decode cX8_ahead 58 = .ok (.ireturn, 1) := by decide +kernel
theorem dX8_ahead_59 : decode cX8_ahead 59 = .ok (.iload 5, 2) := by decide +kernel
theorem dX8_ahead_61 : decode cX8_ahead 61 = .ok (.ireturn, 1) := by decide +kernel
theorem dX8_ahead_62 : decode cX8_ahead 62 = .ok (.iconst 2, 1) := by decide +kernel
theorem dX8_ahead_63 : decode cX8_ahead 63 = .ok (.iload 5, 2) := by decide +kernel
theorem dX8_ahead_65 : decode cX8_ahead 65 = .ok (.imul, 1) := by decide +kernel
theorem dX8_ahead_66 : decode cX8_ahead 66 = .ok (.iload 6, 2) := by decide +kernel
theorem dX8_ahead_68 : decode cX8_ahead 68 = .ok (.isub, 1) := by decide +kernel
theorem dX8_ahead_69 : decode cX8_ahead 69 = .ok (.ireturn, 1) := by decide +kernel
theorem dX8_ahead_70 : decode cX8_ahead 70 = .ok (.iconst 3, 1) := by decide +kernel
theorem dX8_ahead_71 : decode cX8_ahead 71 = .ok (.iload 5, 2) := by decide +kernel
theorem dX8_ahead_73 : decode cX8_ahead 73 = .ok (.imul, 1) := by decide +kernel
theorem dX8_ahead_74 : decode cX8_ahead 74 = .ok (.iconst 3, 1) := by decide +kernel
theorem dX8_ahead_75 : decode cX8_ahead 75 = .ok (.iload 6, 2) := by decide +kernel
theorem dX8_ahead_77 : decode cX8_ahead 77 = .ok (.imul, 1) := by decide +kernel
theorem dX8_ahead_78 : decode cX8_ahead 78 = .ok (.isub, 1) := by decide +kernel
theorem dX8_ahead_79 : decode cX8_ahead 79 = .ok (.iload 7, 2) := by decide +kernel
theorem dX8_ahead_81 : decode cX8_ahead 81 = .ok (.iadd, 1) := by decide +kernel
theorem dX8_ahead_82 : decode cX8_ahead 82 = .ok (.ireturn, 1) := by decide +kernel
theorem dX8_putBit_0 : decode cX8_putBit 0 = .ok (.aload_n 0, 1) := by decide +kernel
theorem dX8_putBit_1 : decode cX8_putBit 1 = .ok (.getfield 21, 3) := by decide +kernel
theorem dX8_putBit_4 : decode cX8_putBit 4 = .ok (.aload_n 0, 1) := by decide +kernel
theorem dX8_putBit_5 : decode cX8_putBit 5 = .ok (.getfield 54, 3) := by decide +kernel
theorem dX8_putBit_8 : decode cX8_putBit 8 = .ok (.iload_n 1, 1) := by decide +kernel
theorem dX8_putBit_9 : decode cX8_putBit 9 = .ok (.i2b, 1) := by decide +kernel
theorem dX8_putBit_10 : decode cX8_putBit 10 = .ok (.bastore, 1) := by decide +kernel
theorem dX8_putBit_11 : decode cX8_putBit 11 = .ok (.aload_n 0, 1) := by decide +kernel
theorem dX8_putBit_12 : decode cX8_putBit 12 = .ok (.dup, 1) := by decide +kernel
theorem dX8_putBit_13 : decode cX8_putBit 13 = .ok (.getfield 54, 3) := by decide +kernel
theorem dX8_putBit_16 : decode cX8_putBit 16 = .ok (.iconst 1, 1) := by decide +kernel
theorem dX8_putBit_17 : decode cX8_putBit 17 = .ok (.iadd, 1) := by decide +kernel
theorem dX8_putBit_18 : decode cX8_putBit 18 = .ok (.putfield 54, 3) := by decide +kernel
theorem dX8_putBit_21 : decode cX8_putBit 21 = .ok (.return_, 1) := by decide +kernel
theorem dX8_putNumber_0 : decode cX8_putNumber 0 = .ok (.iload_n 2, 1) := by decide +kernel
theorem dX8_putNumber_1 : decode cX8_putNumber 1 = .ok (.iload_n 1, 1) := by decide +kernel
theorem dX8_putNumber_2 : decode cX8_putNumber 2 = .ok (.ishr, 1) := by decide +kernel
theorem dX8_putNumber_3 : decode cX8_putNumber 3 = .ok (.istore_n 3, 1) := by decide +kernel
theorem dX8_putNumber_4 : decode cX8_putNumber 4 = .ok (.iload_n 3, 1) := by decide +kernel
theorem dX8_putNumber_5 : decode cX8_putNumber 5 = .ok (.ifCond .le 14, 3) := by decide +kernel
theorem dX8_putNumber_8 : decode cX8_putNumber 8 = .ok (.aload_n 0, 1) := by decide +kernel
theorem dX8_putNumber_9 : decode cX8_putNumber 9 = .ok (.iconst 0, 1) := by decide +kernel
theorem dX8_putNumber_10 : decode cX8_putNumber 10 = .ok (.invokevirtual 57, 3) := by decide +kernel
theorem dX8_putNumber_13 : decode cX8_putNumber 13 = .ok (.iinc 3 (-1), 3) := by decide +kernel
theorem dX8_putNumber_16 : decode cX8_putNumber 16 = .ok (.goto (-12), 3) := by decide +kernel
theorem dX8_putNumber_19 : decode cX8_putNumber 19 = .ok (.aload_n 0, 1) := by decide +kernel
theorem dX8_putNumber_20 : decode cX8_putNumber 20 = .ok (.iconst 1, 1) := by decide +kernel
theorem dX8_putNumber_21 : decode cX8_putNumber 21 = .ok (.invokevirtual 57, 3) := by decide +kernel
theorem dX8_putNumber_24 : decode cX8_putNumber 24 = .ok (.iload_n 1, 1) := by decide +kernel
theorem dX8_putNumber_25 : decode cX8_putNumber 25 = .ok (.iconst 1, 1) := by decide +kernel
theorem dX8_putNumber_26 : decode cX8_putNumber 26 = .ok (.isub, 1) := by decide +kernel
theorem dX8_putNumber_27 : decode cX8_putNumber 27 = .ok (.istore_n 3, 1) := by decide +kernel
theorem dX8_putNumber_28 : decode cX8_putNumber 28 = .ok (.iload_n 3, 1) := by decide +kernel
theorem dX8_putNumber_29 : decode cX8_putNumber 29 = .ok (.ifCond .lt 18, 3) := by decide +kernel
theorem dX8_putNumber_32 : decode cX8_putNumber 32 = .ok (.aload_n 0, 1) := by decide +kernel
theorem dX8_putNumber_33 : decode cX8_putNumber 33 = .ok (.iload_n 2, 1) := by decide +kernel
theorem dX8_putNumber_34 : decode cX8_putNumber 34 = .ok (.iload_n 3, 1) := by decide +kernel
theorem dX8_putNumber_35 : decode cX8_putNumber 35 = .ok (.ishr, 1) := by decide +kernel
theorem dX8_putNumber_36 : decode cX8_putNumber 36 = .ok (.iconst 1, 1) := by decide +kernel
theorem dX8_putNumber_37 : decode cX8_putNumber 37 = .ok (.iand, 1) := by decide +kernel
theorem dX8_putNumber_38 : decode cX8_putNumber 38 = .ok (.invokevirtual 57, 3) := by decide +kernel
theorem dX8_putNumber_41 : decode cX8_putNumber 41 = .ok (.iinc 3 (-1), 3) := by decide +kernel
theorem dX8_putNumber_44 : decode cX8_putNumber 44 = .ok (.goto (-16), 3) := by decide +kernel
theorem dX8_putNumber_47 : decode cX8_putNumber 47 = .ok (.return_, 1) := by decide +kernel
theorem dX8_folded_0 : decode cX8_folded 0 = .ok (.iload_n 0, 1) := by decide +kernel
theorem dX8_folded_1 : decode cX8_folded 1 = .ok (.ifCond .ge 12, 3) := by decide +kernel
theorem dX8_folded_4 : decode cX8_folded 4 = .ok (.bipush (-2), 2) := by decide +kernel
theorem dX8_folded_6 : decode cX8_folded 6 = .ok (.iload_n 0, 1) := by decide +kernel
theorem dX8_folded_7 : decode cX8_folded 7 = .ok (.imul, 1) := by decide +kernel
theorem dX8_folded_8 : decode cX8_folded 8 = .ok (.iconst 1, 1) := by decide +kernel
theorem dX8_folded_9 : decode cX8_folded 9 = .ok (.isub, 1) := by decide +kernel
theorem dX8_folded_10 : decode cX8_folded 10 = .ok (.goto 6, 3) := by decide +kernel
theorem dX8_folded_13 : decode cX8_folded 13 = .ok (.iconst 2, 1) := by decide +kernel
theorem dX8_folded_14 : decode cX8_folded 14 = .ok (.iload_n 0, 1) := by decide +kernel
theorem dX8_folded_15 : decode cX8_folded 15 = .ok (.imul, 1) := by decide +kernel
theorem dX8_folded_16 : decode cX8_folded 16 = .ok (.ireturn, 1) := by decide +kernel
theorem dX8_lengthOf_0 : decode cX8_lengthOf 0 = .ok (.iload_n 1, 1) := by decide +kernel
theorem dX8_lengthOf_1 : decode cX8_lengthOf 1 = .ok (.iload_n 0, 1) := by decide +kernel
theorem dX8_lengthOf_2 : decode cX8_lengthOf 2 = .ok (.ishr, 1) := by decide +kernel
theorem dX8_lengthOf_3 : decode cX8_lengthOf 3 = .ok (.iconst 1, 1) := by decide +kernel
theorem dX8_lengthOf_4 : decode cX8_lengthOf 4 = .ok (.iadd, 1) := by decide +kernel
theorem dX8_lengthOf_5 : decode cX8_lengthOf 5 = .ok (.iload_n 0, 1) := by decide +kernel
theorem dX8_lengthOf_6 : decode cX8_lengthOf 6 = .ok (.iadd, 1) := by decide +kernel
theorem dX8_lengthOf_7 : decode cX8_lengthOf 7 = .ok (.ireturn, 1) := by decide +kernel
theorem dX8_firstOf_0 : decode cX8_firstOf 0 = .ok (.iload_n 1, 1) := by decide +kernel
theorem dX8_firstOf_1 : decode cX8_firstOf 1 = .ok (.aload_n 0, 1) := by decide +kernel
theorem dX8_firstOf_2 : decode cX8_firstOf 2 = .ok (.getfield 61, 3) := by decide +kernel
theorem dX8_firstOf_5 : decode cX8_firstOf 5 = .ok (.imul, 1) := by decide +kernel
theorem dX8_firstOf_6 : decode cX8_firstOf 6 = .ok (.aload_n 0, 1) := by decide +kernel
theorem dX8_firstOf_7 : decode cX8_firstOf 7 = .ok (.getfield 64, 3) := by decide +kernel
theorem dX8_firstOf_10 : decode cX8_firstOf 10 = .ok (.imul, 1) := by decide +kernel
theorem dX8_firstOf_11 : decode cX8_firstOf 11 = .ok (.iload_n 2, 1) := by decide +kernel
theorem dX8_firstOf_12 : decode cX8_firstOf 12 = .ok (.iadd, 1) := by decide +kernel
theorem dX8_firstOf_13 : decode cX8_firstOf 13 = .ok (.ireturn, 1) := by decide +kernel
theorem dX8_sizeOf_0 : decode cX8_sizeOf 0 = .ok (.aload_n 0, 1) := by decide +kernel
theorem dX8_sizeOf_1 : decode cX8_sizeOf 1 = .ok (.getfield 67, 3) := by decide +kernel
theorem dX8_sizeOf_4 : decode cX8_sizeOf 4 = .ok (.iload_n 1, 1) := by decide +kernel
theorem dX8_sizeOf_5 : decode cX8_sizeOf 5 = .ok (.aload_n 0, 1) := by decide +kernel
theorem dX8_sizeOf_6 : decode cX8_sizeOf 6 = .ok (.getfield 61, 3) := by decide +kernel
theorem dX8_sizeOf_9 : decode cX8_sizeOf 9 = .ok (.imul, 1) := by decide +kernel
theorem dX8_sizeOf_10 : decode cX8_sizeOf 10 = .ok (.isub, 1) := by decide +kernel
theorem dX8_sizeOf_11 : decode cX8_sizeOf 11 = .ok (.istore_n 2, 1) := by decide +kernel
theorem dX8_sizeOf_12 : decode cX8_sizeOf 12 = .ok (.iload_n 2, 1) := by decide +kernel
theorem dX8_sizeOf_13 : decode cX8_sizeOf 13 = .ok (.aload_n 0, 1) := by decide +kernel
theorem dX8_sizeOf_14 : decode cX8_sizeOf 14 = .ok (.getfield 61, 3) := by decide +kernel
theorem dX8_sizeOf_17 : decode cX8_sizeOf 17 = .ok (.if_icmp .ge 7, 3) := by decide +kernel
theorem dX8_sizeOf_20 : decode cX8_sizeOf 20 = .ok (.iload_n 2, 1) := by decide +kernel
theorem dX8_sizeOf_21 : decode cX8_sizeOf 21 = .ok (.goto 7, 3) := by decide +kernel
theorem dX8_sizeOf_24 : decode cX8_sizeOf 24 = .ok (.aload_n 0, 1) := by decide +kernel
theorem dX8_sizeOf_25 : decode cX8_sizeOf 25 = .ok (.getfield 61, 3) := by decide +kernel
theorem dX8_sizeOf_28 : decode cX8_sizeOf 28 = .ok (.ireturn, 1) := by decide +kernel
theorem dX8_costOf_0 : decode cX8_costOf 0 = .ok (.iconst 2, 1) := by decide +kernel
theorem dX8_costOf_1 : decode cX8_costOf 1 = .ok (.iload_n 3, 1) := by decide +kernel
theorem dX8_costOf_2 : decode cX8_costOf 2 = .ok (.invokestatic 70, 3) := by decide +kernel
theorem dX8_costOf_5 : decode cX8_costOf 5 = .ok (.iconst 3, 1) := by decide +kernel
theorem dX8_costOf_6 : decode cX8_costOf 6 = .ok (.iload 4, 2) := by decide +kernel
theorem dX8_costOf_8 : decode cX8_costOf 8 = .ok (.invokestatic 70, 3) := by decide +kernel
theorem dX8_costOf_11 : decode cX8_costOf 11 = .ok (.iadd, 1) := by decide +kernel
theorem dX8_costOf_12 : decode cX8_costOf 12 = .ok (.istore 6, 2) := by decide +kernel
theorem dX8_costOf_14 : decode cX8_costOf 14 = .ok (.iconst 0, 1) := by decide +kernel
theorem dX8_costOf_15 : decode cX8_costOf 15 = .ok (.istore 7, 2) := by decide +kernel
theorem dX8_costOf_17 : decode cX8_costOf 17 = .ok (.iload 7, 2) := by decide +kernel
theorem dX8_costOf_19 : decode cX8_costOf 19 = .ok (.aload_n 0, 1) := by decide +kernel
theorem dX8_costOf_20 : decode cX8_costOf 20 = .ok (.iload_n 1, 1) := by decide +kernel
theorem dX8_costOf_21 : decode cX8_costOf 21 = .ok (.invokevirtual 74, 3) := by decide +kernel
theorem dX8_costOf_24 : decode cX8_costOf 24 = .ok (.if_icmp .ge 62, 3) := by decide +kernel
theorem dX8_costOf_27 : decode cX8_costOf 27 = .ok (.aload_n 0, 1) := by decide +kernel
theorem dX8_costOf_28 : decode cX8_costOf 28 = .ok (.iload_n 1, 1) := by decide +kernel
theorem dX8_costOf_29 : decode cX8_costOf 29 = .ok (.iload_n 2, 1) := by decide +kernel
theorem dX8_costOf_30 : decode cX8_costOf 30 = .ok (.invokevirtual 78, 3) := by decide +kernel
theorem dX8_costOf_33 : decode cX8_costOf 33 = .ok (.iload 7, 2) := by decide +kernel
theorem dX8_costOf_35 : decode cX8_costOf 35 = .ok (.aload_n 0, 1) := by decide +kernel
theorem dX8_costOf_36 : decode cX8_costOf 36 = .ok (.getfield 64, 3) := by decide +kernel
theorem dX8_costOf_39 : decode cX8_costOf 39 = .ok (.imul, 1) := by decide +kernel
theorem dX8_costOf_40 : decode cX8_costOf 40 = .ok (.iadd, 1) := by decide +kernel
theorem dX8_costOf_41 : decode cX8_costOf 41 = .ok (.istore 8, 2) := by decide +kernel
theorem dX8_costOf_43 : decode cX8_costOf 43 = .ok (.iload 6, 2) := by decide +kernel
theorem dX8_costOf_45 : decode cX8_costOf 45 = .ok (.iload 4, 2) := by decide +kernel
theorem dX8_costOf_47 : decode cX8_costOf 47 = .ok (.aload_n 0, 1) := by decide +kernel
theorem dX8_costOf_48 : decode cX8_costOf 48 = .ok (.getfield 28, 3) := by decide +kernel
theorem dX8_costOf_51 : decode cX8_costOf 51 = .ok (.iload 8, 2) := by decide +kernel
theorem dX8_costOf_53 : decode cX8_costOf 53 = .ok (.iaload, 1) := by decide +kernel
theorem dX8_costOf_54 : decode cX8_costOf 54 = .ok (.iload_n 3, 1) := by decide +kernel
theorem dX8_costOf_55 : decode cX8_costOf 55 = .ok (.aload_n 0, 1) := by decide +kernel
theorem dX8_costOf_56 : decode cX8_costOf 56 = .ok (.getfield 28, 3) := by decide +kernel
theorem dX8_costOf_59 : decode cX8_costOf 59 = .ok (.iload 8, 2) := by decide +kernel
theorem dX8_costOf_61 : decode cX8_costOf 61 = .ok (.aload_n 0, 1) := by decide +kernel
theorem dX8_costOf_62 : decode cX8_costOf 62 = .ok (.getfield 64, 3) := by decide +kernel
theorem dX8_costOf_65 : decode cX8_costOf 65 = .ok (.iload 5, 2) := by decide +kernel
theorem dX8_costOf_67 : decode cX8_costOf 67 = .ok (.invokestatic 81, 3) := by decide +kernel
theorem dX8_costOf_70 : decode cX8_costOf 70 = .ok (.isub, 1) := by decide +kernel
theorem dX8_costOf_71 : decode cX8_costOf 71 = .ok (.invokestatic 85, 3) := by decide +kernel
theorem dX8_costOf_74 : decode cX8_costOf 74 = .ok (.invokestatic 70, 3) := by decide +kernel
theorem dX8_costOf_77 : decode cX8_costOf 77 = .ok (.iadd, 1) := by decide +kernel
theorem dX8_costOf_78 : decode cX8_costOf 78 = .ok (.istore 6, 2) := by decide +kernel
theorem dX8_costOf_80 : decode cX8_costOf 80 = .ok (.iinc 7 1, 3) := by decide +kernel
theorem dX8_costOf_83 : decode cX8_costOf 83 = .ok (.goto (-66), 3) := by decide +kernel
theorem dX8_costOf_86 : decode cX8_costOf 86 = .ok (.iload 6, 2) := by decide +kernel
theorem dX8_costOf_88 : decode cX8_costOf 88 = .ok (.ireturn, 1) := by decide +kernel
theorem dX8_isMean_0 : decode cX8_isMean 0 = .ok (.iconst 1, 1) := by decide +kernel
theorem dX8_isMean_1 : decode cX8_isMean 1 = .ok (.istore 4, 2) := by decide +kernel
theorem dX8_isMean_3 : decode cX8_isMean 3 = .ok (.iconst 0, 1) := by decide +kernel
theorem dX8_isMean_4 : decode cX8_isMean 4 = .ok (.istore 5, 2) := by decide +kernel
theorem dX8_isMean_6 : decode cX8_isMean 6 = .ok (.iload 5, 2) := by decide +kernel
theorem dX8_isMean_8 : decode cX8_isMean 8 = .ok (.aload_n 0, 1) := by decide +kernel
theorem dX8_isMean_9 : decode cX8_isMean 9 = .ok (.iload_n 1, 1) := by decide +kernel
theorem dX8_isMean_10 : decode cX8_isMean 10 = .ok (.invokevirtual 74, 3) := by decide +kernel
theorem dX8_isMean_13 : decode cX8_isMean 13 = .ok (.if_icmp .ge 44, 3) := by decide +kernel
theorem dX8_isMean_16 : decode cX8_isMean 16 = .ok (.iload 4, 2) := by decide +kernel
theorem dX8_isMean_18 : decode cX8_isMean 18 = .ok (.ifCond .eq 30, 3) := by decide +kernel
theorem dX8_isMean_21 : decode cX8_isMean 21 = .ok (.aload_n 0, 1) := by decide +kernel
theorem dX8_isMean_22 : decode cX8_isMean 22 = .ok (.getfield 28, 3) := by decide +kernel
theorem dX8_isMean_25 : decode cX8_isMean 25 = .ok (.aload_n 0, 1) := by decide +kernel
theorem dX8_isMean_26 : decode cX8_isMean 26 = .ok (.iload_n 1, 1) := by decide +kernel
theorem dX8_isMean_27 : decode cX8_isMean 27 = .ok (.iload_n 2, 1) := by decide +kernel
theorem dX8_isMean_28 : decode cX8_isMean 28 = .ok (.invokevirtual 78, 3) := by decide +kernel
theorem dX8_isMean_31 : decode cX8_isMean 31 = .ok (.iload 5, 2) := by decide +kernel
theorem dX8_isMean_33 : decode cX8_isMean 33 = .ok (.aload_n 0, 1) := by decide +kernel
theorem dX8_isMean_34 : decode cX8_isMean 34 = .ok (.getfield 64, 3) := by decide +kernel
theorem dX8_isMean_37 : decode cX8_isMean 37 = .ok (.imul, 1) := by decide +kernel
theorem dX8_isMean_38 : decode cX8_isMean 38 = .ok (.iadd, 1) := by decide +kernel
theorem dX8_isMean_39 : decode cX8_isMean 39 = .ok (.iaload, 1) := by decide +kernel
theorem dX8_isMean_40 : decode cX8_isMean 40 = .ok (.iload_n 3, 1) := by decide +kernel
theorem dX8_isMean_41 : decode cX8_isMean 41 = .ok (.if_icmp .ne 7, 3) := by decide +kernel
theorem dX8_isMean_44 : decode cX8_isMean 44 = .ok (.iconst 1, 1) := by decide +kernel
theorem dX8_isMean_45 : decode cX8_isMean 45 = .ok (.goto 4, 3) := by decide +kernel
theorem dX8_isMean_48 : decode cX8_isMean 48 = .ok (.iconst 0, 1) := by decide +kernel
theorem dX8_isMean_49 : decode cX8_isMean 49 = .ok (.istore 4, 2) := by decide +kernel
theorem dX8_isMean_51 : decode cX8_isMean 51 = .ok (.iinc 5 1, 3) := by decide +kernel
theorem dX8_isMean_54 : decode cX8_isMean 54 = .ok (.goto (-48), 3) := by decide +kernel
theorem dX8_isMean_57 : decode cX8_isMean 57 = .ok (.iload 4, 2) := by decide +kernel
theorem dX8_isMean_59 : decode cX8_isMean 59 = .ok (.ireturn, 1) := by decide +kernel
theorem dX8_writeBlock_0 : decode cX8_writeBlock 0 = .ok (.aload_n 0, 1) := by decide +kernel
theorem dX8_writeBlock_1 : decode cX8_writeBlock 1 = .ok (.iload_n 2, 1) := by decide +kernel
theorem dX8_writeBlock_2 : decode cX8_writeBlock 2 = .ok (.invokevirtual 88, 3) := by decide +kernel
theorem dX8_writeBlock_5 : decode cX8_writeBlock 5 = .ok (.istore_n 3, 1) := by decide +kernel
theorem dX8_writeBlock_6 : decode cX8_writeBlock 6 = .ok (.iconst 4, 1) := by decide +kernel
theorem dX8_writeBlock_7 : decode cX8_writeBlock 7 = .ok (.istore 4, 2) := by decide +kernel
theorem dX8_writeBlock_9 : decode cX8_writeBlock 9 = .ok (.iconst (-1), 1) := by decide +kernel
theorem dX8_writeBlock_10 : decode cX8_writeBlock 10 = .ok (.istore 5, 2) := by decide +kernel
theorem dX8_writeBlock_12 : decode cX8_writeBlock 12 = .ok (.iconst 0, 1) := by decide +kernel
theorem dX8_writeBlock_13 : decode cX8_writeBlock 13 = .ok (.istore 6, 2) := by decide +kernel
theorem dX8_writeBlock_15 : decode cX8_writeBlock 15 = .ok (.aload_n 0, 1) := by decide +kernel
theorem dX8_writeBlock_16 : decode cX8_writeBlock 16 = .ok (.iload_n 1, 1) := by decide +kernel
theorem dX8_writeBlock_17 : decode cX8_writeBlock 17 = .ok (.iload_n 2, 1) := by decide +kernel
theorem dX8_writeBlock_18 : decode cX8_writeBlock 18 = .ok (.iload_n 3, 1) := by decide +kernel
theorem dX8_writeBlock_19 : decode cX8_writeBlock 19 = .ok (.invokevirtual 91, 3) := by decide +kernel
theorem dX8_writeBlock_22 : decode cX8_writeBlock 22 = .ok (.ifCond .ne 71, 3) := by decide +kernel
theorem dX8_writeBlock_25 : decode cX8_writeBlock 25 = .ok (.iconst 0, 1) := by decide +kernel
theorem dX8_writeBlock_26 : decode cX8_writeBlock 26 = .ok (.istore 7, 2) := by decide +kernel
theorem dX8_writeBlock_28 : decode cX8_writeBlock 28 = .ok (.iload 7, 2) := by decide +kernel
theorem dX8_writeBlock_30 : decode cX8_writeBlock 30 = .ok (.iconst 4, 1) := by decide +kernel
theorem dX8_writeBlock_31 : decode cX8_writeBlock 31 = .ok (.if_icmp .ge 62, 3) := by decide +kernel
theorem dX8_writeBlock_34 : decode cX8_writeBlock 34 = .ok (.iconst 0, 1) := by decide +kernel
theorem dX8_writeBlock_35 : decode cX8_writeBlock 35 = .ok (.istore 8, 2) := by decide +kernel
theorem dX8_writeBlock_37 : decode cX8_writeBlock 37 = .ok (.iload 8, 2) := by decide +kernel
theorem dX8_writeBlock_39 : decode cX8_writeBlock 39 = .ok (.bipush 16, 2) := by decide +kernel
theorem dX8_writeBlock_41 : decode cX8_writeBlock 41 = .ok (.if_icmp .ge 46, 3) := by decide +kernel
theorem dX8_writeBlock_44 : decode cX8_writeBlock 44 = .ok (.aload_n 0, 1) := by decide +kernel
theorem dX8_writeBlock_45 : decode cX8_writeBlock 45 = .ok (.iload_n 1, 1) := by decide +kernel
theorem dX8_writeBlock_46 : decode cX8_writeBlock 46 = .ok (.iload_n 2, 1) := by decide +kernel
theorem dX8_writeBlock_47 : decode cX8_writeBlock 47 = .ok (.iload 7, 2) := by decide +kernel
theorem dX8_writeBlock_49 : decode cX8_writeBlock 49 = .ok (.iload 8, 2) := by decide +kernel
theorem dX8_writeBlock_51 : decode cX8_writeBlock 51 = .ok (.iload_n 3, 1) := by decide +kernel
theorem dX8_writeBlock_52 : decode cX8_writeBlock 52 = .ok (.invokevirtual 95, 3) := by decide +kernel
theorem dX8_writeBlock_55 : decode cX8_writeBlock 55 = .ok (.istore 9, 2) := by decide +kernel
theorem dX8_writeBlock_57 : decode cX8_writeBlock 57 = .ok (.iload 5, 2) := by decide +kernel
theorem dX8_writeBlock_59 : decode cX8_writeBlock 59 = .ok (.ifCond .lt 10, 3) := by decide +kernel
theorem dX8_writeBlock_62 : decode cX8_writeBlock 62 = .ok (.iload 9, 2) := by decide +kernel
theorem dX8_writeBlock_64 : decode cX8_writeBlock 64 = .ok (.iload 6, 2) := by decide +kernel
theorem dX8_writeBlock_66 : decode cX8_writeBlock 66 = .ok (.if_icmp .ge 15, 3) := by decide +kernel
theorem dX8_writeBlock_69 : decode cX8_writeBlock 69 = .ok (.iload 7, 2) := by decide +kernel
theorem dX8_writeBlock_71 : decode cX8_writeBlock 71 = .ok (.istore 4, 2) := by decide +kernel
theorem dX8_writeBlock_73 : decode cX8_writeBlock 73 = .ok (.iload 8, 2) := by decide +kernel
theorem dX8_writeBlock_75 : decode cX8_writeBlock 75 = .ok (.istore 5, 2) := by decide +kernel
theorem dX8_writeBlock_77 : decode cX8_writeBlock 77 = .ok (.iload 9, 2) := by decide +kernel
theorem dX8_writeBlock_79 : decode cX8_writeBlock 79 = .ok (.istore 6, 2) := by decide +kernel
theorem dX8_writeBlock_81 : decode cX8_writeBlock 81 = .ok (.iinc 8 1, 3) := by decide +kernel
theorem dX8_writeBlock_84 : decode cX8_writeBlock 84 = .ok (.goto (-47), 3) := by decide +kernel
theorem dX8_writeBlock_87 : decode cX8_writeBlock 87 = .ok (.iinc 7 1, 3) := by decide +kernel
theorem dX8_writeBlock_90 : decode cX8_writeBlock 90 = .ok (.goto (-62), 3) := by decide +kernel
theorem dX8_writeBlock_93 : decode cX8_writeBlock 93 = .ok (.aload_n 0, 1) := by decide +kernel
theorem dX8_writeBlock_94 : decode cX8_writeBlock 94 = .ok (.getfield 54, 3) := by decide +kernel
theorem dX8_writeBlock_97 : decode cX8_writeBlock 97 = .ok (.istore 7, 2) := by decide +kernel
theorem dX8_writeBlock_99 : decode cX8_writeBlock 99 = .ok (.aload_n 0, 1) := by decide +kernel
theorem dX8_writeBlock_100 : decode cX8_writeBlock 100 = .ok (.iconst 2, 1) := by decide +kernel
theorem dX8_writeBlock_101 : decode cX8_writeBlock 101 = .ok (.iload 4, 2) := by decide +kernel
theorem dX8_writeBlock_103 : decode cX8_writeBlock 103 = .ok (.invokevirtual 99, 3) := by decide +kernel
theorem dX8_writeBlock_106 : decode cX8_writeBlock 106 = .ok (.iload 5, 2) := by decide +kernel
theorem dX8_writeBlock_108 : decode cX8_writeBlock 108 = .ok (.ifCond .lt 10, 3) := by decide +kernel
theorem dX8_writeBlock_111 : decode cX8_writeBlock 111 = .ok (.aload_n 0, 1) := by decide +kernel
theorem dX8_writeBlock_112 : decode cX8_writeBlock 112 = .ok (.iconst 3, 1) := by decide +kernel
theorem dX8_writeBlock_113 : decode cX8_writeBlock 113 = .ok (.iload 5, 2) := by decide +kernel
theorem dX8_writeBlock_115 : decode cX8_writeBlock 115 = .ok (.invokevirtual 99, 3) := by decide +kernel
theorem dX8_writeBlock_118 : decode cX8_writeBlock 118 = .ok (.lconst 0, 1) := by decide +kernel
theorem dX8_writeBlock_119 : decode cX8_writeBlock 119 = .ok (.lstore 8, 2) := by decide +kernel
theorem dX8_writeBlock_121 : decode cX8_writeBlock 121 = .ok (.iconst 0, 1) := by decide +kernel
theorem dX8_writeBlock_122 : decode cX8_writeBlock 122 = .ok (.istore 10, 2) := by decide +kernel
theorem dX8_writeBlock_124 : decode cX8_writeBlock 124 = .ok (.iload 10, 2) := by decide +kernel
theorem dX8_writeBlock_126 : decode cX8_writeBlock 126 = .ok (.aload_n 0, 1) := by decide +kernel
theorem dX8_writeBlock_127 : decode cX8_writeBlock 127 = .ok (.iload_n 1, 1) := by decide +kernel
theorem dX8_writeBlock_128 : decode cX8_writeBlock 128 = .ok (.invokevirtual 74, 3) := by decide +kernel
theorem dX8_writeBlock_131 : decode cX8_writeBlock 131 = .ok (.if_icmp .ge 76, 3) := by decide +kernel
theorem dX8_writeBlock_134 : decode cX8_writeBlock 134 = .ok (.aload_n 0, 1) := by decide +kernel
theorem dX8_writeBlock_135 : decode cX8_writeBlock 135 = .ok (.iload_n 1, 1) := by decide +kernel
theorem dX8_writeBlock_136 : decode cX8_writeBlock 136 = .ok (.iload_n 2, 1) := by decide +kernel
theorem dX8_writeBlock_137 : decode cX8_writeBlock 137 = .ok (.invokevirtual 78, 3) := by decide +kernel
theorem dX8_writeBlock_140 : decode cX8_writeBlock 140 = .ok (.iload 10, 2) := by decide +kernel
theorem dX8_writeBlock_142 : decode cX8_writeBlock 142 = .ok (.aload_n 0, 1) := by decide +kernel
theorem dX8_writeBlock_143 : decode cX8_writeBlock 143 = .ok (.getfield 64, 3) := by decide +kernel
theorem dX8_writeBlock_146 : decode cX8_writeBlock 146 = .ok (.imul, 1) := by decide +kernel
theorem dX8_writeBlock_147 : decode cX8_writeBlock 147 = .ok (.iadd, 1) := by decide +kernel
theorem dX8_writeBlock_148 : decode cX8_writeBlock 148 = .ok (.istore 11, 2) := by decide +kernel
theorem dX8_writeBlock_150 : decode cX8_writeBlock 150 = .ok (.lload 8, 2) := by decide +kernel
theorem dX8_writeBlock_152 : decode cX8_writeBlock 152 = .ok (.aload_n 0, 1) := by decide +kernel
theorem dX8_writeBlock_153 : decode cX8_writeBlock 153 = .ok (.getfield 28, 3) := by decide +kernel
theorem dX8_writeBlock_156 : decode cX8_writeBlock 156 = .ok (.iload 11, 2) := by decide +kernel
theorem dX8_writeBlock_158 : decode cX8_writeBlock 158 = .ok (.iaload, 1) := by decide +kernel
theorem dX8_writeBlock_159 : decode cX8_writeBlock 159 = .ok (.i2l, 1) := by decide +kernel
theorem dX8_writeBlock_160 : decode cX8_writeBlock 160 = .ok (.ladd, 1) := by decide +kernel
theorem dX8_writeBlock_161 : decode cX8_writeBlock 161 = .ok (.lstore 8, 2) := by decide +kernel
theorem dX8_writeBlock_163 : decode cX8_writeBlock 163 = .ok (.iload 5, 2) := by decide +kernel
theorem dX8_writeBlock_165 : decode cX8_writeBlock 165 = .ok (.ifCond .lt 36, 3) := by decide +kernel
theorem dX8_writeBlock_168 : decode cX8_writeBlock 168 = .ok (.aload_n 0, 1) := by decide +kernel
theorem dX8_writeBlock_169 : decode cX8_writeBlock 169 = .ok (.iload 5, 2) := by decide +kernel
theorem dX8_writeBlock_171 : decode cX8_writeBlock 171 = .ok (.aload_n 0, 1) := by decide +kernel
theorem dX8_writeBlock_172 : decode cX8_writeBlock 172 = .ok (.getfield 28, 3) := by decide +kernel
theorem dX8_writeBlock_175 : decode cX8_writeBlock 175 = .ok (.iload 11, 2) := by decide +kernel
theorem dX8_writeBlock_177 : decode cX8_writeBlock 177 = .ok (.iaload, 1) := by decide +kernel
theorem dX8_writeBlock_178 : decode cX8_writeBlock 178 = .ok (.iload 4, 2) := by decide +kernel
theorem dX8_writeBlock_180 : decode cX8_writeBlock 180 = .ok (.aload_n 0, 1) := by decide +kernel
theorem dX8_writeBlock_181 : decode cX8_writeBlock 181 = .ok (.getfield 28, 3) := by decide +kernel
theorem dX8_writeBlock_184 : decode cX8_writeBlock 184 = .ok (.iload 11, 2) := by decide +kernel
theorem dX8_writeBlock_186 : decode cX8_writeBlock 186 = .ok (.aload_n 0, 1) := by decide +kernel
theorem dX8_writeBlock_187 : decode cX8_writeBlock 187 = .ok (.getfield 64, 3) := by decide +kernel
theorem dX8_writeBlock_190 : decode cX8_writeBlock 190 = .ok (.iload_n 3, 1) := by decide +kernel
theorem dX8_writeBlock_191 : decode cX8_writeBlock 191 = .ok (.invokestatic 81, 3) := by decide +kernel
theorem dX8_writeBlock_194 : decode cX8_writeBlock 194 = .ok (.isub, 1) := by decide +kernel
theorem dX8_writeBlock_195 : decode cX8_writeBlock 195 = .ok (.invokestatic 85, 3) := by decide +kernel
theorem dX8_writeBlock_198 : decode cX8_writeBlock 198 = .ok (.invokevirtual 99, 3) := by decide +kernel
theorem dX8_writeBlock_201 : decode cX8_writeBlock 201 = .ok (.iinc 10 1, 3) := by decide +kernel
theorem dX8_writeBlock_204 : decode cX8_writeBlock 204 = .ok (.goto (-80), 3) := by decide +kernel
theorem dX8_writeBlock_207 : decode cX8_writeBlock 207 = .ok (.aload_n 0, 1) := by decide +kernel
theorem dX8_writeBlock_208 : decode cX8_writeBlock 208 = .ok (.iload_n 2, 1) := by decide +kernel
theorem dX8_writeBlock_209 : decode cX8_writeBlock 209 = .ok (.lload 8, 2) := by decide +kernel
theorem dX8_writeBlock_211 : decode cX8_writeBlock 211 = .ok (.aload_n 0, 1) := by decide +kernel
theorem dX8_writeBlock_212 : decode cX8_writeBlock 212 = .ok (.iload_n 1, 1) := by decide +kernel
theorem dX8_writeBlock_213 : decode cX8_writeBlock 213 = .ok (.invokevirtual 74, 3) := by decide +kernel
theorem dX8_writeBlock_216 : decode cX8_writeBlock 216 = .ok (.invokevirtual 103, 3) := by decide +kernel
theorem dX8_writeBlock_219 : decode cX8_writeBlock 219 = .ok (.aload_n 0, 1) := by decide +kernel
theorem dX8_writeBlock_220 : decode cX8_writeBlock 220 = .ok (.getfield 25, 3) := by decide +kernel
theorem dX8_writeBlock_223 : decode cX8_writeBlock 223 = .ok (.iconst 4, 1) := by decide +kernel
theorem dX8_writeBlock_224 : decode cX8_writeBlock 224 = .ok (.aload_n 0, 1) := by decide +kernel
theorem dX8_writeBlock_225 : decode cX8_writeBlock 225 = .ok (.getfield 107, 3) := by decide +kernel
theorem dX8_writeBlock_228 : decode cX8_writeBlock 228 = .ok (.imul, 1) := by decide +kernel
theorem dX8_writeBlock_229 : decode cX8_writeBlock 229 = .ok (.iload_n 2, 1) := by decide +kernel
theorem dX8_writeBlock_230 : decode cX8_writeBlock 230 = .ok (.iastore, 1) := by decide +kernel
theorem dX8_writeBlock_231 : decode cX8_writeBlock 231 = .ok (.aload_n 0, 1) := by decide +kernel
theorem dX8_writeBlock_232 : decode cX8_writeBlock 232 = .ok (.getfield 25, 3) := by decide +kernel
theorem dX8_writeBlock_235 : decode cX8_writeBlock 235 = .ok (.iconst 4, 1) := by decide +kernel
theorem dX8_writeBlock_236 : decode cX8_writeBlock 236 = .ok (.aload_n 0, 1) := by decide +kernel
theorem dX8_writeBlock_237 : decode cX8_writeBlock 237 = .ok (.getfield 107, 3) := by decide +kernel
theorem dX8_writeBlock_240 : decode cX8_writeBlock 240 = .ok (.imul, 1) := by decide +kernel
theorem dX8_writeBlock_241 : decode cX8_writeBlock 241 = .ok (.iconst 1, 1) := by decide +kernel
theorem dX8_writeBlock_242 : decode cX8_writeBlock 242 = .ok (.iadd, 1) := by decide +kernel
theorem dX8_writeBlock_243 : decode cX8_writeBlock 243 = .ok (.iload 4, 2) := by decide +kernel
theorem dX8_writeBlock_245 : decode cX8_writeBlock 245 = .ok (.iastore, 1) := by decide +kernel
theorem dX8_writeBlock_246 : decode cX8_writeBlock 246 = .ok (.aload_n 0, 1) := by decide +kernel
theorem dX8_writeBlock_247 : decode cX8_writeBlock 247 = .ok (.getfield 25, 3) := by decide +kernel
theorem dX8_writeBlock_250 : decode cX8_writeBlock 250 = .ok (.iconst 4, 1) := by decide +kernel
theorem dX8_writeBlock_251 : decode cX8_writeBlock 251 = .ok (.aload_n 0, 1) := by decide +kernel
theorem dX8_writeBlock_252 : decode cX8_writeBlock 252 = .ok (.getfield 107, 3) := by decide +kernel
theorem dX8_writeBlock_255 : decode cX8_writeBlock 255 = .ok (.imul, 1) := by decide +kernel
theorem dX8_writeBlock_256 : decode cX8_writeBlock 256 = .ok (.iconst 2, 1) := by decide +kernel
theorem dX8_writeBlock_257 : decode cX8_writeBlock 257 = .ok (.iadd, 1) := by decide +kernel
theorem dX8_writeBlock_258 : decode cX8_writeBlock 258 = .ok (.iload 5, 2) := by decide +kernel
theorem dX8_writeBlock_260 : decode cX8_writeBlock 260 = .ok (.iastore, 1) := by decide +kernel
theorem dX8_writeBlock_261 : decode cX8_writeBlock 261 = .ok (.aload_n 0, 1) := by decide +kernel
theorem dX8_writeBlock_262 : decode cX8_writeBlock 262 = .ok (.getfield 25, 3) := by decide +kernel
theorem dX8_writeBlock_265 : decode cX8_writeBlock 265 = .ok (.iconst 4, 1) := by decide +kernel
theorem dX8_writeBlock_266 : decode cX8_writeBlock 266 = .ok (.aload_n 0, 1) := by decide +kernel
theorem dX8_writeBlock_267 : decode cX8_writeBlock 267 = .ok (.getfield 107, 3) := by decide +kernel
theorem dX8_writeBlock_270 : decode cX8_writeBlock 270 = .ok (.imul, 1) := by decide +kernel
theorem dX8_writeBlock_271 : decode cX8_writeBlock 271 = .ok (.iconst 3, 1) := by decide +kernel
theorem dX8_writeBlock_272 : decode cX8_writeBlock 272 = .ok (.iadd, 1) := by decide +kernel
theorem dX8_writeBlock_273 : decode cX8_writeBlock 273 = .ok (.aload_n 0, 1) := by decide +kernel
theorem dX8_writeBlock_274 : decode cX8_writeBlock 274 = .ok (.getfield 54, 3) := by decide +kernel
theorem dX8_writeBlock_277 : decode cX8_writeBlock 277 = .ok (.iload 7, 2) := by decide +kernel
theorem dX8_writeBlock_279 : decode cX8_writeBlock 279 = .ok (.isub, 1) := by decide +kernel
theorem dX8_writeBlock_280 : decode cX8_writeBlock 280 = .ok (.iastore, 1) := by decide +kernel
theorem dX8_writeBlock_281 : decode cX8_writeBlock 281 = .ok (.aload_n 0, 1) := by decide +kernel
theorem dX8_writeBlock_282 : decode cX8_writeBlock 282 = .ok (.dup, 1) := by decide +kernel
theorem dX8_writeBlock_283 : decode cX8_writeBlock 283 = .ok (.getfield 107, 3) := by decide +kernel
theorem dX8_writeBlock_286 : decode cX8_writeBlock 286 = .ok (.iconst 1, 1) := by decide +kernel
theorem dX8_writeBlock_287 : decode cX8_writeBlock 287 = .ok (.iadd, 1) := by decide +kernel
theorem dX8_writeBlock_288 : decode cX8_writeBlock 288 = .ok (.putfield 107, 3) := by decide +kernel
theorem dX8_writeBlock_291 : decode cX8_writeBlock 291 = .ok (.return_, 1) := by decide +kernel
theorem dX8_write_0 : decode cX8_write 0 = .ok (.aload_n 0, 1) := by decide +kernel
theorem dX8_write_1 : decode cX8_write 1 = .ok (.aload_n 0, 1) := by decide +kernel
theorem dX8_write_2 : decode cX8_write 2 = .ok (.getfield 7, 3) := by decide +kernel
theorem dX8_write_5 : decode cX8_write 5 = .ok (.putfield 64, 3) := by decide +kernel
theorem dX8_write_8 : decode cX8_write 8 = .ok (.aload_n 0, 1) := by decide +kernel
theorem dX8_write_9 : decode cX8_write 9 = .ok (.aload_n 0, 1) := by decide +kernel
theorem dX8_write_10 : decode cX8_write 10 = .ok (.getfield 13, 3) := by decide +kernel
theorem dX8_write_13 : decode cX8_write 13 = .ok (.putfield 61, 3) := by decide +kernel
theorem dX8_write_16 : decode cX8_write 16 = .ok (.aload_n 0, 1) := by decide +kernel
theorem dX8_write_17 : decode cX8_write 17 = .ok (.aload_n 0, 1) := by decide +kernel
theorem dX8_write_18 : decode cX8_write 18 = .ok (.getfield 43, 3) := by decide +kernel
theorem dX8_write_21 : decode cX8_write 21 = .ok (.aload_n 0, 1) := by decide +kernel
theorem dX8_write_22 : decode cX8_write 22 = .ok (.getfield 7, 3) := by decide +kernel
theorem dX8_write_25 : decode cX8_write 25 = .ok (.idiv, 1) := by decide +kernel
theorem dX8_write_26 : decode cX8_write 26 = .ok (.putfield 67, 3) := by decide +kernel
theorem dX8_write_29 : decode cX8_write 29 = .ok (.iconst 0, 1) := by decide +kernel
theorem dX8_write_30 : decode cX8_write 30 = .ok (.istore_n 1, 1) := by decide +kernel
theorem dX8_write_31 : decode cX8_write 31 = .ok (.iload_n 1, 1) := by decide +kernel
theorem dX8_write_32 : decode cX8_write 32 = .ok (.aload_n 0, 1) := by decide +kernel
theorem dX8_write_33 : decode cX8_write 33 = .ok (.getfield 67, 3) := by decide +kernel
theorem dX8_write_36 : decode cX8_write 36 = .ok (.aload_n 0, 1) := by decide +kernel
theorem dX8_write_37 : decode cX8_write 37 = .ok (.getfield 7, 3) := by decide +kernel
theorem dX8_write_40 : decode cX8_write 40 = .ok (.imul, 1) := by decide +kernel
theorem dX8_write_41 : decode cX8_write 41 = .ok (.if_icmp .ge 21, 3) := by decide +kernel
theorem dX8_write_44 : decode cX8_write 44 = .ok (.aload_n 0, 1) := by decide +kernel
theorem dX8_write_45 : decode cX8_write 45 = .ok (.getfield 28, 3) := by decide +kernel
theorem dX8_write_48 : decode cX8_write 48 = .ok (.iload_n 1, 1) := by decide +kernel
theorem dX8_write_49 : decode cX8_write 49 = .ok (.aload_n 0, 1) := by decide +kernel
theorem dX8_write_50 : decode cX8_write 50 = .ok (.getfield 16, 3) := by decide +kernel
theorem dX8_write_53 : decode cX8_write 53 = .ok (.iload_n 1, 1) := by decide +kernel
theorem dX8_write_54 : decode cX8_write 54 = .ok (.iaload, 1) := by decide +kernel
theorem dX8_write_55 : decode cX8_write 55 = .ok (.iastore, 1) := by decide +kernel
theorem dX8_write_56 : decode cX8_write 56 = .ok (.iinc 1 1, 3) := by decide +kernel
theorem dX8_write_59 : decode cX8_write 59 = .ok (.goto (-28), 3) := by decide +kernel
theorem dX8_write_62 : decode cX8_write 62 = .ok (.aload_n 0, 1) := by decide +kernel
theorem dX8_write_63 : decode cX8_write 63 = .ok (.iconst 0, 1) := by decide +kernel
theorem dX8_write_64 : decode cX8_write 64 = .ok (.putfield 54, 3) := by decide +kernel
theorem dX8_write_67 : decode cX8_write 67 = .ok (.aload_n 0, 1) := by decide +kernel
theorem dX8_write_68 : decode cX8_write 68 = .ok (.iconst 0, 1) := by decide +kernel
theorem dX8_write_69 : decode cX8_write 69 = .ok (.putfield 107, 3) := by decide +kernel
theorem dX8_write_72 : decode cX8_write 72 = .ok (.aload_n 0, 1) := by decide +kernel
theorem dX8_write_73 : decode cX8_write 73 = .ok (.invokevirtual 110, 3) := by decide +kernel
theorem dX8_write_76 : decode cX8_write 76 = .ok (.bipush 7, 2) := by decide +kernel
theorem dX8_write_78 : decode cX8_write 78 = .ok (.istore_n 1, 1) := by decide +kernel
theorem dX8_write_79 : decode cX8_write 79 = .ok (.iload_n 1, 1) := by decide +kernel
theorem dX8_write_80 : decode cX8_write 80 = .ok (.ifCond .lt 19, 3) := by decide +kernel
theorem dX8_write_83 : decode cX8_write 83 = .ok (.aload_n 0, 1) := by decide +kernel
theorem dX8_write_84 : decode cX8_write 84 = .ok (.bipush 83, 2) := by decide +kernel
theorem dX8_write_86 : decode cX8_write 86 = .ok (.iload_n 1, 1) := by decide +kernel
theorem dX8_write_87 : decode cX8_write 87 = .ok (.ishr, 1) := by decide +kernel
theorem dX8_write_88 : decode cX8_write 88 = .ok (.iconst 1, 1) := by decide +kernel
theorem dX8_write_89 : decode cX8_write 89 = .ok (.iand, 1) := by decide +kernel
theorem dX8_write_90 : decode cX8_write 90 = .ok (.invokevirtual 57, 3) := by decide +kernel
theorem dX8_write_93 : decode cX8_write 93 = .ok (.iinc 1 (-1), 3) := by decide +kernel
theorem dX8_write_96 : decode cX8_write 96 = .ok (.goto (-17), 3) := by decide +kernel
theorem dX8_write_99 : decode cX8_write 99 = .ok (.bipush 7, 2) := by decide +kernel
theorem dX8_write_101 : decode cX8_write 101 = .ok (.istore_n 1, 1) := by decide +kernel
theorem dX8_write_102 : decode cX8_write 102 = .ok (.iload_n 1, 1) := by decide +kernel
theorem dX8_write_103 : decode cX8_write 103 = .ok (.ifCond .lt 19, 3) := by decide +kernel
theorem dX8_write_106 : decode cX8_write 106 = .ok (.aload_n 0, 1) := by decide +kernel
theorem dX8_write_107 : decode cX8_write 107 = .ok (.bipush 66, 2) := by decide +kernel
theorem dX8_write_109 : decode cX8_write 109 = .ok (.iload_n 1, 1) := by decide +kernel
theorem dX8_write_110 : decode cX8_write 110 = .ok (.ishr, 1) := by decide +kernel
theorem dX8_write_111 : decode cX8_write 111 = .ok (.iconst 1, 1) := by decide +kernel
theorem dX8_write_112 : decode cX8_write 112 = .ok (.iand, 1) := by decide +kernel
theorem dX8_write_113 : decode cX8_write 113 = .ok (.invokevirtual 57, 3) := by decide +kernel
theorem dX8_write_116 : decode cX8_write 116 = .ok (.iinc 1 (-1), 3) := by decide +kernel
theorem dX8_write_119 : decode cX8_write 119 = .ok (.goto (-17), 3) := by decide +kernel
theorem dX8_write_122 : decode cX8_write 122 = .ok (.aload_n 0, 1) := by decide +kernel
theorem dX8_write_123 : decode cX8_write 123 = .ok (.iconst 2, 1) := by decide +kernel
theorem dX8_write_124 : decode cX8_write 124 = .ok (.aload_n 0, 1) := by decide +kernel
theorem dX8_write_125 : decode cX8_write 125 = .ok (.getfield 64, 3) := by decide +kernel
theorem dX8_write_128 : decode cX8_write 128 = .ok (.invokevirtual 99, 3) := by decide +kernel
theorem dX8_write_131 : decode cX8_write 131 = .ok (.aload_n 0, 1) := by decide +kernel
theorem dX8_write_132 : decode cX8_write 132 = .ok (.iconst 4, 1) := by decide +kernel
theorem dX8_write_133 : decode cX8_write 133 = .ok (.aload_n 0, 1) := by decide +kernel
theorem dX8_write_134 : decode cX8_write 134 = .ok (.getfield 61, 3) := by decide +kernel
theorem dX8_write_137 : decode cX8_write 137 = .ok (.invokevirtual 99, 3) := by decide +kernel
theorem dX8_write_140 : decode cX8_write 140 = .ok (.aload_n 0, 1) := by decide +kernel
theorem dX8_write_141 : decode cX8_write 141 = .ok (.bipush 6, 2) := by decide +kernel
theorem dX8_write_143 : decode cX8_write 143 = .ok (.aload_n 0, 1) := by decide +kernel
theorem dX8_write_144 : decode cX8_write 144 = .ok (.getfield 67, 3) := by decide +kernel
theorem dX8_write_147 : decode cX8_write 147 = .ok (.invokevirtual 99, 3) := by decide +kernel
theorem dX8_write_150 : decode cX8_write 150 = .ok (.iconst 0, 1) := by decide +kernel
theorem dX8_write_151 : decode cX8_write 151 = .ok (.istore_n 1, 1) := by decide +kernel
theorem dX8_write_152 : decode cX8_write 152 = .ok (.iload_n 1, 1) := by decide +kernel
theorem dX8_write_153 : decode cX8_write 153 = .ok (.aload_n 0, 1) := by decide +kernel
theorem dX8_write_154 : decode cX8_write 154 = .ok (.getfield 61, 3) := by decide +kernel
theorem dX8_write_157 : decode cX8_write 157 = .ok (.imul, 1) := by decide +kernel
theorem dX8_write_158 : decode cX8_write 158 = .ok (.aload_n 0, 1) := by decide +kernel
theorem dX8_write_159 : decode cX8_write 159 = .ok (.getfield 67, 3) := by decide +kernel
theorem dX8_write_162 : decode cX8_write 162 = .ok (.if_icmp .ge 31, 3) := by decide +kernel
theorem dX8_write_165 : decode cX8_write 165 = .ok (.iconst 0, 1) := by decide +kernel
theorem dX8_write_166 : decode cX8_write 166 = .ok (.istore_n 2, 1) := by decide +kernel
theorem dX8_write_167 : decode cX8_write 167 = .ok (.iload_n 2, 1) := by decide +kernel
theorem dX8_write_168 : decode cX8_write 168 = .ok (.aload_n 0, 1) := by decide +kernel
theorem dX8_write_169 : decode cX8_write 169 = .ok (.getfield 64, 3) := by decide +kernel
theorem dX8_write_172 : decode cX8_write 172 = .ok (.if_icmp .ge 15, 3) := by decide +kernel
theorem dX8_write_175 : decode cX8_write 175 = .ok (.aload_n 0, 1) := by decide +kernel
theorem dX8_write_176 : decode cX8_write 176 = .ok (.iload_n 1, 1) := by decide +kernel
theorem dX8_write_177 : decode cX8_write 177 = .ok (.iload_n 2, 1) := by decide +kernel
theorem dX8_write_178 : decode cX8_write 178 = .ok (.invokevirtual 113, 3) := by decide +kernel
theorem dX8_write_181 : decode cX8_write 181 = .ok (.iinc 2 1, 3) := by decide +kernel
theorem dX8_write_184 : decode cX8_write 184 = .ok (.goto (-17), 3) := by decide +kernel
theorem dX8_write_187 : decode cX8_write 187 = .ok (.iinc 1 1, 3) := by decide +kernel
theorem dX8_write_190 : decode cX8_write 190 = .ok (.goto (-38), 3) := by decide +kernel
theorem dX8_write_193 : decode cX8_write 193 = .ok (.aload_n 0, 1) := by decide +kernel
theorem dX8_write_194 : decode cX8_write 194 = .ok (.iconst 2, 1) := by decide +kernel
theorem dX8_write_195 : decode cX8_write 195 = .ok (.iconst 5, 1) := by decide +kernel
theorem dX8_write_196 : decode cX8_write 196 = .ok (.invokevirtual 99, 3) := by decide +kernel
theorem dX8_write_199 : decode cX8_write 199 = .ok (.aload_n 0, 1) := by decide +kernel
theorem dX8_write_200 : decode cX8_write 200 = .ok (.getfield 54, 3) := by decide +kernel
theorem dX8_write_203 : decode cX8_write 203 = .ok (.bipush 8, 2) := by decide +kernel
theorem dX8_write_205 : decode cX8_write 205 = .ok (.irem, 1) := by decide +kernel
theorem dX8_write_206 : decode cX8_write 206 = .ok (.ifCond .eq 11, 3) := by decide +kernel
theorem dX8_write_209 : decode cX8_write 209 = .ok (.aload_n 0, 1) := by decide +kernel
theorem dX8_write_210 : decode cX8_write 210 = .ok (.iconst 0, 1) := by decide +kernel
theorem dX8_write_211 : decode cX8_write 211 = .ok (.invokevirtual 57, 3) := by decide +kernel
theorem dX8_write_214 : decode cX8_write 214 = .ok (.goto (-15), 3) := by decide +kernel
theorem dX8_write_217 : decode cX8_write 217 = .ok (.aload_n 0, 1) := by decide +kernel
theorem dX8_write_218 : decode cX8_write 218 = .ok (.getfield 54, 3) := by decide +kernel
theorem dX8_write_221 : decode cX8_write 221 = .ok (.bipush 8, 2) := by decide +kernel
theorem dX8_write_223 : decode cX8_write 223 = .ok (.idiv, 1) := by decide +kernel
theorem dX8_write_224 : decode cX8_write 224 = .ok (.ireturn, 1) := by decide +kernel
theorem dX8_at_0 : decode cX8_at 0 = .ok (.iload_n 1, 1) := by decide +kernel
theorem dX8_at_1 : decode cX8_at 1 = .ok (.ifCond .lt 14, 3) := by decide +kernel
theorem dX8_at_4 : decode cX8_at 4 = .ok (.iload_n 1, 1) := by decide +kernel
theorem dX8_at_5 : decode cX8_at 5 = .ok (.aload_n 0, 1) := by decide +kernel
theorem dX8_at_6 : decode cX8_at 6 = .ok (.getfield 54, 3) := by decide +kernel
theorem dX8_at_9 : decode cX8_at 9 = .ok (.bipush 8, 2) := by decide +kernel
theorem dX8_at_11 : decode cX8_at 11 = .ok (.idiv, 1) := by decide +kernel
theorem dX8_at_12 : decode cX8_at 12 = .ok (.if_icmp .lt 5, 3) := by decide +kernel
theorem dX8_at_15 : decode cX8_at 15 = .ok (.iconst (-1), 1) := by decide +kernel
theorem dX8_at_16 : decode cX8_at 16 = .ok (.ireturn, 1) := by decide +kernel
theorem dX8_at_17 : decode cX8_at 17 = .ok (.iconst 0, 1) := by decide +kernel
theorem dX8_at_18 : decode cX8_at 18 = .ok (.istore_n 2, 1) := by decide +kernel
theorem dX8_at_19 : decode cX8_at 19 = .ok (.iconst 0, 1) := by decide +kernel
theorem dX8_at_20 : decode cX8_at 20 = .ok (.istore_n 3, 1) := by decide +kernel
theorem dX8_at_21 : decode cX8_at 21 = .ok (.iload_n 3, 1) := by decide +kernel
theorem dX8_at_22 : decode cX8_at 22 = .ok (.bipush 8, 2) := by decide +kernel
theorem dX8_at_24 : decode cX8_at 24 = .ok (.if_icmp .ge 25, 3) := by decide +kernel
theorem dX8_at_27 : decode cX8_at 27 = .ok (.iconst 2, 1) := by decide +kernel
theorem dX8_at_28 : decode cX8_at 28 = .ok (.iload_n 2, 1) := by decide +kernel
theorem dX8_at_29 : decode cX8_at 29 = .ok (.imul, 1) := by decide +kernel
theorem dX8_at_30 : decode cX8_at 30 = .ok (.aload_n 0, 1) := by decide +kernel
theorem dX8_at_31 : decode cX8_at 31 = .ok (.getfield 21, 3) := by decide +kernel
theorem dX8_at_34 : decode cX8_at 34 = .ok (.bipush 8, 2) := by decide +kernel
theorem dX8_at_36 : decode cX8_at 36 = .ok (.iload_n 1, 1) := by decide +kernel
theorem dX8_at_37 : decode cX8_at 37 = .ok (.imul, 1) := by decide +kernel
theorem dX8_at_38 : decode cX8_at 38 = .ok (.iload_n 3, 1) := by decide +kernel
theorem dX8_at_39 : decode cX8_at 39 = .ok (.iadd, 1) := by decide +kernel
theorem dX8_at_40 : decode cX8_at 40 = .ok (.baload, 1) := by decide +kernel
theorem dX8_at_41 : decode cX8_at 41 = .ok (.iadd, 1) := by decide +kernel
theorem dX8_at_42 : decode cX8_at 42 = .ok (.istore_n 2, 1) := by decide +kernel
theorem dX8_at_43 : decode cX8_at 43 = .ok (.iinc 3 1, 3) := by decide +kernel
theorem dX8_at_46 : decode cX8_at 46 = .ok (.goto (-25), 3) := by decide +kernel
theorem dX8_at_49 : decode cX8_at 49 = .ok (.iload_n 2, 1) := by decide +kernel
theorem dX8_at_50 : decode cX8_at 50 = .ok (.ireturn, 1) := by decide +kernel
theorem dX8_block_0 : decode cX8_block 0 = .ok (.iload_n 1, 1) := by decide +kernel
theorem dX8_block_1 : decode cX8_block 1 = .ok (.ifCond .lt 20, 3) := by decide +kernel
theorem dX8_block_4 : decode cX8_block 4 = .ok (.iload_n 1, 1) := by decide +kernel
theorem dX8_block_5 : decode cX8_block 5 = .ok (.aload_n 0, 1) := by decide +kernel
theorem dX8_block_6 : decode cX8_block 6 = .ok (.getfield 107, 3) := by decide +kernel
theorem dX8_block_9 : decode cX8_block 9 = .ok (.if_icmp .ge 12, 3) := by decide +kernel
theorem dX8_block_12 : decode cX8_block 12 = .ok (.iload_n 2, 1) := by decide +kernel
theorem dX8_block_13 : decode cX8_block 13 = .ok (.ifCond .lt 8, 3) := by decide +kernel
theorem dX8_block_16 : decode cX8_block 16 = .ok (.iload_n 2, 1) := by decide +kernel
theorem dX8_block_17 : decode cX8_block 17 = .ok (.iconst 3, 1) := by decide +kernel
theorem dX8_block_18 : decode cX8_block 18 = .ok (.if_icmp .le 7, 3) := by decide +kernel
theorem dX8_block_21 : decode cX8_block 21 = .ok (.iconst (-1), 1) := by decide +kernel
theorem dX8_block_22 : decode cX8_block 22 = .ok (.goto 13, 3) := by decide +kernel
theorem dX8_block_25 : decode cX8_block 25 = .ok (.aload_n 0, 1) := by decide +kernel
theorem dX8_block_26 : decode cX8_block 26 = .ok (.getfield 25, 3) := by decide +kernel
theorem dX8_block_29 : decode cX8_block 29 = .ok (.iconst 4, 1) := by decide +kernel
theorem dX8_block_30 : decode cX8_block 30 = .ok (.iload_n 1, 1) := by decide +kernel
theorem dX8_block_31 : decode cX8_block 31 = .ok (.imul, 1) := by decide +kernel
theorem dX8_block_32 : decode cX8_block 32 = .ok (.iload_n 2, 1) := by decide +kernel
theorem dX8_block_33 : decode cX8_block 33 = .ok (.iadd, 1) := by decide +kernel
theorem dX8_block_34 : decode cX8_block 34 = .ok (.iaload, 1) := by decide +kernel
theorem dX8_block_35 : decode cX8_block 35 = .ok (.ireturn, 1) := by decide +kernel
theorem dX8_cost_0 : decode cX8_cost 0 = .ok (.iload_n 1, 1) := by decide +kernel
theorem dX8_cost_1 : decode cX8_cost 1 = .ok (.ifCond .lt 30, 3) := by decide +kernel
theorem dX8_cost_4 : decode cX8_cost 4 = .ok (.iload_n 1, 1) := by decide +kernel
theorem dX8_cost_5 : decode cX8_cost 5 = .ok (.aload_n 0, 1) := by decide +kernel
theorem dX8_cost_6 : decode cX8_cost 6 = .ok (.getfield 107, 3) := by decide +kernel
theorem dX8_cost_9 : decode cX8_cost 9 = .ok (.if_icmp .ge 22, 3) := by decide +kernel
theorem dX8_cost_12 : decode cX8_cost 12 = .ok (.iload_n 2, 1) := by decide +kernel
theorem dX8_cost_13 : decode cX8_cost 13 = .ok (.ifCond .lt 18, 3) := by decide +kernel
theorem dX8_cost_16 : decode cX8_cost 16 = .ok (.iload_n 2, 1) := by decide +kernel
theorem dX8_cost_17 : decode cX8_cost 17 = .ok (.iconst 3, 1) := by decide +kernel
theorem dX8_cost_18 : decode cX8_cost 18 = .ok (.if_icmp .gt 13, 3) := by decide +kernel
theorem dX8_cost_21 : decode cX8_cost 21 = .ok (.iload_n 3, 1) := by decide +kernel
theorem dX8_cost_22 : decode cX8_cost 22 = .ok (.ifCond .lt 9, 3) := by decide +kernel
theorem dX8_cost_25 : decode cX8_cost 25 = .ok (.iload_n 3, 1) := by decide +kernel
theorem dX8_cost_26 : decode cX8_cost 26 = .ok (.bipush 15, 2) := by decide +kernel
theorem dX8_cost_28 : decode cX8_cost 28 = .ok (.if_icmp .le 5, 3) := by decide +kernel
theorem dX8_cost_31 : decode cX8_cost 31 = .ok (.iconst (-1), 1) := by decide +kernel
theorem dX8_cost_32 : decode cX8_cost 32 = .ok (.ireturn, 1) := by decide +kernel
theorem dX8_cost_33 : decode cX8_cost 33 = .ok (.aload_n 0, 1) := by decide +kernel
theorem dX8_cost_34 : decode cX8_cost 34 = .ok (.invokevirtual 110, 3) := by decide +kernel
theorem dX8_cost_37 : decode cX8_cost 37 = .ok (.iload_n 1, 1) := by decide +kernel
theorem dX8_cost_38 : decode cX8_cost 38 = .ok (.aload_n 0, 1) := by decide +kernel
theorem dX8_cost_39 : decode cX8_cost 39 = .ok (.getfield 64, 3) := by decide +kernel
theorem dX8_cost_42 : decode cX8_cost 42 = .ok (.irem, 1) := by decide +kernel
theorem dX8_cost_43 : decode cX8_cost 43 = .ok (.istore 4, 2) := by decide +kernel
theorem dX8_cost_45 : decode cX8_cost 45 = .ok (.iload_n 1, 1) := by decide +kernel
theorem dX8_cost_46 : decode cX8_cost 46 = .ok (.aload_n 0, 1) := by decide +kernel
theorem dX8_cost_47 : decode cX8_cost 47 = .ok (.getfield 64, 3) := by decide +kernel
theorem dX8_cost_50 : decode cX8_cost 50 = .ok (.idiv, 1) := by decide +kernel
theorem dX8_cost_51 : decode cX8_cost 51 = .ok (.istore 5, 2) := by decide +kernel
theorem dX8_cost_53 : decode cX8_cost 53 = .ok (.iconst 0, 1) := by decide +kernel
theorem dX8_cost_54 : decode cX8_cost 54 = .ok (.istore 6, 2) := by decide +kernel
theorem dX8_cost_56 : decode cX8_cost 56 = .ok (.iload 6, 2) := by decide +kernel
theorem dX8_cost_58 : decode cX8_cost 58 = .ok (.iload 5, 2) := by decide +kernel
theorem dX8_cost_60 : decode cX8_cost 60 = .ok (.if_icmp .ge 73, 3) := by decide +kernel
theorem dX8_cost_63 : decode cX8_cost 63 = .ok (.lconst 0, 1) := by decide +kernel
theorem dX8_cost_64 : decode cX8_cost 64 = .ok (.lstore 7, 2) := by decide +kernel
theorem dX8_cost_66 : decode cX8_cost 66 = .ok (.iconst 0, 1) := by decide +kernel
theorem dX8_cost_67 : decode cX8_cost 67 = .ok (.istore 9, 2) := by decide +kernel
theorem dX8_cost_69 : decode cX8_cost 69 = .ok (.iload 9, 2) := by decide +kernel
theorem dX8_cost_71 : decode cX8_cost 71 = .ok (.aload_n 0, 1) := by decide +kernel
theorem dX8_cost_72 : decode cX8_cost 72 = .ok (.iload 6, 2) := by decide +kernel
theorem dX8_cost_74 : decode cX8_cost 74 = .ok (.invokevirtual 74, 3) := by decide +kernel
theorem dX8_cost_77 : decode cX8_cost 77 = .ok (.if_icmp .ge 36, 3) := by decide +kernel
theorem dX8_cost_80 : decode cX8_cost 80 = .ok (.lload 7, 2) := by decide +kernel
theorem dX8_cost_82 : decode cX8_cost 82 = .ok (.aload_n 0, 1) := by decide +kernel
theorem dX8_cost_83 : decode cX8_cost 83 = .ok (.getfield 28, 3) := by decide +kernel
theorem dX8_cost_86 : decode cX8_cost 86 = .ok (.aload_n 0, 1) := by decide +kernel
theorem dX8_cost_87 : decode cX8_cost 87 = .ok (.iload 6, 2) := by decide +kernel
theorem dX8_cost_89 : decode cX8_cost 89 = .ok (.iload 4, 2) := by decide +kernel
theorem dX8_cost_91 : decode cX8_cost 91 = .ok (.invokevirtual 78, 3) := by decide +kernel
theorem dX8_cost_94 : decode cX8_cost 94 = .ok (.iload 9, 2) := by decide +kernel
theorem dX8_cost_96 : decode cX8_cost 96 = .ok (.aload_n 0, 1) := by decide +kernel
theorem dX8_cost_97 : decode cX8_cost 97 = .ok (.getfield 64, 3) := by decide +kernel
theorem dX8_cost_100 : decode cX8_cost 100 = .ok (.imul, 1) := by decide +kernel
theorem dX8_cost_101 : decode cX8_cost 101 = .ok (.iadd, 1) := by decide +kernel
theorem dX8_cost_102 : decode cX8_cost 102 = .ok (.iaload, 1) := by decide +kernel
theorem dX8_cost_103 : decode cX8_cost 103 = .ok (.i2l, 1) := by decide +kernel
theorem dX8_cost_104 : decode cX8_cost 104 = .ok (.ladd, 1) := by decide +kernel
theorem dX8_cost_105 : decode cX8_cost 105 = .ok (.lstore 7, 2) := by decide +kernel
theorem dX8_cost_107 : decode cX8_cost 107 = .ok (.iinc 9 1, 3) := by decide +kernel
theorem dX8_cost_110 : decode cX8_cost 110 = .ok (.goto (-41), 3) := by decide +kernel
theorem dX8_cost_113 : decode cX8_cost 113 = .ok (.aload_n 0, 1) := by decide +kernel
theorem dX8_cost_114 : decode cX8_cost 114 = .ok (.iload 4, 2) := by decide +kernel
theorem dX8_cost_116 : decode cX8_cost 116 = .ok (.lload 7, 2) := by decide +kernel
theorem dX8_cost_118 : decode cX8_cost 118 = .ok (.aload_n 0, 1) := by decide +kernel
theorem dX8_cost_119 : decode cX8_cost 119 = .ok (.iload 6, 2) := by decide +kernel
theorem dX8_cost_121 : decode cX8_cost 121 = .ok (.invokevirtual 74, 3) := by decide +kernel
theorem dX8_cost_124 : decode cX8_cost 124 = .ok (.invokevirtual 103, 3) := by decide +kernel
theorem dX8_cost_127 : decode cX8_cost 127 = .ok (.iinc 6 1, 3) := by decide +kernel
theorem dX8_cost_130 : decode cX8_cost 130 = .ok (.goto (-74), 3) := by decide +kernel
theorem dX8_cost_133 : decode cX8_cost 133 = .ok (.aload_n 0, 1) := by decide +kernel
theorem dX8_cost_134 : decode cX8_cost 134 = .ok (.iload 5, 2) := by decide +kernel
theorem dX8_cost_136 : decode cX8_cost 136 = .ok (.iload 4, 2) := by decide +kernel
theorem dX8_cost_138 : decode cX8_cost 138 = .ok (.iload_n 2, 1) := by decide +kernel
theorem dX8_cost_139 : decode cX8_cost 139 = .ok (.iload_n 3, 1) := by decide +kernel
theorem dX8_cost_140 : decode cX8_cost 140 = .ok (.aload_n 0, 1) := by decide +kernel
theorem dX8_cost_141 : decode cX8_cost 141 = .ok (.iload 4, 2) := by decide +kernel
theorem dX8_cost_143 : decode cX8_cost 143 = .ok (.invokevirtual 88, 3) := by decide +kernel
theorem dX8_cost_146 : decode cX8_cost 146 = .ok (.invokevirtual 95, 3) := by decide +kernel
theorem dX8_cost_149 : decode cX8_cost 149 = .ok (.ireturn, 1) := by decide +kernel
theorem dX8_feed_0 : decode cX8_feed 0 = .ok (.iload_n 1, 1) := by decide +kernel
theorem dX8_feed_1 : decode cX8_feed 1 = .ok (.ifCond .lt 20, 3) := by decide +kernel
theorem dX8_feed_4 : decode cX8_feed 4 = .ok (.iload_n 1, 1) := by decide +kernel
theorem dX8_feed_5 : decode cX8_feed 5 = .ok (.sipush 255, 3) := by decide +kernel
theorem dX8_feed_8 : decode cX8_feed 8 = .ok (.if_icmp .gt 13, 3) := by decide +kernel
theorem dX8_feed_11 : decode cX8_feed 11 = .ok (.aload_n 0, 1) := by decide +kernel
theorem dX8_feed_12 : decode cX8_feed 12 = .ok (.getfield 116, 3) := by decide +kernel
theorem dX8_feed_15 : decode cX8_feed 15 = .ok (.sipush 3000, 3) := by decide +kernel
theorem dX8_feed_18 : decode cX8_feed 18 = .ok (.if_icmp .ne 5, 3) := by decide +kernel
theorem dX8_feed_21 : decode cX8_feed 21 = .ok (.iconst 0, 1) := by decide +kernel
theorem dX8_feed_22 : decode cX8_feed 22 = .ok (.ireturn, 1) := by decide +kernel
theorem dX8_feed_23 : decode cX8_feed 23 = .ok (.aload_n 0, 1) := by decide +kernel
theorem dX8_feed_24 : decode cX8_feed 24 = .ok (.getfield 31, 3) := by decide +kernel
theorem dX8_feed_27 : decode cX8_feed 27 = .ok (.aload_n 0, 1) := by decide +kernel
theorem dX8_feed_28 : decode cX8_feed 28 = .ok (.getfield 116, 3) := by decide +kernel
theorem dX8_feed_31 : decode cX8_feed 31 = .ok (.iload_n 1, 1) := by decide +kernel
theorem dX8_feed_32 : decode cX8_feed 32 = .ok (.iastore, 1) := by decide +kernel
theorem dX8_feed_33 : decode cX8_feed 33 = .ok (.aload_n 0, 1) := by decide +kernel
theorem dX8_feed_34 : decode cX8_feed 34 = .ok (.dup, 1) := by decide +kernel
theorem dX8_feed_35 : decode cX8_feed 35 = .ok (.getfield 116, 3) := by decide +kernel
theorem dX8_feed_38 : decode cX8_feed 38 = .ok (.iconst 1, 1) := by decide +kernel
theorem dX8_feed_39 : decode cX8_feed 39 = .ok (.iadd, 1) := by decide +kernel
theorem dX8_feed_40 : decode cX8_feed 40 = .ok (.putfield 116, 3) := by decide +kernel
theorem dX8_feed_43 : decode cX8_feed 43 = .ok (.iconst 1, 1) := by decide +kernel
theorem dX8_feed_44 : decode cX8_feed 44 = .ok (.ireturn, 1) := by decide +kernel
theorem dX8_take_0 : decode cX8_take 0 = .ok (.aload_n 0, 1) := by decide +kernel
theorem dX8_take_1 : decode cX8_take 1 = .ok (.getfield 54, 3) := by decide +kernel
theorem dX8_take_4 : decode cX8_take 4 = .ok (.bipush 8, 2) := by decide +kernel
theorem dX8_take_6 : decode cX8_take 6 = .ok (.idiv, 1) := by decide +kernel
theorem dX8_take_7 : decode cX8_take 7 = .ok (.sipush 3000, 3) := by decide +kernel
theorem dX8_take_10 : decode cX8_take 10 = .ok (.if_icmp .ge 13, 3) := by decide +kernel
theorem dX8_take_13 : decode cX8_take 13 = .ok (.aload_n 0, 1) := by decide +kernel
theorem dX8_take_14 : decode cX8_take 14 = .ok (.getfield 54, 3) := by decide +kernel
theorem dX8_take_17 : decode cX8_take 17 = .ok (.bipush 8, 2) := by decide +kernel
theorem dX8_take_19 : decode cX8_take 19 = .ok (.idiv, 1) := by decide +kernel
theorem dX8_take_20 : decode cX8_take 20 = .ok (.goto 6, 3) := by decide +kernel
theorem dX8_take_23 : decode cX8_take 23 = .ok (.sipush 3000, 3) := by decide +kernel
theorem dX8_take_26 : decode cX8_take 26 = .ok (.istore_n 1, 1) := by decide +kernel
end
section
theorem dX8_take_27 : decode cX8_take 27 = .ok (.iconst 0, 1) := by decide +kernel
theorem dX8_take_28 : decode cX8_take 28 = .ok (.istore_n 2, 1) := by decide +kernel
theorem dX8_take_29 : decode cX8_take 29 = .ok (.iload_n 2, 1) := by decide +kernel
theorem dX8_take_30 : decode cX8_take 30 = .ok (.iload_n 1, 1) := by decide +kernel
theorem dX8_take_31 : decode cX8_take 31 = .ok (.if_icmp .ge 20, 3) := by decide +kernel
theorem dX8_take_34 : decode cX8_take 34 = .ok (.aload_n 0, 1) := by decide +kernel
theorem dX8_take_35 : decode cX8_take 35 = .ok (.getfield 31, 3) := by decide +kernel
theorem dX8_take_38 : decode cX8_take 38 = .ok (.iload_n 2, 1) := by decide +kernel
theorem dX8_take_39 : decode cX8_take 39 = .ok (.aload_n 0, 1) := by decide +kernel
theorem dX8_take_40 : decode cX8_take 40 = .ok (.iload_n 2, 1) := by decide +kernel
theorem dX8_take_41 : decode cX8_take 41 = .ok (.invokevirtual 119, 3) := by decide +kernel
theorem dX8_take_44 : decode cX8_take 44 = .ok (.iastore, 1) := by decide +kernel
theorem dX8_take_45 : decode cX8_take 45 = .ok (.iinc 2 1, 3) := by decide +kernel
theorem dX8_take_48 : decode cX8_take 48 = .ok (.goto (-19), 3) := by decide +kernel
theorem dX8_take_51 : decode cX8_take 51 = .ok (.aload_n 0, 1) := by decide +kernel
theorem dX8_take_52 : decode cX8_take 52 = .ok (.iload_n 1, 1) := by decide +kernel
theorem dX8_take_53 : decode cX8_take 53 = .ok (.putfield 116, 3) := by decide +kernel
theorem dX8_take_56 : decode cX8_take 56 = .ok (.iload_n 1, 1) := by decide +kernel
theorem dX8_take_57 : decode cX8_take 57 = .ok (.ireturn, 1) := by decide +kernel
theorem dX8_nextBit_0 : decode cX8_nextBit 0 = .ok (.aload_n 0, 1) := by decide +kernel
theorem dX8_nextBit_1 : decode cX8_nextBit 1 = .ok (.getfield 122, 3) := by decide +kernel
theorem dX8_nextBit_4 : decode cX8_nextBit 4 = .ok (.bipush 8, 2) := by decide +kernel
theorem dX8_nextBit_6 : decode cX8_nextBit 6 = .ok (.aload_n 0, 1) := by decide +kernel
theorem dX8_nextBit_7 : decode cX8_nextBit 7 = .ok (.getfield 116, 3) := by decide +kernel
theorem dX8_nextBit_10 : decode cX8_nextBit 10 = .ok (.imul, 1) := by decide +kernel
theorem dX8_nextBit_11 : decode cX8_nextBit 11 = .ok (.if_icmp .lt 10, 3) := by decide +kernel
theorem dX8_nextBit_14 : decode cX8_nextBit 14 = .ok (.aload_n 0, 1) := by decide +kernel
theorem dX8_nextBit_15 : decode cX8_nextBit 15 = .ok (.iconst 1, 1) := by decide +kernel
theorem dX8_nextBit_16 : decode cX8_nextBit 16 = .ok (.putfield 124, 3) := by decide +kernel
theorem dX8_nextBit_19 : decode cX8_nextBit 19 = .ok (.iconst 1, 1) := by decide +kernel
theorem dX8_nextBit_20 : decode cX8_nextBit 20 = .ok (.ireturn, 1) := by decide +kernel
theorem dX8_nextBit_21 : decode cX8_nextBit 21 = .ok (.aload_n 0, 1) := by decide +kernel
theorem dX8_nextBit_22 : decode cX8_nextBit 22 = .ok (.getfield 31, 3) := by decide +kernel
theorem dX8_nextBit_25 : decode cX8_nextBit 25 = .ok (.aload_n 0, 1) := by decide +kernel
theorem dX8_nextBit_26 : decode cX8_nextBit 26 = .ok (.getfield 122, 3) := by decide +kernel
theorem dX8_nextBit_29 : decode cX8_nextBit 29 = .ok (.bipush 8, 2) := by decide +kernel
theorem dX8_nextBit_31 : decode cX8_nextBit 31 = .ok (.idiv, 1) := by decide +kernel
theorem dX8_nextBit_32 : decode cX8_nextBit 32 = .ok (.iaload, 1) := by decide +kernel
theorem dX8_nextBit_33 : decode cX8_nextBit 33 = .ok (.bipush 7, 2) := by decide +kernel
theorem dX8_nextBit_35 : decode cX8_nextBit 35 = .ok (.aload_n 0, 1) := by decide +kernel
theorem dX8_nextBit_36 : decode cX8_nextBit 36 = .ok (.getfield 122, 3) := by decide +kernel
theorem dX8_nextBit_39 : decode cX8_nextBit 39 = .ok (.bipush 8, 2) := by decide +kernel
theorem dX8_nextBit_41 : decode cX8_nextBit 41 = .ok (.irem, 1) := by decide +kernel
theorem dX8_nextBit_42 : decode cX8_nextBit 42 = .ok (.isub, 1) := by decide +kernel
theorem dX8_nextBit_43 : decode cX8_nextBit 43 = .ok (.ishr, 1) := by decide +kernel
theorem dX8_nextBit_44 : decode cX8_nextBit 44 = .ok (.iconst 1, 1) := by decide +kernel
theorem dX8_nextBit_45 : decode cX8_nextBit 45 = .ok (.iand, 1) := by decide +kernel
theorem dX8_nextBit_46 : decode cX8_nextBit 46 = .ok (.istore_n 1, 1) := by decide +kernel
theorem dX8_nextBit_47 : decode cX8_nextBit 47 = .ok (.aload_n 0, 1) := by decide +kernel
theorem dX8_nextBit_48 : decode cX8_nextBit 48 = .ok (.dup, 1) := by decide +kernel
theorem dX8_nextBit_49 : decode cX8_nextBit 49 = .ok (.getfield 122, 3) := by decide +kernel
theorem dX8_nextBit_52 : decode cX8_nextBit 52 = .ok (.iconst 1, 1) := by decide +kernel
theorem dX8_nextBit_53 : decode cX8_nextBit 53 = .ok (.iadd, 1) := by decide +kernel
theorem dX8_nextBit_54 : decode cX8_nextBit 54 = .ok (.putfield 122, 3) := by decide +kernel
theorem dX8_nextBit_57 : decode cX8_nextBit 57 = .ok (.iload_n 1, 1) := by decide +kernel
theorem dX8_nextBit_58 : decode cX8_nextBit 58 = .ok (.ireturn, 1) := by decide +kernel
theorem dX8_nextNumber_0 : decode cX8_nextNumber 0 = .ok (.aload_n 0, 1) := by decide +kernel
theorem dX8_nextNumber_1 : decode cX8_nextNumber 1 = .ok (.aload_n 0, 1) := by decide +kernel
theorem dX8_nextNumber_2 : decode cX8_nextNumber 2 = .ok (.getfield 122, 3) := by decide +kernel
theorem dX8_nextNumber_5 : decode cX8_nextNumber 5 = .ok (.putfield 128, 3) := by decide +kernel
theorem dX8_nextNumber_8 : decode cX8_nextNumber 8 = .ok (.iconst 0, 1) := by decide +kernel
theorem dX8_nextNumber_9 : decode cX8_nextNumber 9 = .ok (.istore_n 2, 1) := by decide +kernel
theorem dX8_nextNumber_10 : decode cX8_nextNumber 10 = .ok (.aload_n 0, 1) := by decide +kernel
theorem dX8_nextNumber_11 : decode cX8_nextNumber 11 = .ok (.invokevirtual 131, 3) := by decide +kernel
theorem dX8_nextNumber_14 : decode cX8_nextNumber 14 = .ok (.ifCond .ne 9, 3) := by decide +kernel
theorem dX8_nextNumber_17 : decode cX8_nextNumber 17 = .ok (.iinc 2 1, 3) := by decide +kernel
theorem dX8_nextNumber_20 : decode cX8_nextNumber 20 = .ok (.goto (-10), 3) := by decide +kernel
theorem dX8_nextNumber_23 : decode cX8_nextNumber 23 = .ok (.iconst 0, 1) := by decide +kernel
theorem dX8_nextNumber_24 : decode cX8_nextNumber 24 = .ok (.istore_n 3, 1) := by decide +kernel
theorem dX8_nextNumber_25 : decode cX8_nextNumber 25 = .ok (.iload_n 3, 1) := by decide +kernel
theorem dX8_nextNumber_26 : decode cX8_nextNumber 26 = .ok (.iload_n 1, 1) := by decide +kernel
theorem dX8_nextNumber_27 : decode cX8_nextNumber 27 = .ok (.if_icmp .ge 18, 3) := by decide +kernel
theorem dX8_nextNumber_30 : decode cX8_nextNumber 30 = .ok (.iconst 2, 1) := by decide +kernel
theorem dX8_nextNumber_31 : decode cX8_nextNumber 31 = .ok (.iload_n 2, 1) := by decide +kernel
theorem dX8_nextNumber_32 : decode cX8_nextNumber 32 = .ok (.imul, 1) := by decide +kernel
theorem dX8_nextNumber_33 : decode cX8_nextNumber 33 = .ok (.aload_n 0, 1) := by decide +kernel
theorem dX8_nextNumber_34 : decode cX8_nextNumber 34 = .ok (.invokevirtual 131, 3) := by decide +kernel
theorem dX8_nextNumber_37 : decode cX8_nextNumber 37 = .ok (.iadd, 1) := by decide +kernel
theorem dX8_nextNumber_38 : decode cX8_nextNumber 38 = .ok (.istore_n 2, 1) := by decide +kernel
theorem dX8_nextNumber_39 : decode cX8_nextNumber 39 = .ok (.iinc 3 1, 3) := by decide +kernel
theorem dX8_nextNumber_42 : decode cX8_nextNumber 42 = .ok (.goto (-17), 3) := by decide +kernel
theorem dX8_nextNumber_45 : decode cX8_nextNumber 45 = .ok (.iload_n 2, 1) := by decide +kernel
theorem dX8_nextNumber_46 : decode cX8_nextNumber 46 = .ok (.ireturn, 1) := by decide +kernel
theorem dX8_isGood_0 : decode cX8_isGood 0 = .ok (.aload_n 0, 1) := by decide +kernel
theorem dX8_isGood_1 : decode cX8_isGood 1 = .ok (.aload_n 0, 1) := by decide +kernel
theorem dX8_isGood_2 : decode cX8_isGood 2 = .ok (.getfield 124, 3) := by decide +kernel
theorem dX8_isGood_5 : decode cX8_isGood 5 = .ok (.ifCond .eq 13, 3) := by decide +kernel
theorem dX8_isGood_8 : decode cX8_isGood 8 = .ok (.bipush 8, 2) := by decide +kernel
theorem dX8_isGood_10 : decode cX8_isGood 10 = .ok (.aload_n 0, 1) := by decide +kernel
theorem dX8_isGood_11 : decode cX8_isGood 11 = .ok (.getfield 116, 3) := by decide +kernel
theorem dX8_isGood_14 : decode cX8_isGood 14 = .ok (.imul, 1) := by decide +kernel
theorem dX8_isGood_15 : decode cX8_isGood 15 = .ok (.goto 18, 3) := by decide +kernel
theorem dX8_isGood_18 : decode cX8_isGood 18 = .ok (.iload_n 1, 1) := by decide +kernel
theorem dX8_isGood_19 : decode cX8_isGood 19 = .ok (.ifCond .eq 10, 3) := by decide +kernel
theorem dX8_isGood_22 : decode cX8_isGood 22 = .ok (.aload_n 0, 1) := by decide +kernel
theorem dX8_isGood_23 : decode cX8_isGood 23 = .ok (.getfield 135, 3) := by decide +kernel
theorem dX8_isGood_26 : decode cX8_isGood 26 = .ok (.goto 7, 3) := by decide +kernel
theorem dX8_isGood_29 : decode cX8_isGood 29 = .ok (.aload_n 0, 1) := by decide +kernel
theorem dX8_isGood_30 : decode cX8_isGood 30 = .ok (.getfield 128, 3) := by decide +kernel
theorem dX8_isGood_33 : decode cX8_isGood 33 = .ok (.putfield 135, 3) := by decide +kernel
theorem dX8_isGood_36 : decode cX8_isGood 36 = .ok (.aload_n 0, 1) := by decide +kernel
theorem dX8_isGood_37 : decode cX8_isGood 37 = .ok (.getfield 124, 3) := by decide +kernel
theorem dX8_isGood_40 : decode cX8_isGood 40 = .ok (.ifCond .ne 11, 3) := by decide +kernel
theorem dX8_isGood_43 : decode cX8_isGood 43 = .ok (.iload_n 1, 1) := by decide +kernel
theorem dX8_isGood_44 : decode cX8_isGood 44 = .ok (.ifCond .eq 7, 3) := by decide +kernel
theorem dX8_isGood_47 : decode cX8_isGood 47 = .ok (.iconst 1, 1) := by decide +kernel
theorem dX8_isGood_48 : decode cX8_isGood 48 = .ok (.goto 4, 3) := by decide +kernel
theorem dX8_isGood_51 : decode cX8_isGood 51 = .ok (.iconst 0, 1) := by decide +kernel
theorem dX8_isGood_52 : decode cX8_isGood 52 = .ok (.ireturn, 1) := by decide +kernel
theorem dX8_hasByte_0 : decode cX8_hasByte 0 = .ok (.aload_n 0, 1) := by decide +kernel
theorem dX8_hasByte_1 : decode cX8_hasByte 1 = .ok (.aload_n 0, 1) := by decide +kernel
theorem dX8_hasByte_2 : decode cX8_hasByte 2 = .ok (.getfield 122, 3) := by decide +kernel
theorem dX8_hasByte_5 : decode cX8_hasByte 5 = .ok (.putfield 128, 3) := by decide +kernel
theorem dX8_hasByte_8 : decode cX8_hasByte 8 = .ok (.iconst 0, 1) := by decide +kernel
theorem dX8_hasByte_9 : decode cX8_hasByte 9 = .ok (.istore_n 2, 1) := by decide +kernel
theorem dX8_hasByte_10 : decode cX8_hasByte 10 = .ok (.iconst 0, 1) := by decide +kernel
theorem dX8_hasByte_11 : decode cX8_hasByte 11 = .ok (.istore_n 3, 1) := by decide +kernel
theorem dX8_hasByte_12 : decode cX8_hasByte 12 = .ok (.iload_n 3, 1) := by decide +kernel
theorem dX8_hasByte_13 : decode cX8_hasByte 13 = .ok (.bipush 8, 2) := by decide +kernel
theorem dX8_hasByte_15 : decode cX8_hasByte 15 = .ok (.if_icmp .ge 18, 3) := by decide +kernel
theorem dX8_hasByte_18 : decode cX8_hasByte 18 = .ok (.iconst 2, 1) := by decide +kernel
theorem dX8_hasByte_19 : decode cX8_hasByte 19 = .ok (.iload_n 2, 1) := by decide +kernel
theorem dX8_hasByte_20 : decode cX8_hasByte 20 = .ok (.imul, 1) := by decide +kernel
theorem dX8_hasByte_21 : decode cX8_hasByte 21 = .ok (.aload_n 0, 1) := by decide +kernel
theorem dX8_hasByte_22 : decode cX8_hasByte 22 = .ok (.invokevirtual 131, 3) := by decide +kernel
theorem dX8_hasByte_25 : decode cX8_hasByte 25 = .ok (.iadd, 1) := by decide +kernel
theorem dX8_hasByte_26 : decode cX8_hasByte 26 = .ok (.istore_n 2, 1) := by decide +kernel
theorem dX8_hasByte_27 : decode cX8_hasByte 27 = .ok (.iinc 3 1, 3) := by decide +kernel
theorem dX8_hasByte_30 : decode cX8_hasByte 30 = .ok (.goto (-18), 3) := by decide +kernel
theorem dX8_hasByte_33 : decode cX8_hasByte 33 = .ok (.aload_n 0, 1) := by decide +kernel
theorem dX8_hasByte_34 : decode cX8_hasByte 34 = .ok (.iload_n 2, 1) := by decide +kernel
theorem dX8_hasByte_35 : decode cX8_hasByte 35 = .ok (.iload_n 1, 1) := by decide +kernel
theorem dX8_hasByte_36 : decode cX8_hasByte 36 = .ok (.if_icmp .ne 7, 3) := by decide +kernel
theorem dX8_hasByte_39 : decode cX8_hasByte 39 = .ok (.iconst 1, 1) := by decide +kernel
theorem dX8_hasByte_40 : decode cX8_hasByte 40 = .ok (.goto 4, 3) := by decide +kernel
theorem dX8_hasByte_43 : decode cX8_hasByte 43 = .ok (.iconst 0, 1) := by decide +kernel
theorem dX8_hasByte_44 : decode cX8_hasByte 44 = .ok (.invokevirtual 138, 3) := by decide +kernel
theorem dX8_hasByte_47 : decode cX8_hasByte 47 = .ok (.ireturn, 1) := by decide +kernel
theorem dX8_readBlock_0 : decode cX8_readBlock 0 = .ok (.aload_n 0, 1) := by decide +kernel
theorem dX8_readBlock_1 : decode cX8_readBlock 1 = .ok (.iconst 2, 1) := by decide +kernel
theorem dX8_readBlock_2 : decode cX8_readBlock 2 = .ok (.invokevirtual 142, 3) := by decide +kernel
theorem dX8_readBlock_5 : decode cX8_readBlock 5 = .ok (.istore 5, 2) := by decide +kernel
theorem dX8_readBlock_7 : decode cX8_readBlock 7 = .ok (.aload_n 0, 1) := by decide +kernel
theorem dX8_readBlock_8 : decode cX8_readBlock 8 = .ok (.iload 5, 2) := by decide +kernel
theorem dX8_readBlock_10 : decode cX8_readBlock 10 = .ok (.iconst 4, 1) := by decide +kernel
theorem dX8_readBlock_11 : decode cX8_readBlock 11 = .ok (.if_icmp .gt 7, 3) := by decide +kernel
theorem dX8_readBlock_14 : decode cX8_readBlock 14 = .ok (.iconst 1, 1) := by decide +kernel
theorem dX8_readBlock_15 : decode cX8_readBlock 15 = .ok (.goto 4, 3) := by decide +kernel
theorem dX8_readBlock_18 : decode cX8_readBlock 18 = .ok (.iconst 0, 1) := by decide +kernel
theorem dX8_readBlock_19 : decode cX8_readBlock 19 = .ok (.invokevirtual 138, 3) := by decide +kernel
theorem dX8_readBlock_22 : decode cX8_readBlock 22 = .ok (.ifCond .ne 5, 3) := by decide +kernel
theorem dX8_readBlock_25 : decode cX8_readBlock 25 = .ok (.iconst 0, 1) := by decide +kernel
theorem dX8_readBlock_26 : decode cX8_readBlock 26 = .ok (.ireturn, 1) := by decide +kernel
theorem dX8_readBlock_27 : decode cX8_readBlock 27 = .ok (.iconst 0, 1) := by decide +kernel
theorem dX8_readBlock_28 : decode cX8_readBlock 28 = .ok (.istore 6, 2) := by decide +kernel
theorem dX8_readBlock_30 : decode cX8_readBlock 30 = .ok (.iload 5, 2) := by decide +kernel
theorem dX8_readBlock_32 : decode cX8_readBlock 32 = .ok (.iconst 4, 1) := by decide +kernel
theorem dX8_readBlock_33 : decode cX8_readBlock 33 = .ok (.if_icmp .ge 31, 3) := by decide +kernel
theorem dX8_readBlock_36 : decode cX8_readBlock 36 = .ok (.aload_n 0, 1) := by decide +kernel
theorem dX8_readBlock_37 : decode cX8_readBlock 37 = .ok (.iconst 3, 1) := by decide +kernel
theorem dX8_readBlock_38 : decode cX8_readBlock 38 = .ok (.invokevirtual 142, 3) := by decide +kernel
theorem dX8_readBlock_41 : decode cX8_readBlock 41 = .ok (.istore 6, 2) := by decide +kernel
theorem dX8_readBlock_43 : decode cX8_readBlock 43 = .ok (.aload_n 0, 1) := by decide +kernel
theorem dX8_readBlock_44 : decode cX8_readBlock 44 = .ok (.iload 6, 2) := by decide +kernel
theorem dX8_readBlock_46 : decode cX8_readBlock 46 = .ok (.bipush 15, 2) := by decide +kernel
theorem dX8_readBlock_48 : decode cX8_readBlock 48 = .ok (.if_icmp .gt 7, 3) := by decide +kernel
theorem dX8_readBlock_51 : decode cX8_readBlock 51 = .ok (.iconst 1, 1) := by decide +kernel
theorem dX8_readBlock_52 : decode cX8_readBlock 52 = .ok (.goto 4, 3) := by decide +kernel
theorem dX8_readBlock_55 : decode cX8_readBlock 55 = .ok (.iconst 0, 1) := by decide +kernel
theorem dX8_readBlock_56 : decode cX8_readBlock 56 = .ok (.invokevirtual 138, 3) := by decide +kernel
theorem dX8_readBlock_59 : decode cX8_readBlock 59 = .ok (.ifCond .ne 5, 3) := by decide +kernel
theorem dX8_readBlock_62 : decode cX8_readBlock 62 = .ok (.iconst 0, 1) := by decide +kernel
theorem dX8_readBlock_63 : decode cX8_readBlock 63 = .ok (.ireturn, 1) := by decide +kernel
theorem dX8_readBlock_64 : decode cX8_readBlock 64 = .ok (.aload_n 0, 1) := by decide +kernel
theorem dX8_readBlock_65 : decode cX8_readBlock 65 = .ok (.iload_n 3, 1) := by decide +kernel
theorem dX8_readBlock_66 : decode cX8_readBlock 66 = .ok (.invokevirtual 88, 3) := by decide +kernel
theorem dX8_readBlock_69 : decode cX8_readBlock 69 = .ok (.istore 7, 2) := by decide +kernel
theorem dX8_readBlock_71 : decode cX8_readBlock 71 = .ok (.lconst 0, 1) := by decide +kernel
theorem dX8_readBlock_72 : decode cX8_readBlock 72 = .ok (.lstore 8, 2) := by decide +kernel
theorem dX8_readBlock_74 : decode cX8_readBlock 74 = .ok (.iconst 0, 1) := by decide +kernel
theorem dX8_readBlock_75 : decode cX8_readBlock 75 = .ok (.istore 10, 2) := by decide +kernel
theorem dX8_readBlock_77 : decode cX8_readBlock 77 = .ok (.iload 10, 2) := by decide +kernel
theorem dX8_readBlock_79 : decode cX8_readBlock 79 = .ok (.iload_n 2, 1) := by decide +kernel
theorem dX8_readBlock_80 : decode cX8_readBlock 80 = .ok (.if_icmp .ge 143, 3) := by decide +kernel
theorem dX8_readBlock_83 : decode cX8_readBlock 83 = .ok (.iload_n 1, 1) := by decide +kernel
theorem dX8_readBlock_84 : decode cX8_readBlock 84 = .ok (.iload 10, 2) := by decide +kernel
theorem dX8_readBlock_86 : decode cX8_readBlock 86 = .ok (.iload 4, 2) := by decide +kernel
theorem dX8_readBlock_88 : decode cX8_readBlock 88 = .ok (.imul, 1) := by decide +kernel
theorem dX8_readBlock_89 : decode cX8_readBlock 89 = .ok (.iadd, 1) := by decide +kernel
theorem dX8_readBlock_90 : decode cX8_readBlock 90 = .ok (.istore 11, 2) := by decide +kernel
theorem dX8_readBlock_92 : decode cX8_readBlock 92 = .ok (.iload 5, 2) := by decide +kernel
theorem dX8_readBlock_94 : decode cX8_readBlock 94 = .ok (.iconst 4, 1) := by decide +kernel
theorem dX8_readBlock_95 : decode cX8_readBlock 95 = .ok (.if_icmp .ne 15, 3) := by decide +kernel
theorem dX8_readBlock_98 : decode cX8_readBlock 98 = .ok (.aload_n 0, 1) := by decide +kernel
theorem dX8_readBlock_99 : decode cX8_readBlock 99 = .ok (.getfield 37, 3) := by decide +kernel
theorem dX8_readBlock_102 : decode cX8_readBlock 102 = .ok (.iload 11, 2) := by decide +kernel
theorem dX8_readBlock_104 : decode cX8_readBlock 104 = .ok (.iload 7, 2) := by decide +kernel
theorem dX8_readBlock_106 : decode cX8_readBlock 106 = .ok (.iastore, 1) := by decide +kernel
theorem dX8_readBlock_107 : decode cX8_readBlock 107 = .ok (.goto 97, 3) := by decide +kernel
theorem dX8_readBlock_110 : decode cX8_readBlock 110 = .ok (.aload_n 0, 1) := by decide +kernel
theorem dX8_readBlock_111 : decode cX8_readBlock 111 = .ok (.iload 6, 2) := by decide +kernel
theorem dX8_readBlock_113 : decode cX8_readBlock 113 = .ok (.invokevirtual 142, 3) := by decide +kernel
theorem dX8_readBlock_116 : decode cX8_readBlock 116 = .ok (.istore 12, 2) := by decide +kernel
theorem dX8_readBlock_118 : decode cX8_readBlock 118 = .ok (.iload 12, 2) := by decide +kernel
theorem dX8_readBlock_120 : decode cX8_readBlock 120 = .ok (.iconst 2, 1) := by decide +kernel
theorem dX8_readBlock_121 : decode cX8_readBlock 121 = .ok (.irem, 1) := by decide +kernel
theorem dX8_readBlock_122 : decode cX8_readBlock 122 = .ok (.ifCond .ne 10, 3) := by decide +kernel
theorem dX8_readBlock_125 : decode cX8_readBlock 125 = .ok (.iload 12, 2) := by decide +kernel
theorem dX8_readBlock_127 : decode cX8_readBlock 127 = .ok (.iconst 2, 1) := by decide +kernel
theorem dX8_readBlock_128 : decode cX8_readBlock 128 = .ok (.idiv, 1) := by decide +kernel
theorem dX8_readBlock_129 : decode cX8_readBlock 129 = .ok (.goto 9, 3) := by decide +kernel
theorem dX8_readBlock_132 : decode cX8_readBlock 132 = .ok (.iconst (-1), 1) := by decide +kernel
theorem dX8_readBlock_133 : decode cX8_readBlock 133 = .ok (.iload 12, 2) := by decide +kernel
theorem dX8_readBlock_135 : decode cX8_readBlock 135 = .ok (.iconst 2, 1) := by decide +kernel
theorem dX8_readBlock_136 : decode cX8_readBlock 136 = .ok (.idiv, 1) := by decide +kernel
theorem dX8_readBlock_137 : decode cX8_readBlock 137 = .ok (.isub, 1) := by decide +kernel
theorem dX8_readBlock_138 : decode cX8_readBlock 138 = .ok (.istore 13, 2) := by decide +kernel
theorem dX8_readBlock_140 : decode cX8_readBlock 140 = .ok (.iload 5, 2) := by decide +kernel
theorem dX8_readBlock_142 : decode cX8_readBlock 142 = .ok (.aload_n 0, 1) := by decide +kernel
theorem dX8_readBlock_143 : decode cX8_readBlock 143 = .ok (.getfield 37, 3) := by decide +kernel
theorem dX8_readBlock_146 : decode cX8_readBlock 146 = .ok (.iload 11, 2) := by decide +kernel
theorem dX8_readBlock_148 : decode cX8_readBlock 148 = .ok (.iload 4, 2) := by decide +kernel
theorem dX8_readBlock_150 : decode cX8_readBlock 150 = .ok (.iload 7, 2) := by decide +kernel
theorem dX8_readBlock_152 : decode cX8_readBlock 152 = .ok (.invokestatic 81, 3) := by decide +kernel
theorem dX8_readBlock_155 : decode cX8_readBlock 155 = .ok (.i2l, 1) := by decide +kernel
theorem dX8_readBlock_156 : decode cX8_readBlock 156 = .ok (.iload 13, 2) := by decide +kernel
theorem dX8_readBlock_158 : decode cX8_readBlock 158 = .ok (.i2l, 1) := by decide +kernel
theorem dX8_readBlock_159 : decode cX8_readBlock 159 = .ok (.ladd, 1) := by decide +kernel
theorem dX8_readBlock_160 : decode cX8_readBlock 160 = .ok (.lstore 14, 2) := by decide +kernel
theorem dX8_readBlock_162 : decode cX8_readBlock 162 = .ok (.aload_n 0, 1) := by decide +kernel
theorem dX8_readBlock_163 : decode cX8_readBlock 163 = .ok (.lload 14, 2) := by decide +kernel
theorem dX8_readBlock_165 : decode cX8_readBlock 165 = .ok (.ldc2_w 145, 3) := by decide +kernel
theorem dX8_readBlock_168 : decode cX8_readBlock 168 = .ok (.lcmp, 1) := by decide +kernel
theorem dX8_readBlock_169 : decode cX8_readBlock 169 = .ok (.ifCond .lt 16, 3) := by decide +kernel
theorem dX8_readBlock_172 : decode cX8_readBlock 172 = .ok (.lload 14, 2) := by decide +kernel
theorem dX8_readBlock_174 : decode cX8_readBlock 174 = .ok (.ldc2_w 147, 3) := by decide +kernel
theorem dX8_readBlock_177 : decode cX8_readBlock 177 = .ok (.lcmp, 1) := by decide +kernel
theorem dX8_readBlock_178 : decode cX8_readBlock 178 = .ok (.ifCond .gt 7, 3) := by decide +kernel
theorem dX8_readBlock_181 : decode cX8_readBlock 181 = .ok (.iconst 1, 1) := by decide +kernel
theorem dX8_readBlock_182 : decode cX8_readBlock 182 = .ok (.goto 4, 3) := by decide +kernel
theorem dX8_readBlock_185 : decode cX8_readBlock 185 = .ok (.iconst 0, 1) := by decide +kernel
theorem dX8_readBlock_186 : decode cX8_readBlock 186 = .ok (.invokevirtual 138, 3) := by decide +kernel
theorem dX8_readBlock_189 : decode cX8_readBlock 189 = .ok (.ifCond .ne 5, 3) := by decide +kernel
theorem dX8_readBlock_192 : decode cX8_readBlock 192 = .ok (.iconst 0, 1) := by decide +kernel
theorem dX8_readBlock_193 : decode cX8_readBlock 193 = .ok (.ireturn, 1) := by decide +kernel
theorem dX8_readBlock_194 : decode cX8_readBlock 194 = .ok (.aload_n 0, 1) := by decide +kernel
theorem dX8_readBlock_195 : decode cX8_readBlock 195 = .ok (.getfield 37, 3) := by decide +kernel
theorem dX8_readBlock_198 : decode cX8_readBlock 198 = .ok (.iload 11, 2) := by decide +kernel
theorem dX8_readBlock_200 : decode cX8_readBlock 200 = .ok (.lload 14, 2) := by decide +kernel
theorem dX8_readBlock_202 : decode cX8_readBlock 202 = .ok (.l2i, 1) := by decide +kernel
theorem dX8_readBlock_203 : decode cX8_readBlock 203 = .ok (.iastore, 1) := by decide +kernel
theorem dX8_readBlock_204 : decode cX8_readBlock 204 = .ok (.lload 8, 2) := by decide +kernel
theorem dX8_readBlock_206 : decode cX8_readBlock 206 = .ok (.aload_n 0, 1) := by decide +kernel
theorem dX8_readBlock_207 : decode cX8_readBlock 207 = .ok (.getfield 37, 3) := by decide +kernel
theorem dX8_readBlock_210 : decode cX8_readBlock 210 = .ok (.iload 11, 2) := by decide +kernel
theorem dX8_readBlock_212 : decode cX8_readBlock 212 = .ok (.iaload, 1) := by decide +kernel
theorem dX8_readBlock_213 : decode cX8_readBlock 213 = .ok (.i2l, 1) := by decide +kernel
theorem dX8_readBlock_214 : decode cX8_readBlock 214 = .ok (.ladd, 1) := by decide +kernel
theorem dX8_readBlock_215 : decode cX8_readBlock 215 = .ok (.lstore 8, 2) := by decide +kernel
theorem dX8_readBlock_217 : decode cX8_readBlock 217 = .ok (.iinc 10 1, 3) := by decide +kernel
theorem dX8_readBlock_220 : decode cX8_readBlock 220 = .ok (.goto (-143), 3) := by decide +kernel
theorem dX8_readBlock_223 : decode cX8_readBlock 223 = .ok (.aload_n 0, 1) := by decide +kernel
theorem dX8_readBlock_224 : decode cX8_readBlock 224 = .ok (.iload_n 3, 1) := by decide +kernel
theorem dX8_readBlock_225 : decode cX8_readBlock 225 = .ok (.lload 8, 2) := by decide +kernel
theorem dX8_readBlock_227 : decode cX8_readBlock 227 = .ok (.iload_n 2, 1) := by decide +kernel
theorem dX8_readBlock_228 : decode cX8_readBlock 228 = .ok (.invokevirtual 103, 3) := by decide +kernel
theorem dX8_readBlock_231 : decode cX8_readBlock 231 = .ok (.iconst 1, 1) := by decide +kernel
theorem dX8_readBlock_232 : decode cX8_readBlock 232 = .ok (.ireturn, 1) := by decide +kernel
theorem dX8_stream_0 : decode cX8_stream 0 = .ok (.aload_n 0, 1) := by decide +kernel
theorem dX8_stream_1 : decode cX8_stream 1 = .ok (.bipush 83, 2) := by decide +kernel
theorem dX8_stream_3 : decode cX8_stream 3 = .ok (.invokevirtual 149, 3) := by decide +kernel
theorem dX8_stream_6 : decode cX8_stream 6 = .ok (.ifCond .eq 12, 3) := by decide +kernel
theorem dX8_stream_9 : decode cX8_stream 9 = .ok (.aload_n 0, 1) := by decide +kernel
theorem dX8_stream_10 : decode cX8_stream 10 = .ok (.bipush 66, 2) := by decide +kernel
theorem dX8_stream_12 : decode cX8_stream 12 = .ok (.invokevirtual 149, 3) := by decide +kernel
theorem dX8_stream_15 : decode cX8_stream 15 = .ok (.ifCond .ne 5, 3) := by decide +kernel
theorem dX8_stream_18 : decode cX8_stream 18 = .ok (.iconst (-1), 1) := by decide +kernel
theorem dX8_stream_19 : decode cX8_stream 19 = .ok (.ireturn, 1) := by decide +kernel
theorem dX8_stream_20 : decode cX8_stream 20 = .ok (.aload_n 0, 1) := by decide +kernel
theorem dX8_stream_21 : decode cX8_stream 21 = .ok (.iconst 2, 1) := by decide +kernel
theorem dX8_stream_22 : decode cX8_stream 22 = .ok (.invokevirtual 142, 3) := by decide +kernel
theorem dX8_stream_25 : decode cX8_stream 25 = .ok (.istore_n 1, 1) := by decide +kernel
theorem dX8_stream_26 : decode cX8_stream 26 = .ok (.aload_n 0, 1) := by decide +kernel
theorem dX8_stream_27 : decode cX8_stream 27 = .ok (.iload_n 1, 1) := by decide +kernel
theorem dX8_stream_28 : decode cX8_stream 28 = .ok (.iconst 1, 1) := by decide +kernel
theorem dX8_stream_29 : decode cX8_stream 29 = .ok (.if_icmp .lt 12, 3) := by decide +kernel
theorem dX8_stream_32 : decode cX8_stream 32 = .ok (.iload_n 1, 1) := by decide +kernel
theorem dX8_stream_33 : decode cX8_stream 33 = .ok (.iconst 2, 1) := by decide +kernel
theorem dX8_stream_34 : decode cX8_stream 34 = .ok (.if_icmp .gt 7, 3) := by decide +kernel
theorem dX8_stream_37 : decode cX8_stream 37 = .ok (.iconst 1, 1) := by decide +kernel
theorem dX8_stream_38 : decode cX8_stream 38 = .ok (.goto 4, 3) := by decide +kernel
theorem dX8_stream_41 : decode cX8_stream 41 = .ok (.iconst 0, 1) := by decide +kernel
theorem dX8_stream_42 : decode cX8_stream 42 = .ok (.invokevirtual 138, 3) := by decide +kernel
theorem dX8_stream_45 : decode cX8_stream 45 = .ok (.ifCond .ne 5, 3) := by decide +kernel
theorem dX8_stream_48 : decode cX8_stream 48 = .ok (.iconst (-1), 1) := by decide +kernel
theorem dX8_stream_49 : decode cX8_stream 49 = .ok (.ireturn, 1) := by decide +kernel
theorem dX8_stream_50 : decode cX8_stream 50 = .ok (.aload_n 0, 1) := by decide +kernel
theorem dX8_stream_51 : decode cX8_stream 51 = .ok (.iconst 4, 1) := by decide +kernel
theorem dX8_stream_52 : decode cX8_stream 52 = .ok (.invokevirtual 142, 3) := by decide +kernel
theorem dX8_stream_55 : decode cX8_stream 55 = .ok (.istore_n 2, 1) := by decide +kernel
theorem dX8_stream_56 : decode cX8_stream 56 = .ok (.aload_n 0, 1) := by decide +kernel
theorem dX8_stream_57 : decode cX8_stream 57 = .ok (.iload_n 2, 1) := by decide +kernel
theorem dX8_stream_58 : decode cX8_stream 58 = .ok (.iconst 1, 1) := by decide +kernel
theorem dX8_stream_59 : decode cX8_stream 59 = .ok (.if_icmp .lt 13, 3) := by decide +kernel
theorem dX8_stream_62 : decode cX8_stream 62 = .ok (.iload_n 2, 1) := by decide +kernel
theorem dX8_stream_63 : decode cX8_stream 63 = .ok (.bipush 64, 2) := by decide +kernel
theorem dX8_stream_65 : decode cX8_stream 65 = .ok (.if_icmp .gt 7, 3) := by decide +kernel
theorem dX8_stream_68 : decode cX8_stream 68 = .ok (.iconst 1, 1) := by decide +kernel
theorem dX8_stream_69 : decode cX8_stream 69 = .ok (.goto 4, 3) := by decide +kernel
theorem dX8_stream_72 : decode cX8_stream 72 = .ok (.iconst 0, 1) := by decide +kernel
theorem dX8_stream_73 : decode cX8_stream 73 = .ok (.invokevirtual 138, 3) := by decide +kernel
theorem dX8_stream_76 : decode cX8_stream 76 = .ok (.ifCond .ne 5, 3) := by decide +kernel
theorem dX8_stream_79 : decode cX8_stream 79 = .ok (.iconst (-1), 1) := by decide +kernel
theorem dX8_stream_80 : decode cX8_stream 80 = .ok (.ireturn, 1) := by decide +kernel
theorem dX8_stream_81 : decode cX8_stream 81 = .ok (.aload_n 0, 1) := by decide +kernel
theorem dX8_stream_82 : decode cX8_stream 82 = .ok (.bipush 6, 2) := by decide +kernel
theorem dX8_stream_84 : decode cX8_stream 84 = .ok (.invokevirtual 142, 3) := by decide +kernel
theorem dX8_stream_87 : decode cX8_stream 87 = .ok (.istore_n 3, 1) := by decide +kernel
theorem dX8_stream_88 : decode cX8_stream 88 = .ok (.aload_n 0, 1) := by decide +kernel
theorem dX8_stream_89 : decode cX8_stream 89 = .ok (.iload_n 3, 1) := by decide +kernel
theorem dX8_stream_90 : decode cX8_stream 90 = .ok (.sipush 400, 3) := by decide +kernel
theorem dX8_stream_93 : decode cX8_stream 93 = .ok (.if_icmp .gt 7, 3) := by decide +kernel
theorem dX8_stream_96 : decode cX8_stream 96 = .ok (.iconst 1, 1) := by decide +kernel
theorem dX8_stream_97 : decode cX8_stream 97 = .ok (.goto 4, 3) := by decide +kernel
theorem dX8_stream_100 : decode cX8_stream 100 = .ok (.iconst 0, 1) := by decide +kernel
theorem dX8_stream_101 : decode cX8_stream 101 = .ok (.invokevirtual 138, 3) := by decide +kernel
theorem dX8_stream_104 : decode cX8_stream 104 = .ok (.ifCond .ne 5, 3) := by decide +kernel
theorem dX8_stream_107 : decode cX8_stream 107 = .ok (.iconst (-1), 1) := by decide +kernel
theorem dX8_stream_108 : decode cX8_stream 108 = .ok (.ireturn, 1) := by decide +kernel
theorem dX8_stream_109 : decode cX8_stream 109 = .ok (.aload_n 0, 1) := by decide +kernel
theorem dX8_stream_110 : decode cX8_stream 110 = .ok (.invokevirtual 110, 3) := by decide +kernel
theorem dX8_stream_113 : decode cX8_stream 113 = .ok (.iconst 0, 1) := by decide +kernel
theorem dX8_stream_114 : decode cX8_stream 114 = .ok (.istore 4, 2) := by decide +kernel
theorem dX8_stream_116 : decode cX8_stream 116 = .ok (.iload 4, 2) := by decide +kernel
theorem dX8_stream_118 : decode cX8_stream 118 = .ok (.iload_n 3, 1) := by decide +kernel
theorem dX8_stream_119 : decode cX8_stream 119 = .ok (.if_icmp .ge 66, 3) := by decide +kernel
theorem dX8_stream_122 : decode cX8_stream 122 = .ok (.iconst 0, 1) := by decide +kernel
theorem dX8_stream_123 : decode cX8_stream 123 = .ok (.istore 5, 2) := by decide +kernel
theorem dX8_stream_125 : decode cX8_stream 125 = .ok (.iload 5, 2) := by decide +kernel
theorem dX8_stream_127 : decode cX8_stream 127 = .ok (.iload_n 1, 1) := by decide +kernel
theorem dX8_stream_128 : decode cX8_stream 128 = .ok (.if_icmp .ge 48, 3) := by decide +kernel
theorem dX8_stream_131 : decode cX8_stream 131 = .ok (.iload_n 3, 1) := by decide +kernel
theorem dX8_stream_132 : decode cX8_stream 132 = .ok (.iload 4, 2) := by decide +kernel
theorem dX8_stream_134 : decode cX8_stream 134 = .ok (.isub, 1) := by decide +kernel
theorem dX8_stream_135 : decode cX8_stream 135 = .ok (.iload_n 2, 1) := by decide +kernel
theorem dX8_stream_136 : decode cX8_stream 136 = .ok (.if_icmp .ge 10, 3) := by decide +kernel
theorem dX8_stream_139 : decode cX8_stream 139 = .ok (.iload_n 3, 1) := by decide +kernel
theorem dX8_stream_140 : decode cX8_stream 140 = .ok (.iload 4, 2) := by decide +kernel
theorem dX8_stream_142 : decode cX8_stream 142 = .ok (.isub, 1) := by decide +kernel
theorem dX8_stream_143 : decode cX8_stream 143 = .ok (.goto 4, 3) := by decide +kernel
theorem dX8_stream_146 : decode cX8_stream 146 = .ok (.iload_n 2, 1) := by decide +kernel
theorem dX8_stream_147 : decode cX8_stream 147 = .ok (.istore 6, 2) := by decide +kernel
theorem dX8_stream_149 : decode cX8_stream 149 = .ok (.aload_n 0, 1) := by decide +kernel
theorem dX8_stream_150 : decode cX8_stream 150 = .ok (.iload 4, 2) := by decide +kernel
theorem dX8_stream_152 : decode cX8_stream 152 = .ok (.iload_n 1, 1) := by decide +kernel
theorem dX8_stream_153 : decode cX8_stream 153 = .ok (.imul, 1) := by decide +kernel
theorem dX8_stream_154 : decode cX8_stream 154 = .ok (.iload 5, 2) := by decide +kernel
theorem dX8_stream_156 : decode cX8_stream 156 = .ok (.iadd, 1) := by decide +kernel
theorem dX8_stream_157 : decode cX8_stream 157 = .ok (.iload 6, 2) := by decide +kernel
theorem dX8_stream_159 : decode cX8_stream 159 = .ok (.iload 5, 2) := by decide +kernel
theorem dX8_stream_161 : decode cX8_stream 161 = .ok (.iload_n 1, 1) := by decide +kernel
theorem dX8_stream_162 : decode cX8_stream 162 = .ok (.invokevirtual 153, 3) := by decide +kernel
theorem dX8_stream_165 : decode cX8_stream 165 = .ok (.ifCond .ne 5, 3) := by decide +kernel
theorem dX8_stream_168 : decode cX8_stream 168 = .ok (.iconst (-1), 1) := by decide +kernel
theorem dX8_stream_169 : decode cX8_stream 169 = .ok (.ireturn, 1) := by decide +kernel
theorem dX8_stream_170 : decode cX8_stream 170 = .ok (.iinc 5 1, 3) := by decide +kernel
theorem dX8_stream_173 : decode cX8_stream 173 = .ok (.goto (-48), 3) := by decide +kernel
theorem dX8_stream_176 : decode cX8_stream 176 = .ok (.iload 4, 2) := by decide +kernel
theorem dX8_stream_178 : decode cX8_stream 178 = .ok (.iload_n 2, 1) := by decide +kernel
theorem dX8_stream_179 : decode cX8_stream 179 = .ok (.iadd, 1) := by decide +kernel
theorem dX8_stream_180 : decode cX8_stream 180 = .ok (.istore 4, 2) := by decide +kernel
theorem dX8_stream_182 : decode cX8_stream 182 = .ok (.goto (-66), 3) := by decide +kernel
theorem dX8_stream_185 : decode cX8_stream 185 = .ok (.aload_n 0, 1) := by decide +kernel
theorem dX8_stream_186 : decode cX8_stream 186 = .ok (.aload_n 0, 1) := by decide +kernel
theorem dX8_stream_187 : decode cX8_stream 187 = .ok (.iconst 2, 1) := by decide +kernel
theorem dX8_stream_188 : decode cX8_stream 188 = .ok (.invokevirtual 142, 3) := by decide +kernel
theorem dX8_stream_191 : decode cX8_stream 191 = .ok (.iconst 5, 1) := by decide +kernel
theorem dX8_stream_192 : decode cX8_stream 192 = .ok (.if_icmp .ne 7, 3) := by decide +kernel
theorem dX8_stream_195 : decode cX8_stream 195 = .ok (.iconst 1, 1) := by decide +kernel
theorem dX8_stream_196 : decode cX8_stream 196 = .ok (.goto 4, 3) := by decide +kernel
theorem dX8_stream_199 : decode cX8_stream 199 = .ok (.iconst 0, 1) := by decide +kernel
theorem dX8_stream_200 : decode cX8_stream 200 = .ok (.invokevirtual 138, 3) := by decide +kernel
theorem dX8_stream_203 : decode cX8_stream 203 = .ok (.ifCond .ne 5, 3) := by decide +kernel
theorem dX8_stream_206 : decode cX8_stream 206 = .ok (.iconst (-1), 1) := by decide +kernel
theorem dX8_stream_207 : decode cX8_stream 207 = .ok (.ireturn, 1) := by decide +kernel
theorem dX8_stream_208 : decode cX8_stream 208 = .ok (.aload_n 0, 1) := by decide +kernel
theorem dX8_stream_209 : decode cX8_stream 209 = .ok (.getfield 122, 3) := by decide +kernel
theorem dX8_stream_212 : decode cX8_stream 212 = .ok (.bipush 8, 2) := by decide +kernel
theorem dX8_stream_214 : decode cX8_stream 214 = .ok (.irem, 1) := by decide +kernel
theorem dX8_stream_215 : decode cX8_stream 215 = .ok (.ifCond .eq 32, 3) := by decide +kernel
theorem dX8_stream_218 : decode cX8_stream 218 = .ok (.aload_n 0, 1) := by decide +kernel
theorem dX8_stream_219 : decode cX8_stream 219 = .ok (.aload_n 0, 1) := by decide +kernel
theorem dX8_stream_220 : decode cX8_stream 220 = .ok (.getfield 122, 3) := by decide +kernel
theorem dX8_stream_223 : decode cX8_stream 223 = .ok (.putfield 128, 3) := by decide +kernel
theorem dX8_stream_226 : decode cX8_stream 226 = .ok (.aload_n 0, 1) := by decide +kernel
theorem dX8_stream_227 : decode cX8_stream 227 = .ok (.aload_n 0, 1) := by decide +kernel
theorem dX8_stream_228 : decode cX8_stream 228 = .ok (.invokevirtual 131, 3) := by decide +kernel
theorem dX8_stream_231 : decode cX8_stream 231 = .ok (.ifCond .ne 7, 3) := by decide +kernel
theorem dX8_stream_234 : decode cX8_stream 234 = .ok (.iconst 1, 1) := by decide +kernel
theorem dX8_stream_235 : decode cX8_stream 235 = .ok (.goto 4, 3) := by decide +kernel
theorem dX8_stream_238 : decode cX8_stream 238 = .ok (.iconst 0, 1) := by decide +kernel
theorem dX8_stream_239 : decode cX8_stream 239 = .ok (.invokevirtual 138, 3) := by decide +kernel
theorem dX8_stream_242 : decode cX8_stream 242 = .ok (.ifCond .ne (-34), 3) := by decide +kernel
theorem dX8_stream_245 : decode cX8_stream 245 = .ok (.iconst (-1), 1) := by decide +kernel
theorem dX8_stream_246 : decode cX8_stream 246 = .ok (.ireturn, 1) := by decide +kernel
theorem dX8_stream_247 : decode cX8_stream 247 = .ok (.aload_n 0, 1) := by decide +kernel
theorem dX8_stream_248 : decode cX8_stream 248 = .ok (.aload_n 0, 1) := by decide +kernel
theorem dX8_stream_249 : decode cX8_stream 249 = .ok (.getfield 122, 3) := by decide +kernel
theorem dX8_stream_252 : decode cX8_stream 252 = .ok (.putfield 128, 3) := by decide +kernel
theorem dX8_stream_255 : decode cX8_stream 255 = .ok (.aload_n 0, 1) := by decide +kernel
theorem dX8_stream_256 : decode cX8_stream 256 = .ok (.getfield 122, 3) := by decide +kernel
theorem dX8_stream_259 : decode cX8_stream 259 = .ok (.bipush 8, 2) := by decide +kernel
theorem dX8_stream_261 : decode cX8_stream 261 = .ok (.aload_n 0, 1) := by decide +kernel
theorem dX8_stream_262 : decode cX8_stream 262 = .ok (.getfield 116, 3) := by decide +kernel
theorem dX8_stream_265 : decode cX8_stream 265 = .ok (.imul, 1) := by decide +kernel
theorem dX8_stream_266 : decode cX8_stream 266 = .ok (.if_icmp .ge 13, 3) := by decide +kernel
theorem dX8_stream_269 : decode cX8_stream 269 = .ok (.aload_n 0, 1) := by decide +kernel
theorem dX8_stream_270 : decode cX8_stream 270 = .ok (.aload_n 0, 1) := by decide +kernel
theorem dX8_stream_271 : decode cX8_stream 271 = .ok (.getfield 122, 3) := by decide +kernel
theorem dX8_stream_274 : decode cX8_stream 274 = .ok (.putfield 135, 3) := by decide +kernel
theorem dX8_stream_277 : decode cX8_stream 277 = .ok (.iconst (-1), 1) := by decide +kernel
theorem dX8_stream_278 : decode cX8_stream 278 = .ok (.ireturn, 1) := by decide +kernel
theorem dX8_stream_279 : decode cX8_stream 279 = .ok (.aload_n 0, 1) := by decide +kernel
theorem dX8_stream_280 : decode cX8_stream 280 = .ok (.iload_n 1, 1) := by decide +kernel
theorem dX8_stream_281 : decode cX8_stream 281 = .ok (.putfield 157, 3) := by decide +kernel
theorem dX8_stream_284 : decode cX8_stream 284 = .ok (.iload_n 3, 1) := by decide +kernel
theorem dX8_stream_285 : decode cX8_stream 285 = .ok (.iload_n 1, 1) := by decide +kernel
theorem dX8_stream_286 : decode cX8_stream 286 = .ok (.imul, 1) := by decide +kernel
theorem dX8_stream_287 : decode cX8_stream 287 = .ok (.ireturn, 1) := by decide +kernel
theorem dX8_read_0 : decode cX8_read 0 = .ok (.aload_n 0, 1) := by decide +kernel
theorem dX8_read_1 : decode cX8_read 1 = .ok (.iconst 0, 1) := by decide +kernel
theorem dX8_read_2 : decode cX8_read 2 = .ok (.putfield 122, 3) := by decide +kernel
theorem dX8_read_5 : decode cX8_read 5 = .ok (.aload_n 0, 1) := by decide +kernel
theorem dX8_read_6 : decode cX8_read 6 = .ok (.iconst 0, 1) := by decide +kernel
theorem dX8_read_7 : decode cX8_read 7 = .ok (.putfield 124, 3) := by decide +kernel
theorem dX8_read_10 : decode cX8_read 10 = .ok (.aload_n 0, 1) := by decide +kernel
theorem dX8_read_11 : decode cX8_read 11 = .ok (.invokevirtual 160, 3) := by decide +kernel
theorem dX8_read_14 : decode cX8_read 14 = .ok (.istore_n 1, 1) := by decide +kernel
theorem dX8_read_15 : decode cX8_read 15 = .ok (.iload_n 1, 1) := by decide +kernel
theorem dX8_read_16 : decode cX8_read 16 = .ok (.ifCond .lt 33, 3) := by decide +kernel
theorem dX8_read_19 : decode cX8_read 19 = .ok (.aload_n 0, 1) := by decide +kernel
theorem dX8_read_20 : decode cX8_read 20 = .ok (.iload_n 1, 1) := by decide +kernel
theorem dX8_read_21 : decode cX8_read 21 = .ok (.putfield 163, 3) := by decide +kernel
theorem dX8_read_24 : decode cX8_read 24 = .ok (.iconst 0, 1) := by decide +kernel
theorem dX8_read_25 : decode cX8_read 25 = .ok (.istore_n 2, 1) := by decide +kernel
theorem dX8_read_26 : decode cX8_read 26 = .ok (.iload_n 2, 1) := by decide +kernel
theorem dX8_read_27 : decode cX8_read 27 = .ok (.iload_n 1, 1) := by decide +kernel
theorem dX8_read_28 : decode cX8_read 28 = .ok (.if_icmp .ge 21, 3) := by decide +kernel
theorem dX8_read_31 : decode cX8_read 31 = .ok (.aload_n 0, 1) := by decide +kernel
theorem dX8_read_32 : decode cX8_read 32 = .ok (.getfield 34, 3) := by decide +kernel
theorem dX8_read_35 : decode cX8_read 35 = .ok (.iload_n 2, 1) := by decide +kernel
theorem dX8_read_36 : decode cX8_read 36 = .ok (.aload_n 0, 1) := by decide +kernel
theorem dX8_read_37 : decode cX8_read 37 = .ok (.getfield 37, 3) := by decide +kernel
theorem dX8_read_40 : decode cX8_read 40 = .ok (.iload_n 2, 1) := by decide +kernel
theorem dX8_read_41 : decode cX8_read 41 = .ok (.iaload, 1) := by decide +kernel
theorem dX8_read_42 : decode cX8_read 42 = .ok (.iastore, 1) := by decide +kernel
theorem dX8_read_43 : decode cX8_read 43 = .ok (.iinc 2 1, 3) := by decide +kernel
theorem dX8_read_46 : decode cX8_read 46 = .ok (.goto (-20), 3) := by decide +kernel
theorem dX8_read_49 : decode cX8_read 49 = .ok (.aload_n 0, 1) := by decide +kernel
theorem dX8_read_50 : decode cX8_read 50 = .ok (.iconst 0, 1) := by decide +kernel
theorem dX8_read_51 : decode cX8_read 51 = .ok (.putfield 116, 3) := by decide +kernel
theorem dX8_read_54 : decode cX8_read 54 = .ok (.iload_n 1, 1) := by decide +kernel
theorem dX8_read_55 : decode cX8_read 55 = .ok (.ifCond .lt 7, 3) := by decide +kernel
theorem dX8_read_58 : decode cX8_read 58 = .ok (.iload_n 1, 1) := by decide +kernel
theorem dX8_read_59 : decode cX8_read 59 = .ok (.goto 9, 3) := by decide +kernel
theorem dX8_read_62 : decode cX8_read 62 = .ok (.iconst (-1), 1) := by decide +kernel
theorem dX8_read_63 : decode cX8_read 63 = .ok (.aload_n 0, 1) := by decide +kernel
theorem dX8_read_64 : decode cX8_read 64 = .ok (.getfield 135, 3) := by decide +kernel
theorem dX8_read_67 : decode cX8_read 67 = .ok (.isub, 1) := by decide +kernel
theorem dX8_read_68 : decode cX8_read 68 = .ok (.ireturn, 1) := by decide +kernel
theorem dX8_value_0 : decode cX8_value 0 = .ok (.iload_n 1, 1) := by decide +kernel
theorem dX8_value_1 : decode cX8_value 1 = .ok (.ifCond .lt 11, 3) := by decide +kernel
theorem dX8_value_4 : decode cX8_value 4 = .ok (.iload_n 1, 1) := by decide +kernel
theorem dX8_value_5 : decode cX8_value 5 = .ok (.aload_n 0, 1) := by decide +kernel
theorem dX8_value_6 : decode cX8_value 6 = .ok (.getfield 163, 3) := by decide +kernel
theorem dX8_value_9 : decode cX8_value 9 = .ok (.if_icmp .lt 8, 3) := by decide +kernel
theorem dX8_value_12 : decode cX8_value 12 = .ok (.ldc 166, 2) := by decide +kernel
theorem dX8_value_14 : decode cX8_value 14 = .ok (.goto 9, 3) := by decide +kernel
theorem dX8_value_17 : decode cX8_value 17 = .ok (.aload_n 0, 1) := by decide +kernel
theorem dX8_value_18 : decode cX8_value 18 = .ok (.getfield 34, 3) := by decide +kernel
theorem dX8_value_21 : decode cX8_value 21 = .ok (.iload_n 1, 1) := by decide +kernel
theorem dX8_value_22 : decode cX8_value 22 = .ok (.iaload, 1) := by decide +kernel
theorem dX8_value_23 : decode cX8_value 23 = .ok (.ireturn, 1) := by decide +kernel
theorem dX8_same_0 : decode cX8_same 0 = .ok (.aload_n 0, 1) := by decide +kernel
theorem dX8_same_1 : decode cX8_same 1 = .ok (.getfield 43, 3) := by decide +kernel
theorem dX8_same_4 : decode cX8_same 4 = .ok (.aload_n 0, 1) := by decide +kernel
theorem dX8_same_5 : decode cX8_same 5 = .ok (.getfield 7, 3) := by decide +kernel
theorem dX8_same_8 : decode cX8_same 8 = .ok (.idiv, 1) := by decide +kernel
theorem dX8_same_9 : decode cX8_same 9 = .ok (.aload_n 0, 1) := by decide +kernel
theorem dX8_same_10 : decode cX8_same 10 = .ok (.getfield 7, 3) := by decide +kernel
theorem dX8_same_13 : decode cX8_same 13 = .ok (.imul, 1) := by decide +kernel
theorem dX8_same_14 : decode cX8_same 14 = .ok (.istore_n 1, 1) := by decide +kernel
theorem dX8_same_15 : decode cX8_same 15 = .ok (.aload_n 0, 1) := by decide +kernel
theorem dX8_same_16 : decode cX8_same 16 = .ok (.getfield 7, 3) := by decide +kernel
theorem dX8_same_19 : decode cX8_same 19 = .ok (.aload_n 0, 1) := by decide +kernel
theorem dX8_same_20 : decode cX8_same 20 = .ok (.getfield 157, 3) := by decide +kernel
theorem dX8_same_23 : decode cX8_same 23 = .ok (.if_icmp .ne 15, 3) := by decide +kernel
theorem dX8_same_26 : decode cX8_same 26 = .ok (.iload_n 1, 1) := by decide +kernel
theorem dX8_same_27 : decode cX8_same 27 = .ok (.aload_n 0, 1) := by decide +kernel
theorem dX8_same_28 : decode cX8_same 28 = .ok (.getfield 163, 3) := by decide +kernel
theorem dX8_same_31 : decode cX8_same 31 = .ok (.if_icmp .ne 7, 3) := by decide +kernel
theorem dX8_same_34 : decode cX8_same 34 = .ok (.iconst 1, 1) := by decide +kernel
theorem dX8_same_35 : decode cX8_same 35 = .ok (.goto 4, 3) := by decide +kernel
theorem dX8_same_38 : decode cX8_same 38 = .ok (.iconst 0, 1) := by decide +kernel
theorem dX8_same_39 : decode cX8_same 39 = .ok (.istore_n 2, 1) := by decide +kernel
theorem dX8_same_40 : decode cX8_same 40 = .ok (.iconst 0, 1) := by decide +kernel
theorem dX8_same_41 : decode cX8_same 41 = .ok (.istore_n 3, 1) := by decide +kernel
theorem dX8_same_42 : decode cX8_same 42 = .ok (.iload_n 3, 1) := by decide +kernel
theorem dX8_same_43 : decode cX8_same 43 = .ok (.iload_n 1, 1) := by decide +kernel
theorem dX8_same_44 : decode cX8_same 44 = .ok (.if_icmp .ge 34, 3) := by decide +kernel
theorem dX8_same_47 : decode cX8_same 47 = .ok (.iload_n 2, 1) := by decide +kernel
theorem dX8_same_48 : decode cX8_same 48 = .ok (.ifCond .eq 30, 3) := by decide +kernel
theorem dX8_same_51 : decode cX8_same 51 = .ok (.aload_n 0, 1) := by decide +kernel
theorem dX8_same_52 : decode cX8_same 52 = .ok (.getfield 16, 3) := by decide +kernel
theorem dX8_same_55 : decode cX8_same 55 = .ok (.iload_n 3, 1) := by decide +kernel
theorem dX8_same_56 : decode cX8_same 56 = .ok (.iaload, 1) := by decide +kernel
theorem dX8_same_57 : decode cX8_same 57 = .ok (.aload_n 0, 1) := by decide +kernel
theorem dX8_same_58 : decode cX8_same 58 = .ok (.getfield 34, 3) := by decide +kernel
theorem dX8_same_61 : decode cX8_same 61 = .ok (.iload_n 3, 1) := by decide +kernel
theorem dX8_same_62 : decode cX8_same 62 = .ok (.iaload, 1) := by decide +kernel
theorem dX8_same_63 : decode cX8_same 63 = .ok (.if_icmp .ne 7, 3) := by decide +kernel
theorem dX8_same_66 : decode cX8_same 66 = .ok (.iconst 1, 1) := by decide +kernel
theorem dX8_same_67 : decode cX8_same 67 = .ok (.goto 4, 3) := by decide +kernel
theorem dX8_same_70 : decode cX8_same 70 = .ok (.iconst 0, 1) := by decide +kernel
theorem dX8_same_71 : decode cX8_same 71 = .ok (.istore_n 2, 1) := by decide +kernel
theorem dX8_same_72 : decode cX8_same 72 = .ok (.iinc 3 1, 3) := by decide +kernel
theorem dX8_same_75 : decode cX8_same 75 = .ok (.goto (-33), 3) := by decide +kernel
theorem dX8_same_78 : decode cX8_same 78 = .ok (.iload_n 2, 1) := by decide +kernel
theorem dX8_same_79 : decode cX8_same 79 = .ok (.ireturn, 1) := by decide +kernel
theorem dX8_count_0 : decode cX8_count 0 = .ok (.iload_n 1, 1) := by decide +kernel
theorem dX8_count_1 : decode cX8_count 1 = .ok (.tableswitch 72 0 5 #[39, 44, 52, 57, 62, 67], 39) := by decide +kernel
theorem dX8_count_40 : decode cX8_count 40 = .ok (.aload_n 0, 1) := by decide +kernel
theorem dX8_count_41 : decode cX8_count 41 = .ok (.getfield 43, 3) := by decide +kernel
theorem dX8_count_44 : decode cX8_count 44 = .ok (.ireturn, 1) := by decide +kernel
theorem dX8_count_45 : decode cX8_count 45 = .ok (.aload_n 0, 1) := by decide +kernel
theorem dX8_count_46 : decode cX8_count 46 = .ok (.getfield 54, 3) := by decide +kernel
theorem dX8_count_49 : decode cX8_count 49 = .ok (.bipush 8, 2) := by decide +kernel
theorem dX8_count_51 : decode cX8_count 51 = .ok (.idiv, 1) := by decide +kernel
theorem dX8_count_52 : decode cX8_count 52 = .ok (.ireturn, 1) := by decide +kernel
theorem dX8_count_53 : decode cX8_count 53 = .ok (.aload_n 0, 1) := by decide +kernel
theorem dX8_count_54 : decode cX8_count 54 = .ok (.getfield 107, 3) := by decide +kernel
theorem dX8_count_57 : decode cX8_count 57 = .ok (.ireturn, 1) := by decide +kernel
theorem dX8_count_58 : decode cX8_count 58 = .ok (.aload_n 0, 1) := by decide +kernel
theorem dX8_count_59 : decode cX8_count 59 = .ok (.getfield 116, 3) := by decide +kernel
theorem dX8_count_62 : decode cX8_count 62 = .ok (.ireturn, 1) := by decide +kernel
theorem dX8_count_63 : decode cX8_count 63 = .ok (.aload_n 0, 1) := by decide +kernel
theorem dX8_count_64 : decode cX8_count 64 = .ok (.getfield 163, 3) := by decide +kernel
theorem dX8_count_67 : decode cX8_count 67 = .ok (.ireturn, 1) := by decide +kernel
theorem dX8_count_68 : decode cX8_count 68 = .ok (.aload_n 0, 1) := by decide +kernel
theorem dX8_count_69 : decode cX8_count 69 = .ok (.getfield 157, 3) := by decide +kernel
theorem dX8_count_72 : decode cX8_count 72 = .ok (.ireturn, 1) := by decide +kernel
theorem dX8_count_73 : decode cX8_count 73 = .ok (.iconst (-1), 1) := by decide +kernel
theorem dX8_count_74 : decode cX8_count 74 = .ok (.ireturn, 1) := by decide +kernel
end
section
theorem dL_law_0 : decode cL_law 0 = .ok (.new 7, 3) := by decide +kernel
theorem dL_law_3 : decode cL_law 3 = .ok (.dup, 1) := by decide +kernel
theorem dL_law_4 : decode cL_law 4 = .ok (.invokespecial 9, 3) := by decide +kernel
theorem dL_law_7 : decode cL_law 7 = .ok (.astore_n 1, 1) := by decide +kernel
theorem dL_law_8 : decode cL_law 8 = .ok (.new 10, 3) := by decide +kernel
theorem dL_law_11 : decode cL_law 11 = .ok (.dup, 1) := by decide +kernel
theorem dL_law_12 : decode cL_law 12 = .ok (.invokespecial 12, 3) := by decide +kernel
theorem dL_law_15 : decode cL_law 15 = .ok (.astore_n 2, 1) := by decide +kernel
theorem dL_law_16 : decode cL_law 16 = .ok (.iconst 0, 1) := by decide +kernel
theorem dL_law_17 : decode cL_law 17 = .ok (.istore_n 3, 1) := by decide +kernel
theorem dL_law_18 : decode cL_law 18 = .ok (.iload_n 3, 1) := by decide +kernel
theorem dL_law_19 : decode cL_law 19 = .ok (.aload_n 0, 1) := by decide +kernel
theorem dL_law_20 : decode cL_law 20 = .ok (.arraylength, 1) := by decide +kernel
theorem dL_law_21 : decode cL_law 21 = .ok (.iconst 4, 1) := by decide +kernel
theorem dL_law_22 : decode cL_law 22 = .ok (.isub, 1) := by decide +kernel
theorem dL_law_23 : decode cL_law 23 = .ok (.if_icmp .gt 355, 3) := by decide +kernel
theorem dL_law_26 : decode cL_law 26 = .ok (.aload_n 0, 1) := by decide +kernel
theorem dL_law_27 : decode cL_law 27 = .ok (.iload_n 3, 1) := by decide +kernel
theorem dL_law_28 : decode cL_law 28 = .ok (.iaload, 1) := by decide +kernel
theorem dL_law_29 : decode cL_law 29 = .ok (.bipush 15, 2) := by decide +kernel
theorem dL_law_31 : decode cL_law 31 = .ok (.iand, 1) := by decide +kernel
theorem dL_law_32 : decode cL_law 32 = .ok (.tableswitch 340 0 11 #[64, 97, 120, 133, 156, 189, 232, 255, 268, 281, 304, 317], 64) := by decide +kernel
theorem dL_law_96 : decode cL_law 96 = .ok (.aload_n 1, 1) := by decide +kernel
theorem dL_law_97 : decode cL_law 97 = .ok (.aload_n 0, 1) := by decide +kernel
theorem dL_law_98 : decode cL_law 98 = .ok (.iload_n 3, 1) := by decide +kernel
theorem dL_law_99 : decode cL_law 99 = .ok (.iconst 1, 1) := by decide +kernel
theorem dL_law_100 : decode cL_law 100 = .ok (.iadd, 1) := by decide +kernel
theorem dL_law_101 : decode cL_law 101 = .ok (.iaload, 1) := by decide +kernel
theorem dL_law_102 : decode cL_law 102 = .ok (.aload_n 0, 1) := by decide +kernel
theorem dL_law_103 : decode cL_law 103 = .ok (.iload_n 3, 1) := by decide +kernel
theorem dL_law_104 : decode cL_law 104 = .ok (.iconst 2, 1) := by decide +kernel
theorem dL_law_105 : decode cL_law 105 = .ok (.iadd, 1) := by decide +kernel
theorem dL_law_106 : decode cL_law 106 = .ok (.iaload, 1) := by decide +kernel
theorem dL_law_107 : decode cL_law 107 = .ok (.invokevirtual 13, 3) := by decide +kernel
theorem dL_law_110 : decode cL_law 110 = .ok (.aload_n 2, 1) := by decide +kernel
theorem dL_law_111 : decode cL_law 111 = .ok (.aload_n 0, 1) := by decide +kernel
theorem dL_law_112 : decode cL_law 112 = .ok (.iload_n 3, 1) := by decide +kernel
theorem dL_law_113 : decode cL_law 113 = .ok (.iconst 1, 1) := by decide +kernel
theorem dL_law_114 : decode cL_law 114 = .ok (.iadd, 1) := by decide +kernel
theorem dL_law_115 : decode cL_law 115 = .ok (.iaload, 1) := by decide +kernel
theorem dL_law_116 : decode cL_law 116 = .ok (.aload_n 0, 1) := by decide +kernel
theorem dL_law_117 : decode cL_law 117 = .ok (.iload_n 3, 1) := by decide +kernel
theorem dL_law_118 : decode cL_law 118 = .ok (.iconst 2, 1) := by decide +kernel
theorem dL_law_119 : decode cL_law 119 = .ok (.iadd, 1) := by decide +kernel
theorem dL_law_120 : decode cL_law 120 = .ok (.iaload, 1) := by decide +kernel
theorem dL_law_121 : decode cL_law 121 = .ok (.invokevirtual 17, 3) := by decide +kernel
theorem dL_law_124 : decode cL_law 124 = .ok (.if_icmp .eq 248, 3) := by decide +kernel
theorem dL_law_127 : decode cL_law 127 = .ok (.iconst 0, 1) := by decide +kernel
theorem dL_law_128 : decode cL_law 128 = .ok (.ireturn, 1) := by decide +kernel
theorem dL_law_129 : decode cL_law 129 = .ok (.aload_n 1, 1) := by decide +kernel
theorem dL_law_130 : decode cL_law 130 = .ok (.aload_n 0, 1) := by decide +kernel
theorem dL_law_131 : decode cL_law 131 = .ok (.iload_n 3, 1) := by decide +kernel
theorem dL_law_132 : decode cL_law 132 = .ok (.iconst 1, 1) := by decide +kernel
theorem dL_law_133 : decode cL_law 133 = .ok (.iadd, 1) := by decide +kernel
theorem dL_law_134 : decode cL_law 134 = .ok (.iaload, 1) := by decide +kernel
theorem dL_law_135 : decode cL_law 135 = .ok (.invokevirtual 18, 3) := by decide +kernel
theorem dL_law_138 : decode cL_law 138 = .ok (.aload_n 2, 1) := by decide +kernel
theorem dL_law_139 : decode cL_law 139 = .ok (.aload_n 0, 1) := by decide +kernel
theorem dL_law_140 : decode cL_law 140 = .ok (.iload_n 3, 1) := by decide +kernel
theorem dL_law_141 : decode cL_law 141 = .ok (.iconst 1, 1) := by decide +kernel
theorem dL_law_142 : decode cL_law 142 = .ok (.iadd, 1) := by decide +kernel
theorem dL_law_143 : decode cL_law 143 = .ok (.iaload, 1) := by decide +kernel
theorem dL_law_144 : decode cL_law 144 = .ok (.invokevirtual 22, 3) := by decide +kernel
theorem dL_law_147 : decode cL_law 147 = .ok (.if_icmp .eq 225, 3) := by decide +kernel
theorem dL_law_150 : decode cL_law 150 = .ok (.iconst 0, 1) := by decide +kernel
theorem dL_law_151 : decode cL_law 151 = .ok (.ireturn, 1) := by decide +kernel
theorem dL_law_152 : decode cL_law 152 = .ok (.aload_n 1, 1) := by decide +kernel
theorem dL_law_153 : decode cL_law 153 = .ok (.invokevirtual 23, 3) := by decide +kernel
theorem dL_law_156 : decode cL_law 156 = .ok (.aload_n 2, 1) := by decide +kernel
theorem dL_law_157 : decode cL_law 157 = .ok (.invokevirtual 27, 3) := by decide +kernel
theorem dL_law_160 : decode cL_law 160 = .ok (.if_icmp .eq 212, 3) := by decide +kernel
theorem dL_law_163 : decode cL_law 163 = .ok (.iconst 0, 1) := by decide +kernel
theorem dL_law_164 : decode cL_law 164 = .ok (.ireturn, 1) := by decide +kernel
theorem dL_law_165 : decode cL_law 165 = .ok (.aload_n 1, 1) := by decide +kernel
theorem dL_law_166 : decode cL_law 166 = .ok (.aload_n 0, 1) := by decide +kernel
theorem dL_law_167 : decode cL_law 167 = .ok (.iload_n 3, 1) := by decide +kernel
theorem dL_law_168 : decode cL_law 168 = .ok (.iconst 1, 1) := by decide +kernel
theorem dL_law_169 : decode cL_law 169 = .ok (.iadd, 1) := by decide +kernel
theorem dL_law_170 : decode cL_law 170 = .ok (.iaload, 1) := by decide +kernel
theorem dL_law_171 : decode cL_law 171 = .ok (.invokevirtual 28, 3) := by decide +kernel
theorem dL_law_174 : decode cL_law 174 = .ok (.aload_n 2, 1) := by decide +kernel
theorem dL_law_175 : decode cL_law 175 = .ok (.aload_n 0, 1) := by decide +kernel
theorem dL_law_176 : decode cL_law 176 = .ok (.iload_n 3, 1) := by decide +kernel
theorem dL_law_177 : decode cL_law 177 = .ok (.iconst 1, 1) := by decide +kernel
theorem dL_law_178 : decode cL_law 178 = .ok (.iadd, 1) := by decide +kernel
theorem dL_law_179 : decode cL_law 179 = .ok (.iaload, 1) := by decide +kernel
theorem dL_law_180 : decode cL_law 180 = .ok (.invokevirtual 31, 3) := by decide +kernel
theorem dL_law_183 : decode cL_law 183 = .ok (.if_icmp .eq 189, 3) := by decide +kernel
theorem dL_law_186 : decode cL_law 186 = .ok (.iconst 0, 1) := by decide +kernel
theorem dL_law_187 : decode cL_law 187 = .ok (.ireturn, 1) := by decide +kernel
theorem dL_law_188 : decode cL_law 188 = .ok (.aload_n 1, 1) := by decide +kernel
theorem dL_law_189 : decode cL_law 189 = .ok (.aload_n 0, 1) := by decide +kernel
theorem dL_law_190 : decode cL_law 190 = .ok (.iload_n 3, 1) := by decide +kernel
theorem dL_law_191 : decode cL_law 191 = .ok (.iconst 1, 1) := by decide +kernel
theorem dL_law_192 : decode cL_law 192 = .ok (.iadd, 1) := by decide +kernel
theorem dL_law_193 : decode cL_law 193 = .ok (.iaload, 1) := by decide +kernel
theorem dL_law_194 : decode cL_law 194 = .ok (.aload_n 0, 1) := by decide +kernel
theorem dL_law_195 : decode cL_law 195 = .ok (.iload_n 3, 1) := by decide +kernel
theorem dL_law_196 : decode cL_law 196 = .ok (.iconst 2, 1) := by decide +kernel
theorem dL_law_197 : decode cL_law 197 = .ok (.iadd, 1) := by decide +kernel
theorem dL_law_198 : decode cL_law 198 = .ok (.iaload, 1) := by decide +kernel
theorem dL_law_199 : decode cL_law 199 = .ok (.invokevirtual 32, 3) := by decide +kernel
theorem dL_law_202 : decode cL_law 202 = .ok (.aload_n 2, 1) := by decide +kernel
theorem dL_law_203 : decode cL_law 203 = .ok (.aload_n 0, 1) := by decide +kernel
theorem dL_law_204 : decode cL_law 204 = .ok (.iload_n 3, 1) := by decide +kernel
theorem dL_law_205 : decode cL_law 205 = .ok (.iconst 1, 1) := by decide +kernel
theorem dL_law_206 : decode cL_law 206 = .ok (.iadd, 1) := by decide +kernel
theorem dL_law_207 : decode cL_law 207 = .ok (.iaload, 1) := by decide +kernel
theorem dL_law_208 : decode cL_law 208 = .ok (.aload_n 0, 1) := by decide +kernel
theorem dL_law_209 : decode cL_law 209 = .ok (.iload_n 3, 1) := by decide +kernel
theorem dL_law_210 : decode cL_law 210 = .ok (.iconst 2, 1) := by decide +kernel
theorem dL_law_211 : decode cL_law 211 = .ok (.iadd, 1) := by decide +kernel
theorem dL_law_212 : decode cL_law 212 = .ok (.iaload, 1) := by decide +kernel
theorem dL_law_213 : decode cL_law 213 = .ok (.invokevirtual 36, 3) := by decide +kernel
theorem dL_law_216 : decode cL_law 216 = .ok (.if_icmp .eq 156, 3) := by decide +kernel
theorem dL_law_219 : decode cL_law 219 = .ok (.iconst 0, 1) := by decide +kernel
theorem dL_law_220 : decode cL_law 220 = .ok (.ireturn, 1) := by decide +kernel
theorem dL_law_221 : decode cL_law 221 = .ok (.aload_n 1, 1) := by decide +kernel
theorem dL_law_222 : decode cL_law 222 = .ok (.aload_n 0, 1) := by decide +kernel
theorem dL_law_223 : decode cL_law 223 = .ok (.iload_n 3, 1) := by decide +kernel
theorem dL_law_224 : decode cL_law 224 = .ok (.iconst 1, 1) := by decide +kernel
theorem dL_law_225 : decode cL_law 225 = .ok (.iadd, 1) := by decide +kernel
theorem dL_law_226 : decode cL_law 226 = .ok (.iaload, 1) := by decide +kernel
theorem dL_law_227 : decode cL_law 227 = .ok (.aload_n 0, 1) := by decide +kernel
theorem dL_law_228 : decode cL_law 228 = .ok (.iload_n 3, 1) := by decide +kernel
theorem dL_law_229 : decode cL_law 229 = .ok (.iconst 2, 1) := by decide +kernel
theorem dL_law_230 : decode cL_law 230 = .ok (.iadd, 1) := by decide +kernel
theorem dL_law_231 : decode cL_law 231 = .ok (.iaload, 1) := by decide +kernel
theorem dL_law_232 : decode cL_law 232 = .ok (.aload_n 0, 1) := by decide +kernel
theorem dL_law_233 : decode cL_law 233 = .ok (.iload_n 3, 1) := by decide +kernel
theorem dL_law_234 : decode cL_law 234 = .ok (.iconst 3, 1) := by decide +kernel
theorem dL_law_235 : decode cL_law 235 = .ok (.iadd, 1) := by decide +kernel
theorem dL_law_236 : decode cL_law 236 = .ok (.iaload, 1) := by decide +kernel
theorem dL_law_237 : decode cL_law 237 = .ok (.invokevirtual 37, 3) := by decide +kernel
theorem dL_law_240 : decode cL_law 240 = .ok (.aload_n 2, 1) := by decide +kernel
theorem dL_law_241 : decode cL_law 241 = .ok (.aload_n 0, 1) := by decide +kernel
theorem dL_law_242 : decode cL_law 242 = .ok (.iload_n 3, 1) := by decide +kernel
theorem dL_law_243 : decode cL_law 243 = .ok (.iconst 1, 1) := by decide +kernel
theorem dL_law_244 : decode cL_law 244 = .ok (.iadd, 1) := by decide +kernel
theorem dL_law_245 : decode cL_law 245 = .ok (.iaload, 1) := by decide +kernel
theorem dL_law_246 : decode cL_law 246 = .ok (.aload_n 0, 1) := by decide +kernel
theorem dL_law_247 : decode cL_law 247 = .ok (.iload_n 3, 1) := by decide +kernel
theorem dL_law_248 : decode cL_law 248 = .ok (.iconst 2, 1) := by decide +kernel
theorem dL_law_249 : decode cL_law 249 = .ok (.iadd, 1) := by decide +kernel
theorem dL_law_250 : decode cL_law 250 = .ok (.iaload, 1) := by decide +kernel
theorem dL_law_251 : decode cL_law 251 = .ok (.aload_n 0, 1) := by decide +kernel
theorem dL_law_252 : decode cL_law 252 = .ok (.iload_n 3, 1) := by decide +kernel
theorem dL_law_253 : decode cL_law 253 = .ok (.iconst 3, 1) := by decide +kernel
theorem dL_law_254 : decode cL_law 254 = .ok (.iadd, 1) := by decide +kernel
theorem dL_law_255 : decode cL_law 255 = .ok (.iaload, 1) := by decide +kernel
theorem dL_law_256 : decode cL_law 256 = .ok (.invokevirtual 41, 3) := by decide +kernel
theorem dL_law_259 : decode cL_law 259 = .ok (.if_icmp .eq 113, 3) := by decide +kernel
theorem dL_law_262 : decode cL_law 262 = .ok (.iconst 0, 1) := by decide +kernel
theorem dL_law_263 : decode cL_law 263 = .ok (.ireturn, 1) := by decide +kernel
theorem dL_law_264 : decode cL_law 264 = .ok (.aload_n 1, 1) := by decide +kernel
theorem dL_law_265 : decode cL_law 265 = .ok (.aload_n 0, 1) := by decide +kernel
theorem dL_law_266 : decode cL_law 266 = .ok (.iload_n 3, 1) := by decide +kernel
theorem dL_law_267 : decode cL_law 267 = .ok (.iconst 1, 1) := by decide +kernel
theorem dL_law_268 : decode cL_law 268 = .ok (.iadd, 1) := by decide +kernel
theorem dL_law_269 : decode cL_law 269 = .ok (.iaload, 1) := by decide +kernel
theorem dL_law_270 : decode cL_law 270 = .ok (.invokevirtual 42, 3) := by decide +kernel
theorem dL_law_273 : decode cL_law 273 = .ok (.aload_n 2, 1) := by decide +kernel
theorem dL_law_274 : decode cL_law 274 = .ok (.aload_n 0, 1) := by decide +kernel
theorem dL_law_275 : decode cL_law 275 = .ok (.iload_n 3, 1) := by decide +kernel
theorem dL_law_276 : decode cL_law 276 = .ok (.iconst 1, 1) := by decide +kernel
theorem dL_law_277 : decode cL_law 277 = .ok (.iadd, 1) := by decide +kernel
theorem dL_law_278 : decode cL_law 278 = .ok (.iaload, 1) := by decide +kernel
theorem dL_law_279 : decode cL_law 279 = .ok (.invokevirtual 46, 3) := by decide +kernel
theorem dL_law_282 : decode cL_law 282 = .ok (.if_icmp .eq 90, 3) := by decide +kernel
theorem dL_law_285 : decode cL_law 285 = .ok (.iconst 0, 1) := by decide +kernel
theorem dL_law_286 : decode cL_law 286 = .ok (.ireturn, 1) := by decide +kernel
theorem dL_law_287 : decode cL_law 287 = .ok (.aload_n 1, 1) := by decide +kernel
theorem dL_law_288 : decode cL_law 288 = .ok (.invokevirtual 47, 3) := by decide +kernel
theorem dL_law_291 : decode cL_law 291 = .ok (.aload_n 2, 1) := by decide +kernel
theorem dL_law_292 : decode cL_law 292 = .ok (.invokevirtual 50, 3) := by decide +kernel
theorem dL_law_295 : decode cL_law 295 = .ok (.if_icmp .eq 77, 3) := by decide +kernel
theorem dL_law_298 : decode cL_law 298 = .ok (.iconst 0, 1) := by decide +kernel
theorem dL_law_299 : decode cL_law 299 = .ok (.ireturn, 1) := by decide +kernel
theorem dL_law_300 : decode cL_law 300 = .ok (.aload_n 1, 1) := by decide +kernel
theorem dL_law_301 : decode cL_law 301 = .ok (.invokevirtual 51, 3) := by decide +kernel
theorem dL_law_304 : decode cL_law 304 = .ok (.aload_n 2, 1) := by decide +kernel
theorem dL_law_305 : decode cL_law 305 = .ok (.invokevirtual 54, 3) := by decide +kernel
theorem dL_law_308 : decode cL_law 308 = .ok (.if_icmp .eq 64, 3) := by decide +kernel
theorem dL_law_311 : decode cL_law 311 = .ok (.iconst 0, 1) := by decide +kernel
theorem dL_law_312 : decode cL_law 312 = .ok (.ireturn, 1) := by decide +kernel
theorem dL_law_313 : decode cL_law 313 = .ok (.aload_n 1, 1) := by decide +kernel
theorem dL_law_314 : decode cL_law 314 = .ok (.aload_n 0, 1) := by decide +kernel
theorem dL_law_315 : decode cL_law 315 = .ok (.iload_n 3, 1) := by decide +kernel
theorem dL_law_316 : decode cL_law 316 = .ok (.iconst 1, 1) := by decide +kernel
theorem dL_law_317 : decode cL_law 317 = .ok (.iadd, 1) := by decide +kernel
theorem dL_law_318 : decode cL_law 318 = .ok (.iaload, 1) := by decide +kernel
theorem dL_law_319 : decode cL_law 319 = .ok (.invokevirtual 55, 3) := by decide +kernel
theorem dL_law_322 : decode cL_law 322 = .ok (.aload_n 2, 1) := by decide +kernel
theorem dL_law_323 : decode cL_law 323 = .ok (.aload_n 0, 1) := by decide +kernel
theorem dL_law_324 : decode cL_law 324 = .ok (.iload_n 3, 1) := by decide +kernel
theorem dL_law_325 : decode cL_law 325 = .ok (.iconst 1, 1) := by decide +kernel
theorem dL_law_326 : decode cL_law 326 = .ok (.iadd, 1) := by decide +kernel
theorem dL_law_327 : decode cL_law 327 = .ok (.iaload, 1) := by decide +kernel
theorem dL_law_328 : decode cL_law 328 = .ok (.invokevirtual 58, 3) := by decide +kernel
theorem dL_law_331 : decode cL_law 331 = .ok (.if_icmp .eq 41, 3) := by decide +kernel
theorem dL_law_334 : decode cL_law 334 = .ok (.iconst 0, 1) := by decide +kernel
theorem dL_law_335 : decode cL_law 335 = .ok (.ireturn, 1) := by decide +kernel
theorem dL_law_336 : decode cL_law 336 = .ok (.aload_n 1, 1) := by decide +kernel
theorem dL_law_337 : decode cL_law 337 = .ok (.invokevirtual 59, 3) := by decide +kernel
theorem dL_law_340 : decode cL_law 340 = .ok (.aload_n 2, 1) := by decide +kernel
theorem dL_law_341 : decode cL_law 341 = .ok (.invokevirtual 63, 3) := by decide +kernel
theorem dL_law_344 : decode cL_law 344 = .ok (.if_icmp .eq 28, 3) := by decide +kernel
theorem dL_law_347 : decode cL_law 347 = .ok (.iconst 0, 1) := by decide +kernel
theorem dL_law_348 : decode cL_law 348 = .ok (.ireturn, 1) := by decide +kernel
theorem dL_law_349 : decode cL_law 349 = .ok (.aload_n 1, 1) := by decide +kernel
theorem dL_law_350 : decode cL_law 350 = .ok (.aload_n 0, 1) := by decide +kernel
theorem dL_law_351 : decode cL_law 351 = .ok (.iload_n 3, 1) := by decide +kernel
theorem dL_law_352 : decode cL_law 352 = .ok (.iconst 1, 1) := by decide +kernel
theorem dL_law_353 : decode cL_law 353 = .ok (.iadd, 1) := by decide +kernel
theorem dL_law_354 : decode cL_law 354 = .ok (.iaload, 1) := by decide +kernel
theorem dL_law_355 : decode cL_law 355 = .ok (.invokevirtual 64, 3) := by decide +kernel
theorem dL_law_358 : decode cL_law 358 = .ok (.aload_n 2, 1) := by decide +kernel
theorem dL_law_359 : decode cL_law 359 = .ok (.aload_n 0, 1) := by decide +kernel
theorem dL_law_360 : decode cL_law 360 = .ok (.iload_n 3, 1) := by decide +kernel
theorem dL_law_361 : decode cL_law 361 = .ok (.iconst 1, 1) := by decide +kernel
theorem dL_law_362 : decode cL_law 362 = .ok (.iadd, 1) := by decide +kernel
theorem dL_law_363 : decode cL_law 363 = .ok (.iaload, 1) := by decide +kernel
theorem dL_law_364 : decode cL_law 364 = .ok (.invokevirtual 67, 3) := by decide +kernel
theorem dL_law_367 : decode cL_law 367 = .ok (.if_icmp .eq 5, 3) := by decide +kernel
theorem dL_law_370 : decode cL_law 370 = .ok (.iconst 0, 1) := by decide +kernel
theorem dL_law_371 : decode cL_law 371 = .ok (.ireturn, 1) := by decide +kernel
theorem dL_law_372 : decode cL_law 372 = .ok (.iinc 3 4, 3) := by decide +kernel
theorem dL_law_375 : decode cL_law 375 = .ok (.goto (-357), 3) := by decide +kernel
theorem dL_law_378 : decode cL_law 378 = .ok (.iconst 1, 1) := by decide +kernel
theorem dL_law_379 : decode cL_law 379 = .ok (.ireturn, 1) := by decide +kernel
end
section
/-! Ints as numbers: iI z is the int of the number z, lI of the long; aI f an array's contents -/
def iI (z : Int) : Int32 := Int32.ofInt z
def lI (z : Int) : Int64 := Int64.ofInt z
def aI (f : Int → Int) : Nat → Int32 := fun j => iI (f (j : Int))
def upI (f : Int → Int) (i x : Int) : Int → Int := fun j => if j = i then x else f j
def p2 (k : Int) : Int := 2 ^ k.toNat
def w8 (z : Int) : Int := (z + 128) % 256 - 128
def cmpI (a b : Int) : Int := if b < a then 1 else if a = b then 0 else -1
theorem iI_toInt {z : Int} (h : -2147483648 ≤ z ∧ z < 2147483648) : (iI z).toInt = z := Int32.toInt_ofInt_of_le (by omega) (by omega)
theorem lI_toInt {z : Int} (h : -9223372036854775808 ≤ z ∧ z < 9223372036854775808) : (lI z).toInt = z := Int64.toInt_ofInt_of_le (by omega) (by omega)
theorem iI_of (x : Int32) : x = iI x.toInt := (Int32.ofInt_toInt x).symm
theorem iI_rng (x : Int32) : -2147483648 ≤ x.toInt ∧ x.toInt < 2147483648 := by
  have h1 := Int32.le_toInt x
  have h2 := Int32.toInt_lt x
  omega
theorem iI_lt {a b : Int} (ha : -2147483648 ≤ a ∧ a < 2147483648) (hb : -2147483648 ≤ b ∧ b < 2147483648) : iI a < iI b ↔ a < b := by
  rw [Int32.lt_iff_toInt_lt, iI_toInt ha, iI_toInt hb]
theorem iI_le {a b : Int} (ha : -2147483648 ≤ a ∧ a < 2147483648) (hb : -2147483648 ≤ b ∧ b < 2147483648) : iI a ≤ iI b ↔ a ≤ b := by
  rw [Int32.le_iff_toInt_le, iI_toInt ha, iI_toInt hb]
theorem iI_eq {a b : Int} (ha : -2147483648 ≤ a ∧ a < 2147483648) (hb : -2147483648 ≤ b ∧ b < 2147483648) : iI a = iI b ↔ a = b := by
  rw [← Int32.toInt_inj, iI_toInt ha, iI_toInt hb]
theorem iI_0 : (0 : Int32) = iI 0 := by decide
theorem iI_add (a b : Int) : iI a + iI b = iI (a + b) := (Int32.ofInt_add a b).symm
theorem iI_sub (a b : Int) : iI a - iI b = iI (a - b) := (Int32.ofInt_sub a b).symm
theorem iI_mul (a b : Int) : iI a * iI b = iI (a * b) := (Int32.ofInt_mul a b).symm
theorem iI_neg (a : Int) : -iI a = iI (-a) := (Int32.ofInt_neg a).symm
theorem lI_add (a b : Int) : lI a + lI b = lI (a + b) := (Int64.ofInt_add a b).symm
theorem lI_sub (a b : Int) : lI a - lI b = lI (a - b) := (Int64.ofInt_sub a b).symm
theorem lI_mul (a b : Int) : lI a * lI b = lI (a * b) := (Int64.ofInt_mul a b).symm
theorem iI_nI {a : Int} (h : 0 ≤ a) : iI a = nI a.toNat := by
  have e : a = (a.toNat : Int) := by omega
  unfold iI nI
  rw [← Int32.ofInt_eq_ofNat, ← e]
theorem nI_iI (n : Nat) : nI n = iI (n : Int) := by
  unfold iI nI
  rw [Int32.ofInt_eq_ofNat]
theorem iI_clamp {i : Int} (h : 0 ≤ i ∧ i < 2147483648) : (((iI i).toNatClampNeg : Nat) : Int) = i := by
  show (((iI i).toInt.toNat : Nat) : Int) = i
  rw [iI_toInt (by omega)]
  omega
theorem iI_in {i : Int} {n : Nat} (h : 0 ≤ i ∧ i < (n : Int)) (hn : (n : Int) < 2147483648) : vp_in (iI i) n := by
  rw [vp_in_iff, iI_toInt (by omega)]
  omega
theorem aI_rd {f : Int → Int} {i : Int} (h : 0 ≤ i ∧ i < 2147483648) : aI f (iI i).toNatClampNeg = iI (f i) := by
  unfold aI
  rw [iI_clamp h]
theorem aI_up {f : Int → Int} {i x : Int} (h : 0 ≤ i ∧ i < 2147483648) : upd (aI f) (iI i).toNatClampNeg (iI x) = aI (upI f i x) := by
  have e := iI_clamp h
  funext j
  unfold upd aI upI
  by_cases hj : j = (iI i).toNatClampNeg
  · rw [if_pos hj, if_pos (by omega)]
  · rw [if_neg hj, if_neg (by omega)]
theorem upI_s {f : Int → Int} {i x : Int} : upI f i x i = x := by simp [upI]
theorem upI_n {f : Int → Int} {i j x : Int} (h : j ≠ i) : upI f i x j = f j := by simp [upI, h]
theorem iI_b8 (z : Int) : (iI z).toInt8.toInt32 = iI (w8 z) := by
  have h1 : (iI z).toInt8 = Int8.ofInt z := Int32.toInt8_ofInt
  rw [h1, ← Int32.ofInt_int8ToInt, Int8.toInt_ofInt]
  show Int32.ofInt _ = Int32.ofInt _
  congr 1
  show Int.bmod z 256 = _
  unfold w8 Int.bmod
  dsimp only
  split <;> omega
theorem w8_rng (z : Int) : -128 ≤ w8 z ∧ w8 z < 128 := by unfold w8; omega
theorem w8_id {z : Int} (h : -128 ≤ z ∧ z < 128) : w8 z = z := by unfold w8; omega
theorem w8_255 (z : Int) : w8 z % 256 = z % 256 := by unfold w8; omega
theorem iI_nar8 (z : Int) : vp_nar .byte (iI z) = iI (w8 z) := by rw [vp_nar_byte, iI_b8]
theorem iI_sft : ∀ n, n < 32 → ((nI n &&& 31).toBitVec.smod 32).toNat = n := by decide
theorem iI_shr {a k : Int} (ha : -2147483648 ≤ a ∧ a < 2147483648) (hk : 0 ≤ k ∧ k < 32) : iI a >>> (iI k &&& 31) = iI (a / p2 k) := by
  have h1 := pk_shr (iI a) (iI k &&& 31) k.toNat (by rw [iI_nI hk.1]; exact iI_sft _ (by omega))
  rw [iI_of (iI a >>> (iI k &&& 31)), h1, iI_toInt ha, Int.shiftRight_eq_div_pow]
  rfl
theorem p2_pos (k : Int) : 0 < p2 k := Int.pow_pos (by decide)
theorem p2_0 : p2 0 = 1 := rfl
theorem p2_s {k : Int} (h : 0 ≤ k) : p2 (k + 1) = 2 * p2 k := by
  unfold p2
  have e : (k + 1).toNat = k.toNat + 1 := by omega
  rw [e, Int.pow_succ, Int.mul_comm]
theorem iI_shl {a k : Int} (ha : 0 ≤ a) (hk : 0 ≤ k ∧ k < 32) (h : a * p2 k < 4294967296) : iI a <<< (iI k &&& 31) = iI (a * p2 k) := by
  have e : ((a.toNat * 2 ^ k.toNat : Nat) : Int) = a * p2 k := by
    unfold p2
    rw [Int.natCast_mul, Int.toNat_of_nonneg ha, Int.natCast_pow]
    rfl
  have h1 := pk_shlN (n := a.toNat) (iI k &&& 31) k.toNat (by rw [iI_nI hk.1]; exact iI_sft _ (by omega)) (by omega)
  rw [iI_nI ha, h1, nI_iI, e]
theorem iI_bv (a : Int) : (((iI a).toBitVec.toNat : Nat) : Int) = a % 4294967296 := by
  show (((BitVec.ofInt 32 a).toNat : Nat) : Int) = _
  rw [BitVec.toNat_ofInt]
  omega
theorem iI_and1 (a : Int) : iI a &&& iI 1 = iI (a % 2) := by
  rw [pk_and (iI a) 1 (by decide), nI_iI]
  have h := iI_bv a
  congr 1
  omega
theorem iI_and7 (a : Int) : iI a &&& iI 7 = iI (a % 8) := by
  rw [pk_and (iI a) 3 (by decide), nI_iI]
  have h := iI_bv a
  congr 1
  omega
theorem iI_and15 (a : Int) : iI a &&& iI 15 = iI (a % 16) := by
  rw [pk_and (iI a) 4 (by decide), nI_iI]
  have h := iI_bv a
  congr 1
  omega
theorem iI_and255 (a : Int) : iI a &&& iI 255 = iI (a % 256) := by
  rw [pk_and (iI a) 8 (by decide), nI_iI]
  have h := iI_bv a
  congr 1
  omega
theorem iI_andm8 (a : Int) : iI a &&& iI (-8) = iI (a - a % 8) := by
  have h0 : (iI a &&& iI (-8)) + (iI a &&& iI 7) = iI a := by
    apply Int32.toBitVec.inj
    show ((iI a).toBitVec &&& (iI (-8)).toBitVec) + ((iI a).toBitVec &&& (iI 7).toBitVec) = (iI a).toBitVec
    generalize (iI a).toBitVec = x
    have e1 : (iI (-8)).toBitVec = ~~~ (7#32) := by decide
    have e2 : (iI 7).toBitVec = 7#32 := by decide
    rw [e1, e2]
    generalize (7#32) = y
    rw [BitVec.add_eq_or_of_and_eq_zero]
    · ext i hi
      simp
      cases x[i] <;> cases y[i] <;> simp
    · ext i hi
      simp
      intro _ h2 _
      exact h2
  have h1 : iI a &&& iI (-8) = iI a - (iI a &&& iI 7) := by
    have h2 := congrArg (fun z => z - (iI a &&& iI 7)) h0
    simp only [Int32.add_sub_cancel] at h2
    exact h2
  rw [h1, iI_and7, iI_sub]
theorem iI_div {a b : Int} (ha : 0 ≤ a ∧ a < 2147483648) (hb : 0 < b ∧ b < 2147483648) : iI a / iI b = iI (a / b) := by
  unfold iI
  rw [← Int32.ofInt_tdiv (by show (-2147483648 : Int) ≤ a; omega) (by show a ≤ (2147483647 : Int); omega) (by show (-2147483648 : Int) ≤ b; omega) (by show b ≤ (2147483647 : Int); omega), Int.tdiv_eq_ediv_of_nonneg ha.1]
theorem iI_rem {a b : Int} (ha : 0 ≤ a ∧ a < 2147483648) (hb : 0 < b ∧ b < 2147483648) : iI a - iI a / iI b * iI b = iI (a % b) := by
  rw [iI_div ha hb, iI_mul, iI_sub, Int.emod_def, Int.mul_comm]
theorem iI_ne0 {b : Int} (hb : 0 < b ∧ b < 2147483648) : ¬ iI b = 0 := by
  rw [iI_0, iI_eq (by omega) (by omega)]
  omega
theorem iI_l {a : Int} (ha : -2147483648 ≤ a ∧ a < 2147483648) : (iI a).toInt64 = lI a := by
  rw [← Int64.ofInt_int32ToInt, iI_toInt ha]
  rfl
theorem lI_i (a : Int) : (lI a).toInt32 = iI a := Int64.toInt32_ofInt
theorem lI_div {a b : Int} (ha : -9223372036854775808 ≤ a ∧ a < 9223372036854775808) (hb : 0 < b ∧ b < 9223372036854775808) : lI a / lI b = lI (Int.tdiv a b) := by
  unfold lI
  rw [Int64.ofInt_tdiv (by show (-9223372036854775808 : Int) ≤ a; omega) (by show a ≤ (9223372036854775807 : Int); omega) (by show (-9223372036854775808 : Int) ≤ b; omega) (by show b ≤ (9223372036854775807 : Int); omega)]
theorem lI_ne0 {b : Int} (hb : 0 < b ∧ b < 9223372036854775808) : ¬ lI b = 0 := by
  rw [← Int64.toInt_inj, lI_toInt (by omega)]
  show ¬ b = 0
  omega
theorem lI_cmp {a b : Int} (ha : -9223372036854775808 ≤ a ∧ a < 9223372036854775808) (hb : -9223372036854775808 ≤ b ∧ b < 9223372036854775808) : lg_cmp (lI a) (lI b) = iI (cmpI a b) := by
  unfold lg_cmp cmpI
  have e1 : (lI a > lI b) ↔ b < a := by
    show lI b < lI a ↔ _
    rw [Int64.lt_iff_toInt_lt, lI_toInt ha, lI_toInt hb]
  have e2 : (lI a = lI b) ↔ a = b := by rw [← Int64.toInt_inj, lI_toInt ha, lI_toInt hb]
  by_cases h1 : b < a
  · rw [if_pos (e1.mpr h1), if_pos h1]; rfl
  · rw [if_neg (fun h => h1 (e1.mp h)), if_neg h1]
    by_cases h2 : a = b
    · rw [if_pos (e2.mpr h2), if_pos h2]; rfl
    · rw [if_neg (fun h => h2 (e2.mp h)), if_neg h2]; rfl
theorem cmpI_rng (a b : Int) : -2147483648 ≤ cmpI a b ∧ cmpI a b < 2147483648 := by unfold cmpI; split <;> (try split) <;> omega
theorem cmpI_le {a b : Int} : cmpI a b ≤ 0 ↔ a ≤ b := by unfold cmpI; split <;> (try split) <;> omega
theorem cmpI_lt {a b : Int} : cmpI a b < 0 ↔ a < b := by unfold cmpI; split <;> (try split) <;> omega
/-- Java's rounding down of a quotient, out of the one towards 0 -/
theorem fdiv_of {a b : Int} (hb : 0 < b) : (if Int.tdiv a b * b > a then Int.tdiv a b - 1 else Int.tdiv a b) = a / b := by
  rcases Int.le_total 0 a with h | h
  · rw [Int.tdiv_eq_ediv_of_nonneg h]
    have h1 := Int.ediv_mul_le a (Int.ne_of_gt hb)
    rw [if_neg (by omega)]
  · by_cases hd : b ∣ a
    · have e : Int.tdiv a b = a / b := by rw [Int.tdiv_eq_ediv, if_pos (Or.inr hd), Int.add_zero]
      rw [e, Int.ediv_mul_cancel hd, if_neg (by omega)]
    · have h0 : ¬ 0 ≤ a := fun h2 => hd (by rw [show a = 0 by omega]; exact Int.dvd_zero b)
      have h3 : ¬ (0 ≤ a ∨ b ∣ a) := fun h3 => h3.elim h0 hd
      have e : Int.tdiv a b = a / b + 1 := by rw [Int.tdiv_eq_ediv, if_neg h3, Int.sign_eq_one_of_pos hb]
      have h2 := Int.lt_ediv_add_one_mul_self a hb
      rw [e, if_pos h2]
      omega
end
section
/-! A layer over the kit: contracts Ct and walks J, that speak of worlds, locals and numbers alone -/
abbrev GX : Type := va_G × ClassId × ClassId
def isNest : Cond → Bool
  | .fieldLinkNest .. => true
  | .methodLinkNest .. => true
  | _ => false
def GW : List Cond := lw_tbl.filter goodWord
def NL : List Cond := lw_tbl.filter isNest
theorem GW_of {w : Cond} (h : w ∈ lw_tbl) (g : goodWord w = true) : w ∈ GW := List.mem_filter.mpr ⟨h, g⟩
theorem NL_of {w : Cond} (h : w ∈ lw_tbl) (g : isNest w = true) : w ∈ NL := List.mem_filter.mpr ⟨h, g⟩
theorem GW_good : ∀ w ∈ GW, (w.onTables && w.keeps) = true ∨ ∃ ty, w = .arrayClass ty := fun _ h => good_of_word (List.mem_filter.mp h).2
abbrev tyX (X : GX) : List (ClassId × FieldType) := [(X.2.1, .int), (X.2.2, .byte)]
def KX (X : GX) (U : State) : Prop := va_K X.1 vwCl (tyX X) U ∧ ∀ w ∈ NL, va_Nw w U
theorem nest_tab {w : Cond} (h : isNest w = true) : w.onTables = true := by
  cases w <;> first | rfl | (simp [isNest] at h)
theorem KX.warm {X : GX} {s U : State} (hW : s.WarmedH U.vm) (h : KX X s) : KX X U := by
  refine ⟨va_K.moved hW.alike h.1, fun w hw => ?_⟩
  have hn : isNest w = true := (List.mem_filter.mp hw).2
  have h1 := h.2 w hw
  cases w <;> first | exact va_Nw.warmF hW h1 | exact va_Nw.warmM hW h1 | (simp [isNest] at hn)
theorem KX.same {X : GX} {s U : State} (hv : s.vm = U.vm) (h : KX X s) : KX X U :=
  ⟨va_K.moved (by rw [hv]; exact Vm.Alike.refl U.vm) h.1, fun w hw => va_Nw.same (nest_tab (List.mem_filter.mp hw).2) hv (h.2 w hw)⟩
def Pg (X : GX) (av : List Value) (ws : va_W) (sz : Nat) : Array Value → State → Prop := va_Pc av (fun U => U.heap.size = sz ∧ va_P X.1 vwCl ws U.heap ∧ KX X U ∧ va_D (fun _ => True) ws)
def Qg (X : GX) (post : Option Value → va_W → Prop) (A : Nat → Prop) : Array Value → State → Outcome → State → Prop := fun _ st oc t => (∃ (v : Option Value) (u : va_W), oc = .returned v ∧ post v u ∧ va_P X.1 vwCl u t.heap ∧ va_D A u) ∧ va_F A st t
def Ct (l : Launch) (y : MethodName) (b : ByteArray) (nL : Nat) (ret : Option FieldType) (fr lo mc ms : Nat) (X : GX) (av : List Value) (ws : va_W) (post : Option Value → va_W → Prop) : Prop :=
  ∀ sz : Nat, Met l y (.code y b nL ret :: GW) { frames := fr, cells := mc, slots := ms, locals := lo } (Pg X av ws sz) (Qg X post (va_A ws sz)) mc ms (va_A ws sz)
def fun1 (rv : Option Value) (ws' : va_W) : Option Value → va_W → Prop := fun v u => v = rv ∧ u = ws'
theorem Pg_blind (X : GX) (av : List Value) (ws : va_W) (sz : Nat) : FrameBlind (Pg X av ws sz) := by
  intro a U g mk h
  obtain ⟨h0, h1, h2, h3, h4⟩ := h
  exact ⟨h0, h1, h2, KX.same (s := U) (U := U.calling g mk a) rfl h3, h4⟩
def Cx (p : Program) (s : State) (m : MethodId) (args : Array Value) (meth : Method) (c : Code) (X : GX) (A : Nat → Prop) (nL : Nat) (cc : ByteArray) (own : String) : Prop :=
  p.tables.exec = Jvm.exec ∧ c.code = cc ∧ c.maxLocals = nL ∧ s.vm.findClass own = some m.cls ∧ (∀ w ∈ GW, w.before args s = true) ∧ KX X s ∧ (∀ q : Nat, s.heap.size ≤ q → A q) ∧ meth.locks = false
def J (p : Program) (l : Launch) (e : Env) (R : Room) (s : State) (m : MethodId) (args : Array Value) (below : List Frame) (meth : Method) (c : Code) (X : GX) (A : Nat → Prop) (nL cells slots : Nat) (Q : State → Prop) (ws : va_W) (lv : List (Nat × Value)) (pc : Nat) (st : List Value) : Prop :=
  ∀ (H : Heap) (locs : List Loc) (ls : Array Slot), va_P X.1 vwCl ws H → va_D A ws → va_S A s.heap H locs → lv_has ls nL lv → W p l e R s m args below meth c H locs cells slots Q (F0 m pc ls st)
/-- a contract out of a walk, for any method without a row among the natives -/
theorem Met_ofWF {l : Launch} {y : MethodName} {ws ws' : List Cond} {rm : Room} {Pc : Array Value → State → Prop} {Qc : Array Value → State → Outcome → State → Prop} {mc ms : Nat} {free : Addr → Prop} {cc : ByteArray} {maxL : Nat} {ret : Option FieldType}
    (hy : plainFor y = true) (hw : ws = Cond.code y cc maxL ret :: ws')
    (body : ∀ p e s m args below meth c s₁, BodyLoose p l y (headSpec ws rm) cc maxL ret e s m args below meth c s₁ → c.maxLocals = maxL → Pc args s →
      W p l e (headSpec ws rm).room s m args below meth c s.heap [] 0 0 (MQ below Qc args s mc ms free) (entryFrame m args maxL)) : Met l y ws rm Pc Qc mc ms free := by
  refine MetFree.of_bodySF (code := cc) (maxLocals := maxL) (ret := ret) hy ?_ ?_
  · intro args s m h hn
    obtain ⟨meth, c, h1, h2, h3, h4, h5, h6, -, -⟩ := Cond.code_spec hn (atoms_spec (ws := ws) h _ (by rw [hw]; exact List.mem_cons_self))
    exact ⟨meth, c, h1, h2, h3, h4, h5, h6⟩
  · intro p e s m args below meth c s₁ B hml hP _
    have hh0 : s₁.heap = s.heap := by rw [B.state]; rfl
    obtain ⟨t, a1, o, b1, b2, b3⟩ := body p e s m args below meth c s₁ B hml hP s₁ hh0 (Stand.of_body B)
    exact ⟨t, o, a1, b1, b2, ⟨b3.1, b3.2⟩⟩
/-- what a method's body must show -/
theorem Ct_of {l : Launch} {y : MethodName} {b : ByteArray} {nL : Nat} {ret : Option FieldType} {fr lo mc ms : Nat} {X : GX} {av : List Value} {ws : va_W} {post : Option Value → va_W → Prop} {lv : List (Nat × Value)} {own : String} (hy : plainFor y = true) (ho : y.cls = own) (hav : (lg_sl av).length ≤ nL) (hlv : lv_args 0 av = lv)
    (body : ∀ (p : Program) (e : Env) (s : State) (m : MethodId) (args : Array Value) (below : List Frame) (meth : Method) (c : Code) (A : Nat → Prop), Cx p s m args meth c X A nL b own → meth.sig.returnType = ret → meth.name = y.name →
      J p l e { frames := fr, cells := mc, slots := ms, locals := lo } s m args below meth c X A nL 0 0 (MQ below (Qg X post A) args s mc ms A) ws lv 0 []) : Ct l y b nL ret fr lo mc ms X av ws post := by
  intro sz
  refine Met_ofWF (cc := b) (maxL := nL) (ret := ret) hy rfl ?_
  intro p e s m args below meth c s₁ B hml hv
  obtain ⟨rfl, hsz, hP, hK, hD0⟩ := hv
  have hts := atoms_spec (ws := .code y b nL ret :: GW) B.pre
  have hown : s.vm.findClass own = some m.cls := by rw [← ho]; exact findClass_of_methodNamed B.named
  subst hsz
  have hD := hD0.self (sz := s.heap.size)
  generalize hAe : va_A ws s.heap.size = A at hD ⊢
  have hA : ∀ q : Nat, s.heap.size ≤ q → A q := fun q h => by rw [← hAe]; exact Or.inr h
  have hS : va_S A s.heap s.heap [] := va_S.rf
  have hl := lv_entry av (n := nL) hav
  rw [hlv] at hl
  rw [lg_entry_eq]
  exact body p e s m _ below meth c A ⟨B.exec, B.bytes, hml, hown, fun w hw => hts w (List.mem_cons_of_mem _ hw), hK, hA, B.notSynchronized⟩ B.returns (name_of_methodNamed B.named B.method).1 _ _ _ hP hD hS hl
section JL
variable {p : Program} {l : Launch} {e : Env} {R : Room} {s : State} {m : MethodId} {args : Array Value} {below : List Frame} {meth : Method} {c : Code} {X : GX} {A : Nat → Prop} {nL cells slots : Nat} {Q : State → Prop} {ws ws' : va_W} {lv lv' : List (Nat × Value)} {pc : Nat} {st : List Value} {cc : ByteArray} {own : String}
theorem J_eq {pc' : Nat} {st' : List Value} (h : pc = pc') (h2 : st = st') (k : J p l e R s m args below meth c X A nL cells slots Q ws lv pc' st') : J p l e R s m args below meth c X A nL cells slots Q ws lv pc st := by
  subst h; subst h2; exact k
theorem J_ws (h : ws = ws') (k : J p l e R s m args below meth c X A nL cells slots Q ws' lv pc st) : J p l e R s m args below meth c X A nL cells slots Q ws lv pc st := by
  subst h; exact k
theorem J_sub (is : List Nat) (hn : va_nd is = true) (hs : is.map (fun i => ws[i]?) = ws'.map some) (hs2 : is.filterMap (fun i => ws[i]?) = ws') (k : J p l e R s m args below meth c X A nL cells slots Q ws' lv pc st) : J p l e R s m args below meth c X A nL cells slots Q ws lv pc st :=
  fun H locs ls hP hD hS hl => k H locs ls (hP.sub is hs2) (hD.sub is hn hs) hS hl
theorem J_lv (is : List Nat) (h : lv_pick lv is = lv') (k : J p l e R s m args below meth c X A nL cells slots Q ws lv' pc st) : J p l e R s m args below meth c X A nL cells slots Q ws lv pc st :=
  fun H locs ls hP hD hS hl => k H locs ls hP hD hS (lv_sub hl is h)
theorem J_widen {k n : Nat} (h1 : cells ≤ k) (h2 : slots ≤ n) (kk : J p l e R s m args below meth c X A nL k n Q ws lv pc st) : J p l e R s m args below meth c X A nL cells slots Q ws lv pc st :=
  fun H locs ls hP hD hS hl => W.widen h1 h2 (kk H locs ls hP hD hS hl)
theorem J_iconst (cx : Cx p s m args meth c X A nL cc own) {n : Int} (hdg : decode cc pc = .ok (.iconst n, 1)) (k : J p l e R s m args below meth c X A nL cells slots Q ws lv (pc + 1) (.int (iI n) :: st)) : J p l e R s m args below meth c X A nL cells slots Q ws lv pc st :=
  fun H locs ls hP hD hS hl => lv_iconst cx.1 cx.2.1 hdg rfl (k H locs ls hP hD hS hl)
theorem J_bipush (cx : Cx p s m args meth c X A nL cc own) {n : Int} (hdg : decode cc pc = .ok (.bipush n, 2)) (hv : (Int8.ofInt n).toInt32 = iI n) (k : J p l e R s m args below meth c X A nL cells slots Q ws lv (pc + 2) (.int (iI n) :: st)) : J p l e R s m args below meth c X A nL cells slots Q ws lv pc st :=
  fun H locs ls hP hD hS hl => lv_bipush cx.1 cx.2.1 hdg hv (k H locs ls hP hD hS hl)
theorem J_sipush (cx : Cx p s m args meth c X A nL cc own) {n : Int} (hdg : decode cc pc = .ok (.sipush n, 3)) (hv : (Int16.ofInt n).toInt32 = iI n) (k : J p l e R s m args below meth c X A nL cells slots Q ws lv (pc + 3) (.int (iI n) :: st)) : J p l e R s m args below meth c X A nL cells slots Q ws lv pc st :=
  fun H locs ls hP hD hS hl => lv_sipush cx.1 cx.2.1 hdg hv (k H locs ls hP hD hS hl)
theorem J_ldc (cx : Cx p s m args meth c X A nL cc own) {n : Int} {index : Nat} (hc : Jvm.Cond.constant own index (iI n) ∈ GW) (hdg : decode cc pc = .ok (.ldc index, 2)) (k : J p l e R s m args below meth c X A nL cells slots Q ws lv (pc + 2) (.int (iI n) :: st)) : J p l e R s m args below meth c X A nL cells slots Q ws lv pc st :=
  fun H locs ls hP hD hS hl => lv_ldc cx.1 cx.2.1 cx.2.2.2.1 (cx.2.2.2.2.1 _ hc) hdg (k H locs ls hP hD hS hl)
theorem J_lconst (cx : Cx p s m args meth c X A nL cc own) {n : Fin 2} {z : Int} (hdg : decode cc pc = .ok (.lconst n, 1)) (hv : Int64.ofNat (n : Nat) = lI z) (k : J p l e R s m args below meth c X A nL cells slots Q ws lv (pc + 1) (.long (lI z) :: st)) : J p l e R s m args below meth c X A nL cells slots Q ws lv pc st :=
  fun H locs ls hP hD hS hl => lv_lconst cx.1 cx.2.1 hdg hv (k H locs ls hP hD hS hl)
theorem J_ldc2 (cx : Cx p s m args meth c X A nL cc own) {n : Int} {index : Nat} (hc : Jvm.Cond.constantLong own index (lI n) ∈ GW) (hdg : decode cc pc = .ok (.ldc2_w index, 3)) (k : J p l e R s m args below meth c X A nL cells slots Q ws lv (pc + 3) (.long (lI n) :: st)) : J p l e R s m args below meth c X A nL cells slots Q ws lv pc st :=
  fun H locs ls hP hD hS hl => lv_ldc2 cx.1 cx.2.1 cx.2.2.2.1 (cx.2.2.2.2.1 _ hc) hdg (k H locs ls hP hD hS hl)
theorem J_iload_n (cx : Cx p s m args meth c X A nL cc own) {kk : Fin 4} {i : Nat} {x : Int} (hdg : decode cc pc = .ok (.iload_n kk, 1)) (hi : (kk : Nat) = i) (q : Nat) (hq : lv[q]? = some (i, .int (iI x))) (k : J p l e R s m args below meth c X A nL cells slots Q ws lv (pc + 1) (.int (iI x) :: st)) : J p l e R s m args below meth c X A nL cells slots Q ws lv pc st :=
  fun H locs ls hP hD hS hl => lv_iload_n cx.1 cx.2.1 hdg hi (lv_at hl q hq) (k H locs ls hP hD hS hl)
theorem J_iload (cx : Cx p s m args meth c X A nL cc own) {i : Nat} {x : Int} (hdg : decode cc pc = .ok (.iload i, 2)) (q : Nat) (hq : lv[q]? = some (i, .int (iI x))) (k : J p l e R s m args below meth c X A nL cells slots Q ws lv (pc + 2) (.int (iI x) :: st)) : J p l e R s m args below meth c X A nL cells slots Q ws lv pc st :=
  fun H locs ls hP hD hS hl => lv_iload cx.1 cx.2.1 hdg (lv_at hl q hq) (k H locs ls hP hD hS hl)
theorem J_aload_n (cx : Cx p s m args meth c X A nL cc own) {kk : Fin 4} {i x : Nat} (hdg : decode cc pc = .ok (.aload_n kk, 1)) (hi : (kk : Nat) = i) (q : Nat) (hq : lv[q]? = some (i, .ref x)) (k : J p l e R s m args below meth c X A nL cells slots Q ws lv (pc + 1) (.ref x :: st)) : J p l e R s m args below meth c X A nL cells slots Q ws lv pc st :=
  fun H locs ls hP hD hS hl => lv_aload_n cx.1 cx.2.1 hdg hi (lv_at hl q hq) (k H locs ls hP hD hS hl)
theorem J_aload (cx : Cx p s m args meth c X A nL cc own) {i x : Nat} (hdg : decode cc pc = .ok (.aload i, 2)) (q : Nat) (hq : lv[q]? = some (i, .ref x)) (k : J p l e R s m args below meth c X A nL cells slots Q ws lv (pc + 2) (.ref x :: st)) : J p l e R s m args below meth c X A nL cells slots Q ws lv pc st :=
  fun H locs ls hP hD hS hl => lv_aload cx.1 cx.2.1 hdg (lv_at hl q hq) (k H locs ls hP hD hS hl)
theorem J_lload_n (cx : Cx p s m args meth c X A nL cc own) {kk : Fin 4} {i : Nat} {x : Int} (hdg : decode cc pc = .ok (.lload_n kk, 1)) (hi : (kk : Nat) = i) (q : Nat) (hq : lv[q]? = some (i, .long (lI x))) (k : J p l e R s m args below meth c X A nL cells slots Q ws lv (pc + 1) (.long (lI x) :: st)) : J p l e R s m args below meth c X A nL cells slots Q ws lv pc st :=
  fun H locs ls hP hD hS hl => lv_lload_n cx.1 cx.2.1 hdg hi (lv_at hl q hq) (k H locs ls hP hD hS hl)
theorem J_lload (cx : Cx p s m args meth c X A nL cc own) {i : Nat} {x : Int} (hdg : decode cc pc = .ok (.lload i, 2)) (q : Nat) (hq : lv[q]? = some (i, .long (lI x))) (k : J p l e R s m args below meth c X A nL cells slots Q ws lv (pc + 2) (.long (lI x) :: st)) : J p l e R s m args below meth c X A nL cells slots Q ws lv pc st :=
  fun H locs ls hP hD hS hl => lv_lload cx.1 cx.2.1 hdg (lv_at hl q hq) (k H locs ls hP hD hS hl)
theorem J_istore_n (cx : Cx p s m args meth c X A nL cc own) {kk : Fin 4} {i : Nat} {x : Int} (hdg : decode cc pc = .ok (.istore_n kk, 1)) (hi : (kk : Nat) = i) (hn : i < nL) (h : (i, Value.int (iI x)) :: lv.filter (fun q => !(q.1 == i) && !(q.1 + 1 == i && q.2.category == 2)) = lv') (k : J p l e R s m args below meth c X A nL cells slots Q ws lv' (pc + 1) st) : J p l e R s m args below meth c X A nL cells slots Q ws lv pc (.int (iI x) :: st) :=
  fun H locs ls hP hD hS hl => lv_istore_n cx.1 cx.2.1 hdg hi hl hn h (fun ls' hl' => k H locs ls' hP hD hS hl')
theorem J_istore (cx : Cx p s m args meth c X A nL cc own) {i : Nat} {x : Int} (hdg : decode cc pc = .ok (.istore i, 2)) (hn : i < nL) (h : (i, Value.int (iI x)) :: lv.filter (fun q => !(q.1 == i) && !(q.1 + 1 == i && q.2.category == 2)) = lv') (k : J p l e R s m args below meth c X A nL cells slots Q ws lv' (pc + 2) st) : J p l e R s m args below meth c X A nL cells slots Q ws lv pc (.int (iI x) :: st) :=
  fun H locs ls hP hD hS hl => lv_istore cx.1 cx.2.1 hdg hl hn h (fun ls' hl' => k H locs ls' hP hD hS hl')
theorem J_astore_n (cx : Cx p s m args meth c X A nL cc own) {kk : Fin 4} {i x : Nat} (hdg : decode cc pc = .ok (.astore_n kk, 1)) (hi : (kk : Nat) = i) (hn : i < nL) (h : (i, Value.ref x) :: lv.filter (fun q => !(q.1 == i) && !(q.1 + 1 == i && q.2.category == 2)) = lv') (k : J p l e R s m args below meth c X A nL cells slots Q ws lv' (pc + 1) st) : J p l e R s m args below meth c X A nL cells slots Q ws lv pc (.ref x :: st) :=
  fun H locs ls hP hD hS hl => lv_astore_n cx.1 cx.2.1 hdg hi hl hn h (fun ls' hl' => k H locs ls' hP hD hS hl')
theorem J_lstore_n (cx : Cx p s m args meth c X A nL cc own) {kk : Fin 4} {i : Nat} {x : Int} (hdg : decode cc pc = .ok (.lstore_n kk, 1)) (hi : (kk : Nat) = i) (hn : i + 1 < nL) (h : (i, Value.long (lI x)) :: lv.filter (fun q => !(q.1 == i) && (!(q.1 == i + 1) && !(q.1 + 1 == i && q.2.category == 2))) = lv') (k : J p l e R s m args below meth c X A nL cells slots Q ws lv' (pc + 1) st) : J p l e R s m args below meth c X A nL cells slots Q ws lv pc (.long (lI x) :: st) :=
  fun H locs ls hP hD hS hl => lv_lstore_n cx.1 cx.2.1 hdg hi hl hn h (fun ls' hl' => k H locs ls' hP hD hS hl')
theorem J_lstore (cx : Cx p s m args meth c X A nL cc own) {i : Nat} {x : Int} (hdg : decode cc pc = .ok (.lstore i, 2)) (hn : i + 1 < nL) (h : (i, Value.long (lI x)) :: lv.filter (fun q => !(q.1 == i) && (!(q.1 == i + 1) && !(q.1 + 1 == i && q.2.category == 2))) = lv') (k : J p l e R s m args below meth c X A nL cells slots Q ws lv' (pc + 2) st) : J p l e R s m args below meth c X A nL cells slots Q ws lv pc (.long (lI x) :: st) :=
  fun H locs ls hP hD hS hl => lv_lstore cx.1 cx.2.1 hdg hl hn h (fun ls' hl' => k H locs ls' hP hD hS hl')
theorem J_iinc (cx : Cx p s m args meth c X A nL cc own) {i q : Nat} {n x : Int} (hdg : decode cc pc = .ok (.iinc i n, 3)) (hq : lv[q]? = some (i, .int (iI x))) (hn : i < nL) (h : (i, Value.int (iI (x + n))) :: lv.filter (fun q => !(q.1 == i) && !(q.1 + 1 == i && q.2.category == 2)) = lv') (k : J p l e R s m args below meth c X A nL cells slots Q ws lv' (pc + 3) st) : J p l e R s m args below meth c X A nL cells slots Q ws lv pc st :=
  fun H locs ls hP hD hS hl => lv_iinc cx.1 cx.2.1 hdg hl hq (iI_add x n) hn h (fun ls' hl' => k H locs ls' hP hD hS hl')
theorem J_iadd (cx : Cx p s m args meth c X A nL cc own) {a b : Int} (hdg : decode cc pc = .ok (.iadd, 1)) (k : J p l e R s m args below meth c X A nL cells slots Q ws lv (pc + 1) (.int (iI (a + b)) :: st)) : J p l e R s m args below meth c X A nL cells slots Q ws lv pc (.int (iI b) :: .int (iI a) :: st) :=
  fun H locs ls hP hD hS hl => lv_iadd cx.1 cx.2.1 hdg (by rw [iI_add]; exact k H locs ls hP hD hS hl)
theorem J_isub (cx : Cx p s m args meth c X A nL cc own) {a b : Int} (hdg : decode cc pc = .ok (.isub, 1)) (k : J p l e R s m args below meth c X A nL cells slots Q ws lv (pc + 1) (.int (iI (a - b)) :: st)) : J p l e R s m args below meth c X A nL cells slots Q ws lv pc (.int (iI b) :: .int (iI a) :: st) :=
  fun H locs ls hP hD hS hl => lv_isub cx.1 cx.2.1 hdg (by rw [iI_sub]; exact k H locs ls hP hD hS hl)
theorem J_imul (cx : Cx p s m args meth c X A nL cc own) {a b : Int} (hdg : decode cc pc = .ok (.imul, 1)) (k : J p l e R s m args below meth c X A nL cells slots Q ws lv (pc + 1) (.int (iI (a * b)) :: st)) : J p l e R s m args below meth c X A nL cells slots Q ws lv pc (.int (iI b) :: .int (iI a) :: st) :=
  fun H locs ls hP hD hS hl => lv_imul cx.1 cx.2.1 hdg (by rw [iI_mul]; exact k H locs ls hP hD hS hl)
theorem J_ineg (cx : Cx p s m args meth c X A nL cc own) {a : Int} (hdg : decode cc pc = .ok (.ineg, 1)) (k : J p l e R s m args below meth c X A nL cells slots Q ws lv (pc + 1) (.int (iI (-a)) :: st)) : J p l e R s m args below meth c X A nL cells slots Q ws lv pc (.int (iI a) :: st) :=
  fun H locs ls hP hD hS hl => lv_ineg cx.1 cx.2.1 hdg (by first | (rw [iI_neg]; exact k H locs ls hP hD hS hl) | (rw [iI_0, iI_sub, Int.zero_sub]; exact k H locs ls hP hD hS hl))
theorem J_idiv (cx : Cx p s m args meth c X A nL cc own) {a b : Int} (hdg : decode cc pc = .ok (.idiv, 1)) (ha : 0 ≤ a ∧ a < 2147483648) (hb : 0 < b ∧ b < 2147483648) (k : J p l e R s m args below meth c X A nL cells slots Q ws lv (pc + 1) (.int (iI (a / b)) :: st)) : J p l e R s m args below meth c X A nL cells slots Q ws lv pc (.int (iI b) :: .int (iI a) :: st) :=
  fun H locs ls hP hD hS hl => lv_idiv cx.1 cx.2.1 hdg (iI_ne0 hb) (by rw [iI_div ha hb]; exact k H locs ls hP hD hS hl)
theorem J_irem (cx : Cx p s m args meth c X A nL cc own) {a b : Int} (hdg : decode cc pc = .ok (.irem, 1)) (ha : 0 ≤ a ∧ a < 2147483648) (hb : 0 < b ∧ b < 2147483648) (k : J p l e R s m args below meth c X A nL cells slots Q ws lv (pc + 1) (.int (iI (a % b)) :: st)) : J p l e R s m args below meth c X A nL cells slots Q ws lv pc (.int (iI b) :: .int (iI a) :: st) :=
  fun H locs ls hP hD hS hl => lv_irem cx.1 cx.2.1 hdg (iI_ne0 hb) (by rw [iI_rem ha hb]; exact k H locs ls hP hD hS hl)
theorem J_ishr (cx : Cx p s m args meth c X A nL cc own) {a b : Int} (hdg : decode cc pc = .ok (.ishr, 1)) (ha : -2147483648 ≤ a ∧ a < 2147483648) (hb : 0 ≤ b ∧ b < 32) (k : J p l e R s m args below meth c X A nL cells slots Q ws lv (pc + 1) (.int (iI (a / p2 b)) :: st)) : J p l e R s m args below meth c X A nL cells slots Q ws lv pc (.int (iI b) :: .int (iI a) :: st) :=
  fun H locs ls hP hD hS hl => lv_ishr cx.1 cx.2.1 hdg (by rw [iI_shr ha hb]; exact k H locs ls hP hD hS hl)
theorem J_ishl (cx : Cx p s m args meth c X A nL cc own) {a b : Int} (hdg : decode cc pc = .ok (.ishl, 1)) (ha : 0 ≤ a) (hb : 0 ≤ b ∧ b < 32) (h : a * p2 b < 4294967296) (k : J p l e R s m args below meth c X A nL cells slots Q ws lv (pc + 1) (.int (iI (a * p2 b)) :: st)) : J p l e R s m args below meth c X A nL cells slots Q ws lv pc (.int (iI b) :: .int (iI a) :: st) :=
  fun H locs ls hP hD hS hl => lv_ishl cx.1 cx.2.1 hdg (by rw [iI_shl ha hb h]; exact k H locs ls hP hD hS hl)
theorem J_iand (cx : Cx p s m args meth c X A nL cc own) {a b r : Int} (hdg : decode cc pc = .ok (.iand, 1)) (h : iI a &&& iI b = iI r) (k : J p l e R s m args below meth c X A nL cells slots Q ws lv (pc + 1) (.int (iI r) :: st)) : J p l e R s m args below meth c X A nL cells slots Q ws lv pc (.int (iI b) :: .int (iI a) :: st) :=
  fun H locs ls hP hD hS hl => lv_iand cx.1 cx.2.1 hdg (by rw [h]; exact k H locs ls hP hD hS hl)
theorem J_i2b (cx : Cx p s m args meth c X A nL cc own) {a : Int} (hdg : decode cc pc = .ok (.i2b, 1)) (k : J p l e R s m args below meth c X A nL cells slots Q ws lv (pc + 1) (.int (iI (w8 a)) :: st)) : J p l e R s m args below meth c X A nL cells slots Q ws lv pc (.int (iI a) :: st) :=
  fun H locs ls hP hD hS hl => lv_i2b cx.1 cx.2.1 hdg (iI_b8 a) (k H locs ls hP hD hS hl)
theorem J_i2l (cx : Cx p s m args meth c X A nL cc own) {a : Int} (hdg : decode cc pc = .ok (.i2l, 1)) (ha : -2147483648 ≤ a ∧ a < 2147483648) (k : J p l e R s m args below meth c X A nL cells slots Q ws lv (pc + 1) (.long (lI a) :: st)) : J p l e R s m args below meth c X A nL cells slots Q ws lv pc (.int (iI a) :: st) :=
  fun H locs ls hP hD hS hl => lv_i2l cx.1 cx.2.1 hdg (iI_l ha) (k H locs ls hP hD hS hl)
theorem J_l2i (cx : Cx p s m args meth c X A nL cc own) {a : Int} (hdg : decode cc pc = .ok (.l2i, 1)) (k : J p l e R s m args below meth c X A nL cells slots Q ws lv (pc + 1) (.int (iI a) :: st)) : J p l e R s m args below meth c X A nL cells slots Q ws lv pc (.long (lI a) :: st) :=
  fun H locs ls hP hD hS hl => lv_l2i cx.1 cx.2.1 hdg (lI_i a) (k H locs ls hP hD hS hl)
theorem J_ladd (cx : Cx p s m args meth c X A nL cc own) {a b : Int} (hdg : decode cc pc = .ok (.ladd, 1)) (k : J p l e R s m args below meth c X A nL cells slots Q ws lv (pc + 1) (.long (lI (a + b)) :: st)) : J p l e R s m args below meth c X A nL cells slots Q ws lv pc (.long (lI b) :: .long (lI a) :: st) :=
  fun H locs ls hP hD hS hl => lv_ladd cx.1 cx.2.1 hdg (by rw [lI_add]; exact k H locs ls hP hD hS hl)
theorem J_lsub (cx : Cx p s m args meth c X A nL cc own) {a b : Int} (hdg : decode cc pc = .ok (.lsub, 1)) (k : J p l e R s m args below meth c X A nL cells slots Q ws lv (pc + 1) (.long (lI (a - b)) :: st)) : J p l e R s m args below meth c X A nL cells slots Q ws lv pc (.long (lI b) :: .long (lI a) :: st) :=
  fun H locs ls hP hD hS hl => lv_lsub cx.1 cx.2.1 hdg (by rw [lI_sub]; exact k H locs ls hP hD hS hl)
theorem J_lmul (cx : Cx p s m args meth c X A nL cc own) {a b : Int} (hdg : decode cc pc = .ok (.lmul, 1)) (k : J p l e R s m args below meth c X A nL cells slots Q ws lv (pc + 1) (.long (lI (a * b)) :: st)) : J p l e R s m args below meth c X A nL cells slots Q ws lv pc (.long (lI b) :: .long (lI a) :: st) :=
  fun H locs ls hP hD hS hl => lv_lmul cx.1 cx.2.1 hdg (by rw [lI_mul]; exact k H locs ls hP hD hS hl)
theorem J_ldiv (cx : Cx p s m args meth c X A nL cc own) {a b : Int} (hdg : decode cc pc = .ok (.ldiv, 1)) (ha : -9223372036854775808 ≤ a ∧ a < 9223372036854775808) (hb : 0 < b ∧ b < 9223372036854775808) (k : J p l e R s m args below meth c X A nL cells slots Q ws lv (pc + 1) (.long (lI (Int.tdiv a b)) :: st)) : J p l e R s m args below meth c X A nL cells slots Q ws lv pc (.long (lI b) :: .long (lI a) :: st) :=
  fun H locs ls hP hD hS hl => lv_ldiv cx.1 cx.2.1 hdg (lI_ne0 hb) (by rw [lI_div ha hb]; exact k H locs ls hP hD hS hl)
theorem J_lcmp (cx : Cx p s m args meth c X A nL cc own) {a b : Int} (hdg : decode cc pc = .ok (.lcmp, 1)) (ha : -9223372036854775808 ≤ a ∧ a < 9223372036854775808) (hb : -9223372036854775808 ≤ b ∧ b < 9223372036854775808) (k : J p l e R s m args below meth c X A nL cells slots Q ws lv (pc + 1) (.int (iI (cmpI a b)) :: st)) : J p l e R s m args below meth c X A nL cells slots Q ws lv pc (.long (lI b) :: .long (lI a) :: st) :=
  fun H locs ls hP hD hS hl => W.lcmp cx.1 cx.2.1 hdg (by rw [lI_cmp ha hb]; exact k H locs ls hP hD hS hl)
theorem J_dup (cx : Cx p s m args meth c X A nL cc own) {v : Value} (hdg : decode cc pc = .ok (.dup, 1)) (hv : v.category = 1) (k : J p l e R s m args below meth c X A nL cells slots Q ws lv (pc + 1) (v :: v :: st)) : J p l e R s m args below meth c X A nL cells slots Q ws lv pc (v :: st) :=
  fun H locs ls hP hD hS hl => lv_dup cx.1 cx.2.1 hdg hv (k H locs ls hP hD hS hl)
theorem J_pop (cx : Cx p s m args meth c X A nL cc own) {v : Value} (hdg : decode cc pc = .ok (.pop, 1)) (hv : v.category = 1) (k : J p l e R s m args below meth c X A nL cells slots Q ws lv (pc + 1) st) : J p l e R s m args below meth c X A nL cells slots Q ws lv pc (v :: st) :=
  fun H locs ls hP hD hS hl => lv_pop cx.1 cx.2.1 hdg hv (k H locs ls hP hD hS hl)
theorem J_dup2 (cx : Cx p s m args meth c X A nL cc own) {v w : Value} (hdg : decode cc pc = .ok (.dup2, 1)) (hv : v.category = 1) (hw : w.category = 1) (k : J p l e R s m args below meth c X A nL cells slots Q ws lv (pc + 1) (v :: w :: v :: w :: st)) : J p l e R s m args below meth c X A nL cells slots Q ws lv pc (v :: w :: st) :=
  fun H locs ls hP hD hS hl => lv_dup2_11 cx.1 cx.2.1 hdg hv hw (k H locs ls hP hD hS hl)
theorem J_dup_x1 (cx : Cx p s m args meth c X A nL cc own) {v w : Value} (hdg : decode cc pc = .ok (.dup_x1, 1)) (hv : v.category = 1) (hw : w.category = 1) (k : J p l e R s m args below meth c X A nL cells slots Q ws lv (pc + 1) (v :: w :: v :: st)) : J p l e R s m args below meth c X A nL cells slots Q ws lv pc (v :: w :: st) :=
  fun H locs ls hP hD hS hl => lv_dup_x1 cx.1 cx.2.1 hdg hv hw (k H locs ls hP hD hS hl)
theorem J_goto (cx : Cx p s m args meth c X A nL cc own) {off : Int} {tgt : Nat} (hdg : decode cc pc = .ok (.goto off, 3)) (ht : (pc : Int) + off = (tgt : Int)) (k : J p l e R s m args below meth c X A nL cells slots Q ws lv tgt st) : J p l e R s m args below meth c X A nL cells slots Q ws lv pc st :=
  fun H locs ls hP hD hS hl => lv_goto cx.1 cx.2.1 hdg ht (k H locs ls hP hD hS hl)
theorem J_icmp_eq (cx : Cx p s m args meth c X A nL cc own) {a b : Int} {off : Int} {tgt : Nat} (hdg : decode cc pc = .ok (.if_icmp .eq off, 3)) (ht : (pc : Int) + off = (tgt : Int)) (ha : -2147483648 ≤ a ∧ a < 2147483648) (hb : -2147483648 ≤ b ∧ b < 2147483648) (kt : a = b → J p l e R s m args below meth c X A nL cells slots Q ws lv tgt st) (kf : ¬ a = b → J p l e R s m args below meth c X A nL cells slots Q ws lv (pc + 3) st) : J p l e R s m args below meth c X A nL cells slots Q ws lv pc (.int (iI b) :: .int (iI a) :: st) := by
  exact fun H locs ls hP hD hS hl => lv_icmp_eq cx.1 cx.2.1 hdg ht (fun h => kt ((iI_eq ha hb).mp h) H locs ls hP hD hS hl) (fun h => kf (fun h2 => h ((iI_eq ha hb).mpr h2)) H locs ls hP hD hS hl)
theorem J_if_eq (cx : Cx p s m args meth c X A nL cc own) {a : Int} {off : Int} {tgt : Nat} (hdg : decode cc pc = .ok (.ifCond .eq off, 3)) (ht : (pc : Int) + off = (tgt : Int)) (ha : -2147483648 ≤ a ∧ a < 2147483648) (kt : a = 0 → J p l e R s m args below meth c X A nL cells slots Q ws lv tgt st) (kf : ¬ a = 0 → J p l e R s m args below meth c X A nL cells slots Q ws lv (pc + 3) st) : J p l e R s m args below meth c X A nL cells slots Q ws lv pc (.int (iI a) :: st) := by
  have hb : -2147483648 ≤ (0:Int) ∧ (0:Int) < 2147483648 := by decide
  exact fun H locs ls hP hD hS hl => lv_if_eq cx.1 cx.2.1 hdg ht (fun h => kt (by rw [iI_0] at h; exact (iI_eq ha hb).mp h) H locs ls hP hD hS hl) (fun h => kf (fun h2 => h (by rw [iI_0]; exact (iI_eq ha hb).mpr h2)) H locs ls hP hD hS hl)
theorem J_icmp_ne (cx : Cx p s m args meth c X A nL cc own) {a b : Int} {off : Int} {tgt : Nat} (hdg : decode cc pc = .ok (.if_icmp .ne off, 3)) (ht : (pc : Int) + off = (tgt : Int)) (ha : -2147483648 ≤ a ∧ a < 2147483648) (hb : -2147483648 ≤ b ∧ b < 2147483648) (kt : ¬ a = b → J p l e R s m args below meth c X A nL cells slots Q ws lv tgt st) (kf : a = b → J p l e R s m args below meth c X A nL cells slots Q ws lv (pc + 3) st) : J p l e R s m args below meth c X A nL cells slots Q ws lv pc (.int (iI b) :: .int (iI a) :: st) := by
  exact fun H locs ls hP hD hS hl => lv_icmp_ne cx.1 cx.2.1 hdg ht (fun h => kt (fun h2 => h ((iI_eq ha hb).mpr h2)) H locs ls hP hD hS hl) (fun h => kf ((iI_eq ha hb).mp h) H locs ls hP hD hS hl)
theorem J_if_ne (cx : Cx p s m args meth c X A nL cc own) {a : Int} {off : Int} {tgt : Nat} (hdg : decode cc pc = .ok (.ifCond .ne off, 3)) (ht : (pc : Int) + off = (tgt : Int)) (ha : -2147483648 ≤ a ∧ a < 2147483648) (kt : ¬ a = 0 → J p l e R s m args below meth c X A nL cells slots Q ws lv tgt st) (kf : a = 0 → J p l e R s m args below meth c X A nL cells slots Q ws lv (pc + 3) st) : J p l e R s m args below meth c X A nL cells slots Q ws lv pc (.int (iI a) :: st) := by
  have hb : -2147483648 ≤ (0:Int) ∧ (0:Int) < 2147483648 := by decide
  exact fun H locs ls hP hD hS hl => lv_if_ne cx.1 cx.2.1 hdg ht (fun h => kt (fun h2 => h (by rw [iI_0]; exact (iI_eq ha hb).mpr h2)) H locs ls hP hD hS hl) (fun h => kf (by rw [iI_0] at h; exact (iI_eq ha hb).mp h) H locs ls hP hD hS hl)
theorem J_icmp_lt (cx : Cx p s m args meth c X A nL cc own) {a b : Int} {off : Int} {tgt : Nat} (hdg : decode cc pc = .ok (.if_icmp .lt off, 3)) (ht : (pc : Int) + off = (tgt : Int)) (ha : -2147483648 ≤ a ∧ a < 2147483648) (hb : -2147483648 ≤ b ∧ b < 2147483648) (kt : a < b → J p l e R s m args below meth c X A nL cells slots Q ws lv tgt st) (kf : ¬ a < b → J p l e R s m args below meth c X A nL cells slots Q ws lv (pc + 3) st) : J p l e R s m args below meth c X A nL cells slots Q ws lv pc (.int (iI b) :: .int (iI a) :: st) := by
  exact fun H locs ls hP hD hS hl => lv_icmp_lt cx.1 cx.2.1 hdg ht (fun h => kt ((iI_lt ha hb).mp h) H locs ls hP hD hS hl) (fun h => kf (fun h2 => h ((iI_lt ha hb).mpr h2)) H locs ls hP hD hS hl)
theorem J_if_lt (cx : Cx p s m args meth c X A nL cc own) {a : Int} {off : Int} {tgt : Nat} (hdg : decode cc pc = .ok (.ifCond .lt off, 3)) (ht : (pc : Int) + off = (tgt : Int)) (ha : -2147483648 ≤ a ∧ a < 2147483648) (kt : a < 0 → J p l e R s m args below meth c X A nL cells slots Q ws lv tgt st) (kf : ¬ a < 0 → J p l e R s m args below meth c X A nL cells slots Q ws lv (pc + 3) st) : J p l e R s m args below meth c X A nL cells slots Q ws lv pc (.int (iI a) :: st) := by
  have hb : -2147483648 ≤ (0:Int) ∧ (0:Int) < 2147483648 := by decide
  exact fun H locs ls hP hD hS hl => lv_if_lt cx.1 cx.2.1 hdg ht (fun h => kt (by rw [iI_0] at h; exact (iI_lt ha hb).mp h) H locs ls hP hD hS hl) (fun h => kf (fun h2 => h (by rw [iI_0]; exact (iI_lt ha hb).mpr h2)) H locs ls hP hD hS hl)
theorem J_icmp_ge (cx : Cx p s m args meth c X A nL cc own) {a b : Int} {off : Int} {tgt : Nat} (hdg : decode cc pc = .ok (.if_icmp .ge off, 3)) (ht : (pc : Int) + off = (tgt : Int)) (ha : -2147483648 ≤ a ∧ a < 2147483648) (hb : -2147483648 ≤ b ∧ b < 2147483648) (kt : b ≤ a → J p l e R s m args below meth c X A nL cells slots Q ws lv tgt st) (kf : ¬ b ≤ a → J p l e R s m args below meth c X A nL cells slots Q ws lv (pc + 3) st) : J p l e R s m args below meth c X A nL cells slots Q ws lv pc (.int (iI b) :: .int (iI a) :: st) := by
  exact fun H locs ls hP hD hS hl => lv_icmp_ge cx.1 cx.2.1 hdg ht (fun h => kt ((iI_le hb ha).mp h) H locs ls hP hD hS hl) (fun h => kf (fun h2 => h ((iI_le hb ha).mpr h2)) H locs ls hP hD hS hl)
theorem J_if_ge (cx : Cx p s m args meth c X A nL cc own) {a : Int} {off : Int} {tgt : Nat} (hdg : decode cc pc = .ok (.ifCond .ge off, 3)) (ht : (pc : Int) + off = (tgt : Int)) (ha : -2147483648 ≤ a ∧ a < 2147483648) (kt : 0 ≤ a → J p l e R s m args below meth c X A nL cells slots Q ws lv tgt st) (kf : ¬ 0 ≤ a → J p l e R s m args below meth c X A nL cells slots Q ws lv (pc + 3) st) : J p l e R s m args below meth c X A nL cells slots Q ws lv pc (.int (iI a) :: st) := by
  have hb : -2147483648 ≤ (0:Int) ∧ (0:Int) < 2147483648 := by decide
  exact fun H locs ls hP hD hS hl => lv_if_ge cx.1 cx.2.1 hdg ht (fun h => kt (by rw [iI_0] at h; exact (iI_le hb ha).mp h) H locs ls hP hD hS hl) (fun h => kf (fun h2 => h (by rw [iI_0]; exact (iI_le hb ha).mpr h2)) H locs ls hP hD hS hl)
theorem J_icmp_gt (cx : Cx p s m args meth c X A nL cc own) {a b : Int} {off : Int} {tgt : Nat} (hdg : decode cc pc = .ok (.if_icmp .gt off, 3)) (ht : (pc : Int) + off = (tgt : Int)) (ha : -2147483648 ≤ a ∧ a < 2147483648) (hb : -2147483648 ≤ b ∧ b < 2147483648) (kt : b < a → J p l e R s m args below meth c X A nL cells slots Q ws lv tgt st) (kf : ¬ b < a → J p l e R s m args below meth c X A nL cells slots Q ws lv (pc + 3) st) : J p l e R s m args below meth c X A nL cells slots Q ws lv pc (.int (iI b) :: .int (iI a) :: st) := by
  exact fun H locs ls hP hD hS hl => lv_icmp_gt cx.1 cx.2.1 hdg ht (fun h => kt ((iI_lt hb ha).mp h) H locs ls hP hD hS hl) (fun h => kf (fun h2 => h ((iI_lt hb ha).mpr h2)) H locs ls hP hD hS hl)
theorem J_if_gt (cx : Cx p s m args meth c X A nL cc own) {a : Int} {off : Int} {tgt : Nat} (hdg : decode cc pc = .ok (.ifCond .gt off, 3)) (ht : (pc : Int) + off = (tgt : Int)) (ha : -2147483648 ≤ a ∧ a < 2147483648) (kt : 0 < a → J p l e R s m args below meth c X A nL cells slots Q ws lv tgt st) (kf : ¬ 0 < a → J p l e R s m args below meth c X A nL cells slots Q ws lv (pc + 3) st) : J p l e R s m args below meth c X A nL cells slots Q ws lv pc (.int (iI a) :: st) := by
  have hb : -2147483648 ≤ (0:Int) ∧ (0:Int) < 2147483648 := by decide
  exact fun H locs ls hP hD hS hl => lv_if_gt cx.1 cx.2.1 hdg ht (fun h => kt (by rw [iI_0] at h; exact (iI_lt hb ha).mp h) H locs ls hP hD hS hl) (fun h => kf (fun h2 => h (by rw [iI_0]; exact (iI_lt hb ha).mpr h2)) H locs ls hP hD hS hl)
theorem J_icmp_le (cx : Cx p s m args meth c X A nL cc own) {a b : Int} {off : Int} {tgt : Nat} (hdg : decode cc pc = .ok (.if_icmp .le off, 3)) (ht : (pc : Int) + off = (tgt : Int)) (ha : -2147483648 ≤ a ∧ a < 2147483648) (hb : -2147483648 ≤ b ∧ b < 2147483648) (kt : a ≤ b → J p l e R s m args below meth c X A nL cells slots Q ws lv tgt st) (kf : ¬ a ≤ b → J p l e R s m args below meth c X A nL cells slots Q ws lv (pc + 3) st) : J p l e R s m args below meth c X A nL cells slots Q ws lv pc (.int (iI b) :: .int (iI a) :: st) := by
  exact fun H locs ls hP hD hS hl => lv_icmp_le cx.1 cx.2.1 hdg ht (fun h => kt ((iI_le ha hb).mp h) H locs ls hP hD hS hl) (fun h => kf (fun h2 => h ((iI_le ha hb).mpr h2)) H locs ls hP hD hS hl)
theorem J_if_le (cx : Cx p s m args meth c X A nL cc own) {a : Int} {off : Int} {tgt : Nat} (hdg : decode cc pc = .ok (.ifCond .le off, 3)) (ht : (pc : Int) + off = (tgt : Int)) (ha : -2147483648 ≤ a ∧ a < 2147483648) (kt : a ≤ 0 → J p l e R s m args below meth c X A nL cells slots Q ws lv tgt st) (kf : ¬ a ≤ 0 → J p l e R s m args below meth c X A nL cells slots Q ws lv (pc + 3) st) : J p l e R s m args below meth c X A nL cells slots Q ws lv pc (.int (iI a) :: st) := by
  have hb : -2147483648 ≤ (0:Int) ∧ (0:Int) < 2147483648 := by decide
  exact fun H locs ls hP hD hS hl => lv_if_le cx.1 cx.2.1 hdg ht (fun h => kt (by rw [iI_0] at h; exact (iI_le ha hb).mp h) H locs ls hP hD hS hl) (fun h => kf (fun h2 => h (by rw [iI_0]; exact (iI_le ha hb).mpr h2)) H locs ls hP hD hS hl)
theorem J_get (cx : Cx p s m args meth c X A nL cc own) {C ref : String} {T : u_T} {N ci index a : Nat} (hin : ∀ w ∈ u_ws C T N, w ∈ GW) (q0 : Nat) {fs : List Value} (he : ws[q0]? = some (a, .inr (ci, fs))) (hc : vwCl[ci]? = some (C, T, N)) (k : Nat) (hk : k < N) (hlink : Cond.fieldLink own index ref (T k).2.1 (T k).2.2.1 ∈ GW) (hsame : (T k).1 = ref) {v : Value} (hv : fs[k]? = some v) (hdg : decode cc pc = .ok (.getfield index, 3)) (kk : J p l e R s m args below meth c X A nL cells slots Q ws lv (pc + 3) (v :: st)) : J p l e R s m args below meth c X A nL cells slots Q ws lv pc (.ref a :: st) :=
  fun H locs ls hP hD hS hl => va_get (D := X.1) (cl := vwCl) (tys := tyX X) cx.1 cx.2.1 cx.2.2.2.2.1 hin cx.2.2.2.1 cx.2.2.2.2.2.1.1 hP q0 he hc k hk (cx.2.2.2.2.1 _ hlink) (fun _ h9 => by rw [← hsame]; exact h9) hv hdg (kk H locs ls hP hD hS hl)
theorem J_getN (cx : Cx p s m args meth c X A nL cc own) {C ref host : String} {T : u_T} {N ci index a : Nat} (hin : ∀ w ∈ u_ws C T N, w ∈ GW) (q0 : Nat) {fs : List Value} (he : ws[q0]? = some (a, .inr (ci, fs))) (hc : vwCl[ci]? = some (C, T, N)) (k : Nat) (hk : k < N) (hlink : Cond.fieldLinkNest own index ref (T k).2.1 (T k).2.2.1 host ∈ NL) (hsame : (T k).1 = ref) {v : Value} (hv : fs[k]? = some v) (hdg : decode cc pc = .ok (.getfield index, 3)) (kk : J p l e R s m args below meth c X A nL cells slots Q ws lv (pc + 3) (v :: st)) : J p l e R s m args below meth c X A nL cells slots Q ws lv pc (.ref a :: st) :=
  fun H locs ls hP hD hS hl => va_getN (D := X.1) (cl := vwCl) (tys := tyX X) cx.1 cx.2.1 cx.2.2.2.2.1 hin cx.2.2.2.1 cx.2.2.2.2.2.1.1 hP q0 he hc k hk (va_Nw.use rfl (cx.2.2.2.2.2.1.2 _ hlink)) (fun _ h9 => by rw [← hsame]; exact h9) hv hdg (kk H locs ls hP hD hS hl)
theorem J_put (cx : Cx p s m args meth c X A nL cc own) {C ref : String} {T : u_T} {N ci index a : Nat} (hin : ∀ w ∈ u_ws C T N, w ∈ GW) {ty0 : Nat → FieldType} (hty : ∀ k, k < N → parseFieldDescriptor (T k).2.2.1 = some (ty0 k)) (hnm : ∀ a, a < N → ∀ b, b < N → a ≠ b → (T a).2.1 ≠ (T b).2.1) (q0 : Nat) {fs : List Value} (he : ws[q0]? = some (a, .inr (ci, fs))) (hc : vwCl[ci]? = some (C, T, N)) (k : Nat) (hk : k < N) (hlink : Cond.fieldLink own index ref (T k).2.1 (T k).2.2.1 ∈ GW) (hsame : (T k).1 = ref) (hfin : (T k).2.2.2 = false) {ty : FieldType} {v : Value} (hd : parseFieldDescriptor (T k).2.2.1 = some ty) (hn : narrow ty v = v) (hfit : fits ty v = true) (hl : k < fs.length) (hw : ws.set q0 (a, .inr (ci, fs.set k v)) = ws')
    (hdg : decode cc pc = .ok (.putfield index, 3)) (kk : J p l e R s m args below meth c X A nL cells slots Q ws' lv (pc + 3) st) : J p l e R s m args below meth c X A nL cells slots Q ws lv pc (v :: .ref a :: st) := by
  subst hw
  exact fun H locs ls hP hD hS hl2 => va_put (D := X.1) (cl := vwCl) (tys := tyX X) cx.1 cx.2.1 cx.2.2.2.2.1 hin ty0 hty hnm cx.2.2.2.1 cx.2.2.2.2.2.1.1 hP hD hS q0 he hc k hk (cx.2.2.2.2.1 _ hlink) (fun _ h9 => by rw [← hsame]; exact h9) hfin hd hn hfit hl hdg (fun H1 locs1 hP1 hD1 hS1 => kk H1 locs1 ls hP1 hD1 hS1 hl2)
theorem J_putN (cx : Cx p s m args meth c X A nL cc own) {C ref host : String} {T : u_T} {N ci index a : Nat} (hin : ∀ w ∈ u_ws C T N, w ∈ GW) {ty0 : Nat → FieldType} (hty : ∀ k, k < N → parseFieldDescriptor (T k).2.2.1 = some (ty0 k)) (hnm : ∀ a, a < N → ∀ b, b < N → a ≠ b → (T a).2.1 ≠ (T b).2.1) (q0 : Nat) {fs : List Value} (he : ws[q0]? = some (a, .inr (ci, fs))) (hc : vwCl[ci]? = some (C, T, N)) (k : Nat) (hk : k < N) (hlink : Cond.fieldLinkNest own index ref (T k).2.1 (T k).2.2.1 host ∈ NL) (hsame : (T k).1 = ref) (hfin : (T k).2.2.2 = false) {ty : FieldType} {v : Value} (hd : parseFieldDescriptor (T k).2.2.1 = some ty) (hn : narrow ty v = v) (hfit : fits ty v = true) (hl : k < fs.length) (hw : ws.set q0 (a, .inr (ci, fs.set k v)) = ws')
    (hdg : decode cc pc = .ok (.putfield index, 3)) (kk : J p l e R s m args below meth c X A nL cells slots Q ws' lv (pc + 3) st) : J p l e R s m args below meth c X A nL cells slots Q ws lv pc (v :: .ref a :: st) := by
  subst hw
  exact fun H locs ls hP hD hS hl2 => va_putN (D := X.1) (cl := vwCl) (tys := tyX X) cx.1 cx.2.1 cx.2.2.2.2.1 hin ty0 hty hnm cx.2.2.2.1 cx.2.2.2.2.2.1.1 hP hD hS q0 he hc k hk (va_Nw.use rfl (cx.2.2.2.2.2.1.2 _ hlink)) (fun _ h9 => by rw [← hsame]; exact h9) hfin hd hn hfit hl hdg (fun H1 locs1 hP1 hD1 hS1 => kk H1 locs1 ls hP1 hD1 hS1 hl2)
theorem J_putF (cx : Cx p s m args meth c X A nL cc own) {C ref : String} {T : u_T} {N ci index a : Nat} (hin : ∀ w ∈ u_ws C T N, w ∈ GW) {ty0 : Nat → FieldType} (hty : ∀ k, k < N → parseFieldDescriptor (T k).2.2.1 = some (ty0 k)) (hnm : ∀ a, a < N → ∀ b, b < N → a ≠ b → (T a).2.1 ≠ (T b).2.1) (q0 : Nat) {fs : List Value} (he : ws[q0]? = some (a, .inr (ci, fs))) (hc : vwCl[ci]? = some (C, T, N)) (k : Nat) (hk : k < N) (hlink : Cond.fieldLink own index ref (T k).2.1 (T k).2.2.1 ∈ GW) (hsame : (T k).1 = ref) (hfin : (T k).2.2.2 = true) (hin2 : meth.name = "<init>") (hdecl : (T k).1 = own) {ty : FieldType} {v : Value} (hd : parseFieldDescriptor (T k).2.2.1 = some ty) (hn : narrow ty v = v) (hfit : fits ty v = true) (hl : k < fs.length) (hw : ws.set q0 (a, .inr (ci, fs.set k v)) = ws')
    (hdg : decode cc pc = .ok (.putfield index, 3)) (kk : J p l e R s m args below meth c X A nL cells slots Q ws' lv (pc + 3) st) : J p l e R s m args below meth c X A nL cells slots Q ws lv pc (v :: .ref a :: st) := by
  subst hw
  exact fun H locs ls hP hD hS hl2 => va_putF (D := X.1) (cl := vwCl) (tys := tyX X) cx.1 cx.2.1 cx.2.2.2.2.1 hin ty0 hty hnm cx.2.2.2.1 cx.2.2.2.2.2.1.1 hP hD hS q0 he hc k hk (cx.2.2.2.2.1 _ hlink) (fun _ h9 => by rw [← hsame]; exact h9) hfin hin2 hdecl hd hn hfit hl hdg (fun H1 locs1 hP1 hD1 hS1 => kk H1 locs1 ls hP1 hD1 hS1 hl2)
theorem J_iald (cx : Cx p s m args meth c X A nL cc own) (q0 : Nat) {n a : Nat} {f : Int → Int} (ha : ws[q0]? = some (a, .inl (X.2.1, n, .inl (aI f)))) {i : Int} (hi : 0 ≤ i ∧ i < (n : Int)) (hn : (n : Int) < 2147483648) (hdg : decode cc pc = .ok (.iaload, 1)) (kk : J p l e R s m args below meth c X A nL cells slots Q ws lv (pc + 1) (.int (iI (f i)) :: st)) : J p l e R s m args below meth c X A nL cells slots Q ws lv pc (.int (iI i) :: .ref a :: st) :=
  fun H locs ls hP hD hS hl => va_iald (D := X.1) (cl := vwCl) (tys := tyX X) cx.1 cx.2.1 cx.2.2.2.2.2.1.1 hP q0 0 ha rfl (iI_in hi hn) hdg (by rw [aI_rd (by omega)]; exact kk H locs ls hP hD hS hl)
theorem J_bald (cx : Cx p s m args meth c X A nL cc own) (q0 : Nat) {n a : Nat} {f : Int → Int} (ha : ws[q0]? = some (a, .inl (X.2.2, n, .inl (aI f)))) {i : Int} (hi : 0 ≤ i ∧ i < (n : Int)) (hn : (n : Int) < 2147483648) (hdg : decode cc pc = .ok (.baload, 1)) (kk : J p l e R s m args below meth c X A nL cells slots Q ws lv (pc + 1) (.int (iI (f i)) :: st)) : J p l e R s m args below meth c X A nL cells slots Q ws lv pc (.int (iI i) :: .ref a :: st) :=
  fun H locs ls hP hD hS hl => va_bald (D := X.1) (cl := vwCl) (tys := tyX X) cx.1 cx.2.1 cx.2.2.2.2.2.1.1 hP q0 1 ha rfl (iI_in hi hn) hdg (by rw [aI_rd (by omega)]; exact kk H locs ls hP hD hS hl)
theorem J_iast (cx : Cx p s m args meth c X A nL cc own) (q0 : Nat) {n a : Nat} {f : Int → Int} (ha : ws[q0]? = some (a, .inl (X.2.1, n, .inl (aI f)))) {i x : Int} (hi : 0 ≤ i ∧ i < (n : Int)) (hn : (n : Int) < 2147483648) (hw : ws.set q0 (a, .inl (X.2.1, n, .inl (aI (upI f i x)))) = ws') (hdg : decode cc pc = .ok (.iastore, 1)) (kk : J p l e R s m args below meth c X A nL cells slots Q ws' lv (pc + 1) st) : J p l e R s m args below meth c X A nL cells slots Q ws lv pc (.int (iI x) :: .int (iI i) :: .ref a :: st) := by
  subst hw
  exact fun H locs ls hP hD hS hl => va_iast (D := X.1) (cl := vwCl) (tys := tyX X) cx.1 cx.2.1 cx.2.2.2.2.2.1.1 hP hD hS q0 0 ha rfl (iI_in hi hn) hdg (fun H1 locs1 hP1 hD1 hS1 => by rw [aI_up (by omega)] at hP1 hD1; exact kk H1 locs1 ls hP1 hD1 hS1 hl)
theorem J_bast (cx : Cx p s m args meth c X A nL cc own) (q0 : Nat) {n a : Nat} {f : Int → Int} (ha : ws[q0]? = some (a, .inl (X.2.2, n, .inl (aI f)))) {i x : Int} (hi : 0 ≤ i ∧ i < (n : Int)) (hn : (n : Int) < 2147483648) (hw : ws.set q0 (a, .inl (X.2.2, n, .inl (aI (upI f i (w8 x))))) = ws') (hdg : decode cc pc = .ok (.bastore, 1)) (kk : J p l e R s m args below meth c X A nL cells slots Q ws' lv (pc + 1) st) : J p l e R s m args below meth c X A nL cells slots Q ws lv pc (.int (iI x) :: .int (iI i) :: .ref a :: st) := by
  subst hw
  exact fun H locs ls hP hD hS hl => va_bast (D := X.1) (cl := vwCl) (tys := tyX X) cx.1 cx.2.1 cx.2.2.2.2.2.1.1 hP hD hS q0 1 ha rfl (iI_in hi hn) hdg (fun H1 locs1 hP1 hD1 hS1 => by rw [iI_nar8, aI_up (by omega)] at hP1 hD1; exact kk H1 locs1 ls hP1 hD1 hS1 hl)
/-! ends -/
theorem J_iret (cx : Cx p s m args meth c X A nL cc own) {post : Option Value → va_W → Prop} {v : Int} (hr : meth.sig.returnType = some .int) (hdg : decode cc pc = .ok (.ireturn, 1)) (hp : post (some (.int (iI v))) ws) : J p l e R s m args below meth c X A nL cells slots (MQ below (Qg X post A) args s cells slots A) ws lv pc [.int (iI v)] :=
  fun H locs ls hP hD hS hl => W.iret cx.1 cx.2.1 hr (fun t ht _ => ⟨⟨_, ws, rfl, hp, by rw [ht]; exact hP, hD⟩, hS.F ht⟩) hS.2.2 hdg cx.2.2.2.2.2.2.2
theorem J_zret (cx : Cx p s m args meth c X A nL cc own) {post : Option Value → va_W → Prop} {v : Int} (hr : meth.sig.returnType = some .boolean) (hv : v = 0 ∨ v = 1) (hdg : decode cc pc = .ok (.ireturn, 1)) (hp : post (some (.int (iI v))) ws) : J p l e R s m args below meth c X A nL cells slots (MQ below (Qg X post A) args s cells slots A) ws lv pc [.int (iI v)] :=
  fun H locs ls hP hD hS hl => W.zret cx.1 cx.2.1 hr (by rcases hv with rfl | rfl <;> decide) (fun t ht _ => ⟨⟨_, ws, rfl, hp, by rw [ht]; exact hP, hD⟩, hS.F ht⟩) hS.2.2 hdg cx.2.2.2.2.2.2.2
theorem J_lret (cx : Cx p s m args meth c X A nL cc own) {post : Option Value → va_W → Prop} {v : Int} (hr : meth.sig.returnType = some .long) (hdg : decode cc pc = .ok (.lreturn, 1)) (hp : post (some (.long (lI v))) ws) : J p l e R s m args below meth c X A nL cells slots (MQ below (Qg X post A) args s cells slots A) ws lv pc [.long (lI v)] :=
  fun H locs ls hP hD hS hl => W.lret cx.1 cx.2.1 hr (fun t ht _ => ⟨⟨_, ws, rfl, hp, by rw [ht]; exact hP, hD⟩, hS.F ht⟩) hS.2.2 hdg cx.2.2.2.2.2.2.2
theorem J_vret (cx : Cx p s m args meth c X A nL cc own) {post : Option Value → va_W → Prop} (hr : meth.sig.returnType = none) (hdg : decode cc pc = .ok (.return_, 1)) (hp : post none ws) : J p l e R s m args below meth c X A nL cells slots (MQ below (Qg X post A) args s cells slots A) ws lv pc [] :=
  fun H locs ls hP hD hS hl => W.vret cx.1 cx.2.1 hr (fun t ht _ => ⟨⟨_, ws, rfl, hp, by rw [ht]; exact hP, hD⟩, hS.F ht⟩) hS.2.2 hdg cx.2.2.2.2.2.2.2
/-! calls -/
theorem J_back {mc ms : Nat} {post : Option Value → va_W → Prop} {st0 rest : List Value} {a : Array Value} {wc wr : va_W} (hA : ∀ q : Nat, s.heap.size ≤ q → A q) (isC isR : List Nat) (hC : isC.map (fun i => ws[i]?) = wc.map some) (hR : isR.map (fun i => ws[i]?) = wr.map some) (hn : va_nd isR = true) (hdis : ∀ i ∈ isR, i ∉ isC) {H : Heap} {locs : List Loc} {ls : Array Slot} (hP : va_P X.1 vwCl ws H) (hD : va_D A ws) (hS : va_S A s.heap H locs) (hl : lv_has ls nL lv)
    (hr : va_Run p l e R s m args below meth c H locs cells slots mc ms (F0 m pc ls st0) rest (Qg X post (va_A wc H.size) a) (va_A wc H.size))
    (k : ∀ (v : Option Value) (u : va_W), post v u → J p l e R s m args below meth c X A nL (cells + mc) (slots + ms) Q (wr ++ u) lv (pc + 3) (v.toList ++ rest)) : W p l e R s m args below meth c H locs cells slots Q (F0 m pc ls st0) := by
  have hF := va_free (wc := wc) hD hS hA isC hC
  intro T hT X'
  obtain ⟨v, st₀, t, T', L, h0, X1, hL, e1, e2, ⟨⟨v', u, hv, hp, hb, hd⟩, hz, hk⟩, stp⟩ := hr T hT X'
  cases hv
  rw [h0] at hz hk
  rw [← e1] at hb hz
  have hk1 : ∀ q : Nat, q < H.size → ¬ va_A wc H.size q → T'.heap[q]? = H[q]? := fun q h1 h2 => by rw [e1]; exact hk q h1 h2
  obtain ⟨hP1, hD1⟩ := va_join (wr := wr) (w1 := u) hP hD isC isR hC hR hn hdis hk1 hF hb hd
  have hS1 : va_S A s.heap T'.heap (locs ++ L) := ⟨Nat.le_trans hS.1 hz, fun q h1 h2 => by rw [hk1 q (Nat.lt_of_lt_of_le h1 hS.1) (fun z => h2 (hF q z))]; exact hS.2.1 q h1 h2, fun q hq => by
    rcases List.mem_append.mp hq with h | h
    · exact hS.2.2 q h
    · exact hF _ (hL q h)⟩
  obtain ⟨t2, a1, b1⟩ := k v u hp T'.heap (locs ++ L) ls hP1 hD1 hS1 hl T' rfl X1
  exact ⟨t2, stp t2 a1, b1⟩
theorem GW_GW {y : MethodName} {b : ByteArray} {n : Nat} {ret : Option FieldType} (h : Cond.code y b n ret ∈ GW) : GoodIn GW (.code y b n ret :: GW) := by
  intro w hw
  rcases List.mem_cons.mp hw with rfl | hw
  · exact ⟨h, GW_good _ h⟩
  · exact ⟨hw, GW_good _ hw⟩
theorem Pg_in {Xs : GX} {av : List Value} {wc : va_W} {H : Heap} {U : State} (isC : List Nat) (hC : isC.map (fun i => ws[i]?) = wc.map some) (hC2 : isC.filterMap (fun i => ws[i]?) = wc) (hnd : va_nd isC = true) (hK : KX Xs s) (hP : va_P Xs.1 vwCl ws H) (hD : va_D A ws) (hU : U.heap = H) (hW : s.WarmedH U.vm) : Pg Xs av wc H.size av.toArray U :=
  ⟨rfl, by rw [hU], by rw [hU]; exact hP.sub isC hC2, KX.warm hW hK, (hD.sub isC hnd hC).weaken (fun _ _ _ _ => trivial)⟩
section calls
variable {y : MethodName} {b : ByteArray} {nC fr lo mc ms index n : Nat} {ret : Option FieldType} {post : Option Value → va_W → Prop} {wc : va_W} {As rest : List Value} {a : Nat}
theorem J_callV (cx : Cx p s m args meth c X A nL cc own) {C : String} {T : u_T} {N ci : Nat} {fs : List Value} (hM : Ct l y b nC ret fr lo mc ms X (.ref a :: As) wc post) (hcode : Cond.code y b nC ret ∈ GW) (hlink : Cond.methodLink own index y ∈ GW) (hinst : Cond.instanceMethod y ∈ GW) (hsel : Cond.selects C y y ∈ GW) (hini : Cond.initialized C ∈ GW) (hd : y.cls = C ∧ y.cls ≠ "java/lang/invoke/MethodHandle" ∧ y.cls ≠ "java/lang/invoke/VarHandle" ∧ (parseMethodDescriptor y.desc).map (fun d => d.parameters.length) = some n) (hn : As.length = n) (hroom : fr + 1 ≤ R.frames ∧ 8 + (nC + 11) + lo ≤ R.locals) (hrest : (rest.map fun v => v.category).sum ≤ 8) (hcs : cells + mc ≤ R.cells ∧ slots + ms ≤ R.slots)
    (isC isR : List Nat) (hC : isC.map (fun i => ws[i]?) = wc.map some) (hC2 : isC.filterMap (fun i => ws[i]?) = wc) (hndC : va_nd isC = true) (hR : isR.map (fun i => ws[i]?) = (isR.filterMap (fun i => ws[i]?)).map some) (hndR : va_nd isR = true) (hdis : ∀ i ∈ isR, i ∉ isC) (q0 : Nat) (he : ws[q0]? = some (a, .inr (ci, fs))) (hc : vwCl[ci]? = some (C, T, N)) (hdg : decode cc pc = .ok (.invokevirtual index, 3)) (hst : st = As.reverse ++ .ref a :: rest)
    (k : ∀ (v : Option Value) (u : va_W), post v u → J p l e R s m args below meth c X A nL (cells + mc) (slots + ms) Q (isR.filterMap (fun i => ws[i]?) ++ u) lv (pc + 3) (v.toList ++ rest)) : J p l e R s m args below meth c X A nL cells slots Q ws lv pc st := by
  subst hst
  intro H locs ls hP hD hS hl
  have hts := cx.2.2.2.2.1
  have cw : CallW R s args own C index y b nC ret (.code y b nC ret :: GW) { frames := fr, cells := mc, slots := ms, locals := lo } mc ms n := by
    obtain ⟨hC1, hd1⟩ := hd
    subst hC1
    exact ⟨callB_of n hts (GW_GW hcode) rfl rfl rfl (hts _ hini) (hts _ hlink) hd1 hroom, hts _ hinst, hts _ hsel⟩
  exact J_back cx.2.2.2.2.2.2.1 isC isR hC hR hndR hdis hP hD hS hl (va_runV ⟨cx.1, cx.2.1, cx.2.2.1, cx.2.2.2.1, hts⟩ (hM H.size) cw ⟨Pg_blind _ _ _ _, va_recv cx.2.2.2.2.2.1.1 hP hc he, fun U hU hW => Pg_in isC hC hC2 hndC cx.2.2.2.2.2.1 hP hD hU hW⟩ rfl hn hl.1 rfl (lv_room hrest) hdg hcs) k
theorem J_callVN (cx : Cx p s m args meth c X A nL cc own) {C host : String} {T : u_T} {N ci : Nat} {fs : List Value} (hM : Ct l y b nC ret fr lo mc ms X (.ref a :: As) wc post) (hcode : Cond.code y b nC ret ∈ GW) (hlink : Cond.methodLinkNest own index y host ∈ NL) (hinst : Cond.instanceMethod y ∈ GW) (hsel : Cond.selects C y y ∈ GW) (hini : Cond.initialized y.cls ∈ GW) (hd : y.cls ≠ "java/lang/invoke/MethodHandle" ∧ y.cls ≠ "java/lang/invoke/VarHandle" ∧ (parseMethodDescriptor y.desc).map (fun d => d.parameters.length) = some n) (hn : As.length = n) (hroom : fr + 1 ≤ R.frames ∧ 8 + (nC + 11) + lo ≤ R.locals) (hrest : (rest.map fun v => v.category).sum ≤ 8) (hcs : cells + mc ≤ R.cells ∧ slots + ms ≤ R.slots)
    (isC isR : List Nat) (hC : isC.map (fun i => ws[i]?) = wc.map some) (hC2 : isC.filterMap (fun i => ws[i]?) = wc) (hndC : va_nd isC = true) (hR : isR.map (fun i => ws[i]?) = (isR.filterMap (fun i => ws[i]?)).map some) (hndR : va_nd isR = true) (hdis : ∀ i ∈ isR, i ∉ isC) (q0 : Nat) (he : ws[q0]? = some (a, .inr (ci, fs))) (hc : vwCl[ci]? = some (C, T, N)) (hdg : decode cc pc = .ok (.invokevirtual index, 3)) (hst : st = As.reverse ++ .ref a :: rest)
    (k : ∀ (v : Option Value) (u : va_W), post v u → J p l e R s m args below meth c X A nL (cells + mc) (slots + ms) Q (isR.filterMap (fun i => ws[i]?) ++ u) lv (pc + 3) (v.toList ++ rest)) : J p l e R s m args below meth c X A nL cells slots Q ws lv pc st := by
  subst hst
  intro H locs ls hP hD hS hl
  have hts := cx.2.2.2.2.1
  exact J_back cx.2.2.2.2.2.2.1 isC isR hC hR hndR hdis hP hD hS hl (va_runVN (C := C) ⟨cx.1, cx.2.1, cx.2.2.1, cx.2.2.2.1, hts⟩ (hM H.size) ⟨va_cnB n hts (GW_GW hcode) rfl rfl rfl (cx.2.2.2.2.2.1.2 _ hlink) (hts _ hini) hd hroom, hts _ hinst, hts _ hsel⟩ ⟨Pg_blind _ _ _ _, va_recv cx.2.2.2.2.2.1.1 hP hc he, fun U hU hW => Pg_in isC hC hC2 hndC cx.2.2.2.2.2.1 hP hD hU hW⟩ rfl hn hl.1 rfl (lv_room hrest) hdg hcs) k
theorem J_callS (cx : Cx p s m args meth c X A nL cc own) (hM : Ct l y b nC ret fr lo mc ms X As wc post) (hcode : Cond.code y b nC ret ∈ GW) (hlink : Cond.methodLink own index y ∈ GW) (hstat : Cond.static y ∈ GW) (hini : Cond.initialized y.cls ∈ GW) (hd : y.cls ≠ "java/lang/invoke/MethodHandle" ∧ y.cls ≠ "java/lang/invoke/VarHandle" ∧ (parseMethodDescriptor y.desc).map (fun d => d.parameters.length) = some n) (hn : As.length = n) (hroom : fr + 1 ≤ R.frames ∧ 8 + (nC + 11) + lo ≤ R.locals) (hrest : (rest.map fun v => v.category).sum ≤ 8) (hcs : cells + mc ≤ R.cells ∧ slots + ms ≤ R.slots)
    (isC isR : List Nat) (hC : isC.map (fun i => ws[i]?) = wc.map some) (hC2 : isC.filterMap (fun i => ws[i]?) = wc) (hndC : va_nd isC = true) (hR : isR.map (fun i => ws[i]?) = (isR.filterMap (fun i => ws[i]?)).map some) (hndR : va_nd isR = true) (hdis : ∀ i ∈ isR, i ∉ isC) (hdg : decode cc pc = .ok (.invokestatic index, 3)) (hst : st = As.reverse ++ rest)
    (k : ∀ (v : Option Value) (u : va_W), post v u → J p l e R s m args below meth c X A nL (cells + mc) (slots + ms) Q (isR.filterMap (fun i => ws[i]?) ++ u) lv (pc + 3) (v.toList ++ rest)) : J p l e R s m args below meth c X A nL cells slots Q ws lv pc st := by
  subst hst
  intro H locs ls hP hD hS hl
  have hts := cx.2.2.2.2.1
  exact J_back cx.2.2.2.2.2.2.1 isC isR hC hR hndR hdis hP hD hS hl (va_runS ⟨cx.1, cx.2.1, cx.2.2.1, cx.2.2.2.1, hts⟩ (hM H.size) ⟨callB_of n hts (GW_GW hcode) rfl rfl rfl (hts _ hini) (hts _ hlink) hd hroom, hts _ hstat⟩ ⟨Pg_blind _ _ _ _, fun U hU hW => Pg_in isC hC hC2 hndC cx.2.2.2.2.2.1 hP hD hU hW⟩ rfl hn hl.1 rfl (lv_room hrest) hdg hcs) k
theorem J_callSN (cx : Cx p s m args meth c X A nL cc own) {host : String} (hM : Ct l y b nC ret fr lo mc ms X As wc post) (hcode : Cond.code y b nC ret ∈ GW) (hlink : Cond.methodLinkNest own index y host ∈ NL) (hstat : Cond.static y ∈ GW) (hini : Cond.initialized y.cls ∈ GW) (hd : y.cls ≠ "java/lang/invoke/MethodHandle" ∧ y.cls ≠ "java/lang/invoke/VarHandle" ∧ (parseMethodDescriptor y.desc).map (fun d => d.parameters.length) = some n) (hn : As.length = n) (hroom : fr + 1 ≤ R.frames ∧ 8 + (nC + 11) + lo ≤ R.locals) (hrest : (rest.map fun v => v.category).sum ≤ 8) (hcs : cells + mc ≤ R.cells ∧ slots + ms ≤ R.slots)
    (isC isR : List Nat) (hC : isC.map (fun i => ws[i]?) = wc.map some) (hC2 : isC.filterMap (fun i => ws[i]?) = wc) (hndC : va_nd isC = true) (hR : isR.map (fun i => ws[i]?) = (isR.filterMap (fun i => ws[i]?)).map some) (hndR : va_nd isR = true) (hdis : ∀ i ∈ isR, i ∉ isC) (hdg : decode cc pc = .ok (.invokestatic index, 3)) (hst : st = As.reverse ++ rest)
    (k : ∀ (v : Option Value) (u : va_W), post v u → J p l e R s m args below meth c X A nL (cells + mc) (slots + ms) Q (isR.filterMap (fun i => ws[i]?) ++ u) lv (pc + 3) (v.toList ++ rest)) : J p l e R s m args below meth c X A nL cells slots Q ws lv pc st := by
  subst hst
  intro H locs ls hP hD hS hl
  have hts := cx.2.2.2.2.1
  exact J_back cx.2.2.2.2.2.2.1 isC isR hC hR hndR hdis hP hD hS hl (va_runSN ⟨cx.1, cx.2.1, cx.2.2.1, cx.2.2.2.1, hts⟩ (hM H.size) ⟨va_cnB n hts (GW_GW hcode) rfl rfl rfl (cx.2.2.2.2.2.1.2 _ hlink) (hts _ hini) hd hroom, hts _ hstat, trivial⟩ ⟨Pg_blind _ _ _ _, fun U hU hW => Pg_in isC hC hC2 hndC cx.2.2.2.2.2.1 hP hD hU hW⟩ rfl hn hl.1 rfl (lv_room hrest) hdg hcs) k
theorem J_callI (cx : Cx p s m args meth c X A nL cc own) (hM : Ct l y b nC none fr lo mc ms X (.ref a :: As) wc post) (hcode : Cond.code y b nC none ∈ GW) (hlink : Cond.methodLink own index y ∈ GW) (hinst : Cond.instanceMethod y ∈ GW) (hy1 : y.name = "<init>") (hini : Cond.initialized y.cls ∈ GW) (hd : y.cls ≠ "java/lang/invoke/MethodHandle" ∧ y.cls ≠ "java/lang/invoke/VarHandle" ∧ (parseMethodDescriptor y.desc).map (fun d => d.parameters.length) = some n) (hn : As.length = n) (hroom : fr + 1 ≤ R.frames ∧ 8 + (nC + 11) + lo ≤ R.locals) (hrest : (rest.map fun v => v.category).sum ≤ 8) (hcs : cells + mc ≤ R.cells ∧ slots + ms ≤ R.slots)
    (isC isR : List Nat) (hC : isC.map (fun i => ws[i]?) = wc.map some) (hC2 : isC.filterMap (fun i => ws[i]?) = wc) (hndC : va_nd isC = true) (hR : isR.map (fun i => ws[i]?) = (isR.filterMap (fun i => ws[i]?)).map some) (hndR : va_nd isR = true) (hdis : ∀ i ∈ isR, i ∉ isC) (hdg : decode cc pc = .ok (.invokespecial index, 3)) (hst : st = As.reverse ++ .ref a :: rest)
    (k : ∀ (v : Option Value) (u : va_W), post v u → J p l e R s m args below meth c X A nL (cells + mc) (slots + ms) Q (isR.filterMap (fun i => ws[i]?) ++ u) lv (pc + 3) (v.toList ++ rest)) : J p l e R s m args below meth c X A nL cells slots Q ws lv pc st := by
  subst hst
  intro H locs ls hP hD hS hl
  have hts := cx.2.2.2.2.1
  exact J_back cx.2.2.2.2.2.2.1 isC isR hC hR hndR hdis hP hD hS hl (va_runI ⟨cx.1, cx.2.1, cx.2.2.1, cx.2.2.2.1, hts⟩ (hM H.size) ⟨callB_of n hts (GW_GW hcode) rfl rfl rfl (hts _ hini) (hts _ hlink) hd hroom, hy1, hts _ hinst⟩ ⟨Pg_blind _ _ _ _, fun U hU hW => Pg_in isC hC hC2 hndC cx.2.2.2.2.2.1 hP hD hU hW⟩ rfl hn hl.1 rfl (lv_room hrest) hdg hcs) k
theorem J_callIN (cx : Cx p s m args meth c X A nL cc own) {host : String} (hM : Ct l y b nC none fr lo mc ms X (.ref a :: As) wc post) (hcode : Cond.code y b nC none ∈ GW) (hlink : Cond.methodLinkNest own index y host ∈ NL) (hinst : Cond.instanceMethod y ∈ GW) (hy1 : y.name = "<init>") (hini : Cond.initialized y.cls ∈ GW) (hd : y.cls ≠ "java/lang/invoke/MethodHandle" ∧ y.cls ≠ "java/lang/invoke/VarHandle" ∧ (parseMethodDescriptor y.desc).map (fun d => d.parameters.length) = some n) (hn : As.length = n) (hroom : fr + 1 ≤ R.frames ∧ 8 + (nC + 11) + lo ≤ R.locals) (hrest : (rest.map fun v => v.category).sum ≤ 8) (hcs : cells + mc ≤ R.cells ∧ slots + ms ≤ R.slots)
    (isC isR : List Nat) (hC : isC.map (fun i => ws[i]?) = wc.map some) (hC2 : isC.filterMap (fun i => ws[i]?) = wc) (hndC : va_nd isC = true) (hR : isR.map (fun i => ws[i]?) = (isR.filterMap (fun i => ws[i]?)).map some) (hndR : va_nd isR = true) (hdis : ∀ i ∈ isR, i ∉ isC) (hdg : decode cc pc = .ok (.invokespecial index, 3)) (hst : st = As.reverse ++ .ref a :: rest)
    (k : ∀ (v : Option Value) (u : va_W), post v u → J p l e R s m args below meth c X A nL (cells + mc) (slots + ms) Q (isR.filterMap (fun i => ws[i]?) ++ u) lv (pc + 3) (v.toList ++ rest)) : J p l e R s m args below meth c X A nL cells slots Q ws lv pc st := by
  subst hst
  intro H locs ls hP hD hS hl
  have hts := cx.2.2.2.2.1
  exact J_back cx.2.2.2.2.2.2.1 isC isR hC hR hndR hdis hP hD hS hl (va_runIN ⟨cx.1, cx.2.1, cx.2.2.1, cx.2.2.2.1, hts⟩ (hM H.size) ⟨va_cnB n hts (GW_GW hcode) rfl rfl rfl (cx.2.2.2.2.2.1.2 _ hlink) (hts _ hini) hd hroom, hy1, hts _ hinst⟩ ⟨Pg_blind _ _ _ _, fun U hU hW => Pg_in isC hC hC2 hndC cx.2.2.2.2.2.1 hP hD hU hW⟩ rfl hn hl.1 rfl (lv_room hrest) hdg hcs) k
end calls
end JL
end
section
/-! The document's numbers, as both sides compute them -/
def smpB (v : Int) : Int := if -32768 ≤ v ∧ v ≤ 32767 then 1 else 0
def nbits (k v : Int) : Int := v / p2 k + 1 + k
def foldI (v : Int) : Int := if v < 0 then -2 * v - 1 else 2 * v
def unfI (u : Int) : Int := if u % 2 = 0 then u / 2 else -(u / 2) - 1
def rmean (sum m : Int) : Int := (sum + m / 2) / m
def mnI (a b : Int) : Int := if b < a then b else a
def bef (f : Int → Int) (p : Int) : Int := if p < 0 then 0 else f p
def smpA (f : Int → Int) (n p : Int) : Int := if p < 0 ∨ n ≤ p then 0 else f p
def tah (f : Int → Int) (ch fn p mean : Int) : Int :=
  if fn = 1 then bef f (p - ch) else if fn = 2 then 2 * bef f (p - ch) - bef f (p - 2 * ch)
  else if fn = 3 then 3 * bef f (p - ch) - 3 * bef f (p - 2 * ch) + bef f (p - 3 * ch) else mean
def bfirst (ch bl i : Int) : Int := i / ch * bl * ch + i % ch
def bsize (ch bl many i : Int) : Int := mnI bl (many - i / ch * bl)
def nblk (ch bl many : Int) : Int := (many + bl - 1) / bl * ch
def bsumN (f : Int → Int) (ch p : Int) : Nat → Int
  | 0 => 0
  | j + 1 => bsumN f ch p j + f (p + j * ch)
def bsum (f : Int → Int) (ch p m : Int) : Int := bsumN f ch p m.toNat
def bmean (f : Int → Int) (ch bl many i : Int) : Int := rmean (bsum f ch (bfirst ch bl i) (bsize ch bl many i)) (bsize ch bl many i)
def mb (mf : Int → Int) (ch i k : Int) : Int := if i - k * ch < 0 then 0 else mf (i - k * ch)
def mahead (mf : Int → Int) (ch i : Int) : Int := rmean (mb mf ch i 1 + mb mf ch i 2 + mb mf ch i 3 + mb mf ch i 4) 4
def rst (f : Int → Int) (ch fn p mean : Int) : Int := foldI (f p - tah f ch fn p mean)
/-- the row of rests: m of them laid over an older row -/
def rests (o f : Int → Int) (ch fn p mean m : Int) : Int → Int := fun j => if 0 ≤ j ∧ j < m then rst f ch fn (p + j * ch) mean else o j
def zsumN (r : Int → Int) (k : Int) : Nat → Int
  | 0 => 0
  | j + 1 => zsumN r k j + r j / p2 k
def zsum (r : Int → Int) (k m : Int) : Int := zsumN r k m.toNat
def bcost (fn k z m : Int) : Int := nbits 2 fn + nbits 3 k + z + m * (1 + k)
/-- the cost of block i with function and k -/
def cost (f : Int → Int) (ch bl many mean i fn k : Int) : Int :=
  bcost fn k (zsum (fun j => rst f ch fn (bfirst ch bl i + j * ch) mean) k (bsize ch bl many i)) (bsize ch bl many i)
def cstep (c : Int → Int → Int) (fn k : Int) (s : Int × Int × Int) : Int × Int × Int := if c fn k < s.2.2 then (fn, k, c fn k) else s
def cbestN (c : Int → Int → Int) : Nat → Int × Int × Int
  | 0 => (4, -1, 2147483647)
  | n + 1 => cstep c ((n / 16 : Nat) : Int) ((n % 16 : Nat) : Int) (cbestN c n)
def cbest (c : Int → Int → Int) (fn k : Int) : Int × Int × Int := cbestN c (16 * fn + k).toNat
/-! rows of bits -/
abbrev BB : Type := (Int → Int) × Int
def pbit (b : Int) (x : BB) : BB := (upI x.1 x.2 b, x.2 + 1)
def pzer : Nat → BB → BB
  | 0, x => x
  | n + 1, x => pbit 0 (pzer n x)
def plow (v : Int) : Nat → BB → BB
  | 0, x => x
  | k + 1, x => plow v k (pbit (v / p2 k % 2) x)
def pnum (k v : Int) (x : BB) : BB := plow v k.toNat (pbit 1 (pzer (v / p2 k).toNat x))
def prestN (r : Int → Int) (k : Int) : Nat → BB → BB
  | 0, x => x
  | j + 1, x => pnum k (r j) (prestN r k j x)
def prest (r : Int → Int) (k m : Int) (x : BB) : BB := prestN r k m.toNat x
def pkN (w : Int → Int) (s : Int) : Nat → Int
  | 0 => 0
  | k + 1 => 2 * pkN w s k + w (s + k)
def pk (w : Int → Int) (s k : Int) : Int := pkN w s k.toNat
/-- bytes out of bits, over an older row -/
def rowOf (o w : Int → Int) (n : Int) : Int → Int := fun j => if 0 ≤ j ∧ j < n / 8 then w8 (pk w (8 * j) 8) else o j
def cpyI (f g : Int → Int) (n : Int) : Int → Int := fun j => if 0 ≤ j ∧ j < n then f j else g j
/-! reading -/
def cbit (b : Int → Int) (t : Int) : Int := b (t / 8) / p2 (7 - t % 8) % 2
def fzN (b : Int → Int) : Nat → Int → Int
  | 0, p => p
  | n + 1, p => if cbit b p = 0 then fzN b n (p + 1) else p
def fz (b : Int → Int) (E p : Int) : Int := fzN b (E - p).toNat p
def nnv (b : Int → Int) (E p k : Int) : Int := if E - (fz b E p + 1) < k then -1 else (fz b E p - p) * p2 k + pk (cbit b) (fz b E p + 1) k
def nnp (b : Int → Int) (E p k : Int) : Int := if E - (fz b E p + 1) < k then fz b E p + 1 else fz b E p + 1 + k
def judgeE (E p v lo hi : Int) : Int := if v = -1 then E else if v < lo ∨ hi < v then p else -1
theorem bsum_0 (f : Int → Int) (ch p : Int) : bsum f ch p 0 = 0 := rfl
theorem bsum_s {f : Int → Int} {ch p j : Int} (h : 0 ≤ j) : bsum f ch p (j + 1) = bsum f ch p j + f (p + j * ch) := by
  unfold bsum
  have e : (j + 1).toNat = j.toNat + 1 := by omega
  rw [e, bsumN, Int.toNat_of_nonneg h]
theorem zsum_0 (r : Int → Int) (k : Int) : zsum r k 0 = 0 := rfl
theorem zsum_s {r : Int → Int} {k j : Int} (h : 0 ≤ j) : zsum r k (j + 1) = zsum r k j + r j / p2 k := by
  unfold zsum
  have e : (j + 1).toNat = j.toNat + 1 := by omega
  rw [e, zsumN, Int.toNat_of_nonneg h]
theorem prest_0 (r : Int → Int) (k : Int) (x : BB) : prest r k 0 x = x := rfl
theorem prest_s {r : Int → Int} {k j : Int} {x : BB} (h : 0 ≤ j) : prest r k (j + 1) x = pnum k (r j) (prest r k j x) := by
  unfold prest
  have e : (j + 1).toNat = j.toNat + 1 := by omega
  rw [e, prestN, Int.toNat_of_nonneg h]
theorem pk_0 (w : Int → Int) (s : Int) : pk w s 0 = 0 := rfl
theorem pk_s {w : Int → Int} {s k : Int} (h : 0 ≤ k) : pk w s (k + 1) = 2 * pk w s k + w (s + k) := by
  unfold pk
  have e : (k + 1).toNat = k.toNat + 1 := by omega
  rw [e, pkN, Int.toNat_of_nonneg h]
theorem pzer_s' (n : Nat) (x : BB) : pzer (n + 1) x = pzer n (pbit 0 x) := by
  induction n with
  | zero => rfl
  | succ n ih => rw [pzer, ih, pzer]
theorem pzer_n (n : Nat) (x : BB) : (pzer n x).2 = x.2 + n := by
  induction n with
  | zero => simp [pzer]
  | succ n ih => simp only [pzer, pbit, ih]; omega
theorem plow_n (v : Int) (k : Nat) (x : BB) : (plow v k x).2 = x.2 + k := by
  induction k generalizing x with
  | zero => simp [plow]
  | succ k ih => simp only [plow, ih, pbit]; omega
theorem plow_0 (k : Nat) (x : BB) : plow 0 k x = pzer k x := by
  induction k generalizing x with
  | zero => rfl
  | succ k ih => rw [plow, ih, pzer_s', show (0 : Int) / p2 (k : Int) % 2 = 0 by simp]
theorem pnum_n {k v : Int} (hk : 0 ≤ k) (hv : 0 ≤ v) (x : BB) : (pnum k v x).2 = x.2 + nbits k v := by
  unfold pnum nbits
  have h := Int.ediv_nonneg hv (Int.le_of_lt (p2_pos k))
  rw [plow_n, pbit, pzer_n]
  show x.2 + ((v / p2 k).toNat : Int) + 1 + (k.toNat : Int) = _
  omega
/-- all bits are bits -/
def b01 (w : Int → Int) : Prop := ∀ t, w t = 0 ∨ w t = 1
theorem pbit_01 {b : Int} {x : BB} (h : b01 x.1) (hb : b = 0 ∨ b = 1) : b01 (pbit b x).1 := by
  intro t
  by_cases ht : t = x.2
  · subst ht; show upI x.1 x.2 b x.2 = 0 ∨ upI x.1 x.2 b x.2 = 1; rw [upI_s]; exact hb
  · show upI x.1 x.2 b t = 0 ∨ upI x.1 x.2 b t = 1
    rw [upI_n ht]; exact h t
theorem pzer_01 {x : BB} (n : Nat) (h : b01 x.1) : b01 (pzer n x).1 := by
  induction n with
  | zero => exact h
  | succ n ih => exact pbit_01 ih (Or.inl rfl)
theorem plow_01 {x : BB} (v : Int) (n : Nat) (h : b01 x.1) : b01 (plow v n x).1 := by
  induction n generalizing x with
  | zero => exact h
  | succ n ih => exact ih (pbit_01 h (by omega))
theorem pnum_01 {x : BB} (k v : Int) (h : b01 x.1) : b01 (pnum k v x).1 := plow_01 _ _ (pbit_01 (pzer_01 _ h) (Or.inr rfl))
theorem pk_cg {w w' : Int → Int} {s : Int} : ∀ (k : Nat), (∀ j : Int, s ≤ j → j < s + k → w j = w' j) → pkN w s k = pkN w' s k
  | 0, _ => rfl
  | k + 1, h => by
    rw [pkN, pkN, pk_cg k (fun j h1 h2 => h j h1 (by omega)), h (s + k) (by omega) (by omega)]
theorem pk_rng {w : Int → Int} (h : b01 w) (s : Int) (k : Nat) : 0 ≤ pkN w s k ∧ pkN w s k < 2 ^ k := by
  induction k with
  | zero => exact ⟨Int.le_refl _, by show (0 : Int) < 2 ^ 0; decide⟩
  | succ k ih =>
    rw [pkN, Int.pow_succ]
    rcases h (s + k) with e | e <;> rw [e] <;> omega
end
section
theorem T0 : (Jvm.Cond.initialized "BlockSoundLaw") ∈ GW := GW_of (List.mem_append_right _ (List.mem_append_left _ (List.mem_of_getElem? (i := 0) rfl))) rfl
theorem T1 : (Jvm.Cond.initialized "BlockSound") ∈ GW := GW_of (List.mem_append_right _ (List.mem_append_left _ (List.mem_of_getElem? (i := 1) rfl))) rfl
theorem T2 : (Jvm.Cond.initialized "BlockSound$Sound") ∈ GW := GW_of (List.mem_append_right _ (List.mem_append_left _ (List.mem_of_getElem? (i := 2) rfl))) rfl
theorem T3 : (Jvm.Cond.initialized "BlockSound$StreamWriter") ∈ GW := GW_of (List.mem_append_right _ (List.mem_append_left _ (List.mem_of_getElem? (i := 3) rfl))) rfl
theorem T4 : (Jvm.Cond.initialized "BlockSound$Means") ∈ GW := GW_of (List.mem_append_right _ (List.mem_append_left _ (List.mem_of_getElem? (i := 4) rfl))) rfl
theorem T5 : (Jvm.Cond.initialized "BlockSound$BitWriter") ∈ GW := GW_of (List.mem_append_right _ (List.mem_append_left _ (List.mem_of_getElem? (i := 5) rfl))) rfl
theorem T6 : (Jvm.Cond.initialized "BlockSound$ByteRow") ∈ GW := GW_of (List.mem_append_right _ (List.mem_append_left _ (List.mem_of_getElem? (i := 6) rfl))) rfl
theorem T7 : (Jvm.Cond.initialized "BlockSound$StreamReader") ∈ GW := GW_of (List.mem_append_right _ (List.mem_append_left _ (List.mem_of_getElem? (i := 7) rfl))) rfl
theorem T8 : (Jvm.Cond.initialized "BlockSound$BitReader") ∈ GW := GW_of (List.mem_append_right _ (List.mem_append_left _ (List.mem_of_getElem? (i := 8) rfl))) rfl
theorem T9 : (Jvm.Cond.initialized "BlockSoundModel") ∈ GW := GW_of (List.mem_append_right _ (List.mem_append_left _ (List.mem_of_getElem? (i := 9) rfl))) rfl
theorem T10 : (Jvm.Cond.initialized "java/lang/System") ∈ GW := GW_of (List.mem_append_right _ (List.mem_append_left _ (List.mem_of_getElem? (i := 10) rfl))) rfl
theorem T11 : (Jvm.Cond.initialized "java/lang/Math") ∈ GW := GW_of (List.mem_append_right _ (List.mem_append_left _ (List.mem_of_getElem? (i := 11) rfl))) rfl
theorem T12 : (Jvm.Cond.classLink "BlockSoundLaw" (7 : Nat) "BlockSound") ∈ GW := GW_of (List.mem_append_right _ (List.mem_append_left _ (List.mem_of_getElem? (i := 12) rfl))) rfl
theorem T13 : (Jvm.Cond.instantiable "BlockSound" (5 : Nat)) ∈ GW := GW_of (List.mem_append_right _ (List.mem_append_left _ (List.mem_of_getElem? (i := 13) rfl))) rfl
theorem T14 : (Jvm.Cond.methodLink "BlockSoundLaw" (9 : Nat) ({ cls := "BlockSound", name := "<init>", desc := "()V" } : Jvm.MethodName)) ∈ GW := GW_of (List.mem_append_right _ (List.mem_append_left _ (List.mem_of_getElem? (i := 14) rfl))) rfl
theorem T15 : (Jvm.Cond.instanceMethod ({ cls := "BlockSound", name := "<init>", desc := "()V" } : Jvm.MethodName)) ∈ GW := GW_of (List.mem_append_right _ (List.mem_append_left _ (List.mem_of_getElem? (i := 15) rfl))) rfl
theorem T16 : (Jvm.Cond.code ({ cls := "BlockSound", name := "<init>", desc := "()V" } : Jvm.MethodName) prog_1_method_1_code (1 : Nat) (Option.none : Option Jvm.ClassFile.FieldType)) ∈ GW := GW_of (List.mem_append_right _ (List.mem_append_left _ (List.mem_of_getElem? (i := 16) rfl))) rfl
theorem T17 : (Jvm.Cond.methodLink "BlockSound" (3 : Nat) ({ cls := "java/lang/Object", name := "<init>", desc := "()V" } : Jvm.MethodName)) ∈ GW := GW_of (List.mem_append_right _ (List.mem_append_left _ (List.mem_of_getElem? (i := 17) rfl))) rfl
theorem T18 : (Jvm.Cond.instanceMethod ({ cls := "java/lang/Object", name := "<init>", desc := "()V" } : Jvm.MethodName)) ∈ GW := GW_of (List.mem_append_right _ (List.mem_append_left _ (List.mem_of_getElem? (i := 18) rfl))) rfl
theorem T19 : (Jvm.Cond.code ({ cls := "java/lang/Object", name := "<init>", desc := "()V" } : Jvm.MethodName) object_method_1_code (1 : Nat) (Option.none : Option Jvm.ClassFile.FieldType)) ∈ GW := GW_of (List.mem_append_right _ (List.mem_append_left _ (List.mem_of_getElem? (i := 19) rfl))) rfl
theorem T20 : (Jvm.Cond.classLink "BlockSound" (9 : Nat) "BlockSound$Sound") ∈ GW := GW_of (List.mem_append_right _ (List.mem_append_left _ (List.mem_of_getElem? (i := 20) rfl))) rfl
theorem T21 : (Jvm.Cond.instantiable "BlockSound$Sound" (4 : Nat)) ∈ GW := GW_of (List.mem_append_right _ (List.mem_append_left _ (List.mem_of_getElem? (i := 21) rfl))) rfl
theorem T22 : (Jvm.Cond.methodLink "BlockSound" (11 : Nat) ({ cls := "BlockSound$Sound", name := "<init>", desc := "(II)V" } : Jvm.MethodName)) ∈ GW := GW_of (List.mem_append_right _ (List.mem_append_left _ (List.mem_of_getElem? (i := 22) rfl))) rfl
theorem T23 : (Jvm.Cond.instanceMethod ({ cls := "BlockSound$Sound", name := "<init>", desc := "(II)V" } : Jvm.MethodName)) ∈ GW := GW_of (List.mem_append_right _ (List.mem_append_left _ (List.mem_of_getElem? (i := 23) rfl))) rfl
theorem T24 : (Jvm.Cond.code ({ cls := "BlockSound$Sound", name := "<init>", desc := "(II)V" } : Jvm.MethodName) prog_6_method_1_code (3 : Nat) (Option.none : Option Jvm.ClassFile.FieldType)) ∈ GW := GW_of (List.mem_append_right _ (List.mem_append_left _ (List.mem_of_getElem? (i := 24) rfl))) rfl
theorem T25 : (Jvm.Cond.methodLink "BlockSound$Sound" (3 : Nat) ({ cls := "java/lang/Object", name := "<init>", desc := "()V" } : Jvm.MethodName)) ∈ GW := GW_of (List.mem_append_right _ (List.mem_append_left _ (List.mem_of_getElem? (i := 25) rfl))) rfl
theorem T26 : (Jvm.Cond.fieldLink "BlockSound$Sound" (9 : Nat) "BlockSound$Sound" "samples" "[I") ∈ GW := GW_of (List.mem_append_right _ (List.mem_append_left _ (List.mem_of_getElem? (i := 26) rfl))) rfl
theorem T27 : (Jvm.Cond.fieldLink "BlockSound$Sound" (15 : Nat) "BlockSound$Sound" "channels" "I") ∈ GW := GW_of (List.mem_append_right _ (List.mem_append_left _ (List.mem_of_getElem? (i := 27) rfl))) rfl
theorem T28 : (Jvm.Cond.fieldLinkNest "BlockSound$StreamWriter" (67 : Nat) "BlockSound$Sound" "channels" "I" "BlockSound") ∈ NL := NL_of (List.mem_append_right _ (List.mem_append_left _ (List.mem_of_getElem? (i := 28) rfl))) rfl
theorem T29 : (Jvm.Cond.fieldLinkNest "BlockSound$Means" (28 : Nat) "BlockSound$Sound" "channels" "I" "BlockSound") ∈ NL := NL_of (List.mem_append_right _ (List.mem_append_left _ (List.mem_of_getElem? (i := 29) rfl))) rfl
theorem T30 : (Jvm.Cond.fieldLinkNest "BlockSound$StreamReader" (73 : Nat) "BlockSound$Sound" "channels" "I" "BlockSound") ∈ NL := NL_of (List.mem_append_right _ (List.mem_append_left _ (List.mem_of_getElem? (i := 30) rfl))) rfl
theorem T31 : (Jvm.Cond.fieldLinkNest "BlockSound" (123 : Nat) "BlockSound$Sound" "channels" "I" "BlockSound") ∈ NL := NL_of (List.mem_append_right _ (List.mem_append_left _ (List.mem_of_getElem? (i := 31) rfl))) rfl
theorem T32 : (Jvm.Cond.fieldLink "BlockSound$Sound" (19 : Nat) "BlockSound$Sound" "blockLength" "I") ∈ GW := GW_of (List.mem_append_right _ (List.mem_append_left _ (List.mem_of_getElem? (i := 32) rfl))) rfl
theorem T33 : (Jvm.Cond.fieldLinkNest "BlockSound$StreamWriter" (73 : Nat) "BlockSound$Sound" "blockLength" "I" "BlockSound") ∈ NL := NL_of (List.mem_append_right _ (List.mem_append_left _ (List.mem_of_getElem? (i := 33) rfl))) rfl
theorem T34 : (Jvm.Cond.fieldLink "BlockSound$Sound" (22 : Nat) "BlockSound$Sound" "size" "I") ∈ GW := GW_of (List.mem_append_right _ (List.mem_append_left _ (List.mem_of_getElem? (i := 34) rfl))) rfl
theorem T35 : (Jvm.Cond.fieldLinkNest "BlockSound" (64 : Nat) "BlockSound$Sound" "size" "I" "BlockSound") ∈ NL := NL_of (List.mem_append_right _ (List.mem_append_left _ (List.mem_of_getElem? (i := 35) rfl))) rfl
theorem T45 : (Jvm.Cond.arrayClass Jvm.ClassFile.FieldType.int) ∈ GW := GW_of (List.mem_append_right _ (List.mem_append_left _ (List.mem_of_getElem? (i := 45) rfl))) rfl
theorem T46 : (Jvm.Cond.classLink "BlockSound" (18 : Nat) "BlockSound$StreamWriter") ∈ GW := GW_of (List.mem_append_right _ (List.mem_append_left _ (List.mem_of_getElem? (i := 46) rfl))) rfl
theorem T47 : (Jvm.Cond.instantiable "BlockSound$StreamWriter" (8 : Nat)) ∈ GW := GW_of (List.mem_append_right _ (List.mem_append_left _ (List.mem_of_getElem? (i := 47) rfl))) rfl
theorem T48 : (Jvm.Cond.methodLinkNest "BlockSound" (20 : Nat) ({ cls := "BlockSound$StreamWriter", name := "<init>", desc := "()V" } : Jvm.MethodName) "BlockSound") ∈ NL := NL_of (List.mem_append_right _ (List.mem_append_left _ (List.mem_of_getElem? (i := 48) rfl))) rfl
theorem T49 : (Jvm.Cond.instanceMethod ({ cls := "BlockSound$StreamWriter", name := "<init>", desc := "()V" } : Jvm.MethodName)) ∈ GW := GW_of (List.mem_append_right _ (List.mem_append_left _ (List.mem_of_getElem? (i := 49) rfl))) rfl
theorem T50 : (Jvm.Cond.code ({ cls := "BlockSound$StreamWriter", name := "<init>", desc := "()V" } : Jvm.MethodName) prog_8_method_1_code (1 : Nat) (Option.none : Option Jvm.ClassFile.FieldType)) ∈ GW := GW_of (List.mem_append_right _ (List.mem_append_left _ (List.mem_of_getElem? (i := 50) rfl))) rfl
theorem T51 : (Jvm.Cond.methodLink "BlockSound$StreamWriter" (3 : Nat) ({ cls := "java/lang/Object", name := "<init>", desc := "()V" } : Jvm.MethodName)) ∈ GW := GW_of (List.mem_append_right _ (List.mem_append_left _ (List.mem_of_getElem? (i := 51) rfl))) rfl
theorem T52 : (Jvm.Cond.classLink "BlockSound$StreamWriter" (9 : Nat) "BlockSound$Sound") ∈ GW := GW_of (List.mem_append_right _ (List.mem_append_left _ (List.mem_of_getElem? (i := 52) rfl))) rfl
theorem T53 : (Jvm.Cond.methodLink "BlockSound$StreamWriter" (11 : Nat) ({ cls := "BlockSound$Sound", name := "<init>", desc := "(II)V" } : Jvm.MethodName)) ∈ GW := GW_of (List.mem_append_right _ (List.mem_append_left _ (List.mem_of_getElem? (i := 53) rfl))) rfl
theorem T54 : (Jvm.Cond.classLink "BlockSound$StreamWriter" (20 : Nat) "BlockSound$Means") ∈ GW := GW_of (List.mem_append_right _ (List.mem_append_left _ (List.mem_of_getElem? (i := 54) rfl))) rfl
theorem T55 : (Jvm.Cond.instantiable "BlockSound$Means" (1 : Nat)) ∈ GW := GW_of (List.mem_append_right _ (List.mem_append_left _ (List.mem_of_getElem? (i := 55) rfl))) rfl
theorem T56 : (Jvm.Cond.methodLinkNest "BlockSound$StreamWriter" (22 : Nat) ({ cls := "BlockSound$Means", name := "<init>", desc := "()V" } : Jvm.MethodName) "BlockSound") ∈ NL := NL_of (List.mem_append_right _ (List.mem_append_left _ (List.mem_of_getElem? (i := 56) rfl))) rfl
theorem T57 : (Jvm.Cond.instanceMethod ({ cls := "BlockSound$Means", name := "<init>", desc := "()V" } : Jvm.MethodName)) ∈ GW := GW_of (List.mem_append_right _ (List.mem_append_left _ (List.mem_of_getElem? (i := 57) rfl))) rfl
theorem T58 : (Jvm.Cond.code ({ cls := "BlockSound$Means", name := "<init>", desc := "()V" } : Jvm.MethodName) prog_5_method_1_code (1 : Nat) (Option.none : Option Jvm.ClassFile.FieldType)) ∈ GW := GW_of (List.mem_append_right _ (List.mem_append_left _ (List.mem_of_getElem? (i := 58) rfl))) rfl
theorem T59 : (Jvm.Cond.methodLink "BlockSound$Means" (3 : Nat) ({ cls := "java/lang/Object", name := "<init>", desc := "()V" } : Jvm.MethodName)) ∈ GW := GW_of (List.mem_append_right _ (List.mem_append_left _ (List.mem_of_getElem? (i := 59) rfl))) rfl
theorem T60 : (Jvm.Cond.fieldLink "BlockSound$Means" (9 : Nat) "BlockSound$Means" "ofBlocks" "[I") ∈ GW := GW_of (List.mem_append_right _ (List.mem_append_left _ (List.mem_of_getElem? (i := 60) rfl))) rfl
theorem T64 : (Jvm.Cond.classLink "BlockSound$StreamWriter" (27 : Nat) "BlockSound$BitWriter") ∈ GW := GW_of (List.mem_append_right _ (List.mem_append_left _ (List.mem_of_getElem? (i := 64) rfl))) rfl
theorem T65 : (Jvm.Cond.instantiable "BlockSound$BitWriter" (3 : Nat)) ∈ GW := GW_of (List.mem_append_right _ (List.mem_append_left _ (List.mem_of_getElem? (i := 65) rfl))) rfl
theorem T66 : (Jvm.Cond.methodLinkNest "BlockSound$StreamWriter" (29 : Nat) ({ cls := "BlockSound$BitWriter", name := "<init>", desc := "()V" } : Jvm.MethodName) "BlockSound") ∈ NL := NL_of (List.mem_append_right _ (List.mem_append_left _ (List.mem_of_getElem? (i := 66) rfl))) rfl
theorem T67 : (Jvm.Cond.instanceMethod ({ cls := "BlockSound$BitWriter", name := "<init>", desc := "()V" } : Jvm.MethodName)) ∈ GW := GW_of (List.mem_append_right _ (List.mem_append_left _ (List.mem_of_getElem? (i := 67) rfl))) rfl
theorem T68 : (Jvm.Cond.code ({ cls := "BlockSound$BitWriter", name := "<init>", desc := "()V" } : Jvm.MethodName) prog_3_method_1_code (1 : Nat) (Option.none : Option Jvm.ClassFile.FieldType)) ∈ GW := GW_of (List.mem_append_right _ (List.mem_append_left _ (List.mem_of_getElem? (i := 68) rfl))) rfl
theorem T69 : (Jvm.Cond.methodLink "BlockSound$BitWriter" (1 : Nat) ({ cls := "java/lang/Object", name := "<init>", desc := "()V" } : Jvm.MethodName)) ∈ GW := GW_of (List.mem_append_right _ (List.mem_append_left _ (List.mem_of_getElem? (i := 69) rfl))) rfl
theorem T70 : (Jvm.Cond.classLink "BlockSound$BitWriter" (7 : Nat) "BlockSound$ByteRow") ∈ GW := GW_of (List.mem_append_right _ (List.mem_append_left _ (List.mem_of_getElem? (i := 70) rfl))) rfl
theorem T71 : (Jvm.Cond.instantiable "BlockSound$ByteRow" (2 : Nat)) ∈ GW := GW_of (List.mem_append_right _ (List.mem_append_left _ (List.mem_of_getElem? (i := 71) rfl))) rfl
theorem T72 : (Jvm.Cond.methodLinkNest "BlockSound$BitWriter" (9 : Nat) ({ cls := "BlockSound$ByteRow", name := "<init>", desc := "()V" } : Jvm.MethodName) "BlockSound") ∈ NL := NL_of (List.mem_append_right _ (List.mem_append_left _ (List.mem_of_getElem? (i := 72) rfl))) rfl
theorem T73 : (Jvm.Cond.instanceMethod ({ cls := "BlockSound$ByteRow", name := "<init>", desc := "()V" } : Jvm.MethodName)) ∈ GW := GW_of (List.mem_append_right _ (List.mem_append_left _ (List.mem_of_getElem? (i := 73) rfl))) rfl
theorem T74 : (Jvm.Cond.code ({ cls := "BlockSound$ByteRow", name := "<init>", desc := "()V" } : Jvm.MethodName) prog_4_method_1_code (1 : Nat) (Option.none : Option Jvm.ClassFile.FieldType)) ∈ GW := GW_of (List.mem_append_right _ (List.mem_append_left _ (List.mem_of_getElem? (i := 74) rfl))) rfl
theorem T75 : (Jvm.Cond.methodLink "BlockSound$ByteRow" (3 : Nat) ({ cls := "java/lang/Object", name := "<init>", desc := "()V" } : Jvm.MethodName)) ∈ GW := GW_of (List.mem_append_right _ (List.mem_append_left _ (List.mem_of_getElem? (i := 75) rfl))) rfl
theorem T76 : (Jvm.Cond.fieldLink "BlockSound$ByteRow" (9 : Nat) "BlockSound$ByteRow" "row" "[B") ∈ GW := GW_of (List.mem_append_right _ (List.mem_append_left _ (List.mem_of_getElem? (i := 76) rfl))) rfl
theorem T77 : (Jvm.Cond.fieldLinkNest "BlockSound$BitReader" (28 : Nat) "BlockSound$ByteRow" "row" "[B" "BlockSound") ∈ NL := NL_of (List.mem_append_right _ (List.mem_append_left _ (List.mem_of_getElem? (i := 77) rfl))) rfl
theorem T78 : (Jvm.Cond.fieldLink "BlockSound$ByteRow" (15 : Nat) "BlockSound$ByteRow" "size" "I") ∈ GW := GW_of (List.mem_append_right _ (List.mem_append_left _ (List.mem_of_getElem? (i := 78) rfl))) rfl
theorem T79 : (Jvm.Cond.fieldLinkNest "BlockSound$BitReader" (22 : Nat) "BlockSound$ByteRow" "size" "I" "BlockSound") ∈ NL := NL_of (List.mem_append_right _ (List.mem_append_left _ (List.mem_of_getElem? (i := 79) rfl))) rfl
theorem T80 : (Jvm.Cond.fieldLinkNest "BlockSound" (72 : Nat) "BlockSound$ByteRow" "size" "I" "BlockSound") ∈ NL := NL_of (List.mem_append_right _ (List.mem_append_left _ (List.mem_of_getElem? (i := 80) rfl))) rfl
theorem T86 : (Jvm.Cond.arrayClass Jvm.ClassFile.FieldType.byte) ∈ GW := GW_of (List.mem_append_right _ (List.mem_append_left _ (List.mem_of_getElem? (i := 86) rfl))) rfl
theorem T87 : (Jvm.Cond.fieldLink "BlockSound$BitWriter" (10 : Nat) "BlockSound$BitWriter" "bytes" "LBlockSound$ByteRow;") ∈ GW := GW_of (List.mem_append_right _ (List.mem_append_left _ (List.mem_of_getElem? (i := 87) rfl))) rfl
theorem T88 : (Jvm.Cond.fieldLinkNest "BlockSound" (36 : Nat) "BlockSound$BitWriter" "bytes" "LBlockSound$ByteRow;" "BlockSound") ∈ NL := NL_of (List.mem_append_right _ (List.mem_append_left _ (List.mem_of_getElem? (i := 88) rfl))) rfl
theorem T89 : (Jvm.Cond.fieldLink "BlockSound$BitWriter" (19 : Nat) "BlockSound$BitWriter" "pending" "I") ∈ GW := GW_of (List.mem_append_right _ (List.mem_append_left _ (List.mem_of_getElem? (i := 89) rfl))) rfl
theorem T90 : (Jvm.Cond.fieldLink "BlockSound$BitWriter" (23 : Nat) "BlockSound$BitWriter" "pendingBits" "I") ∈ GW := GW_of (List.mem_append_right _ (List.mem_append_left _ (List.mem_of_getElem? (i := 90) rfl))) rfl
theorem T98 : (Jvm.Cond.fieldLink "BlockSound$StreamWriter" (14 : Nat) "BlockSound$StreamWriter" "sound" "LBlockSound$Sound;") ∈ GW := GW_of (List.mem_append_right _ (List.mem_append_left _ (List.mem_of_getElem? (i := 98) rfl))) rfl
theorem T99 : (Jvm.Cond.fieldLinkNest "BlockSound" (82 : Nat) "BlockSound$StreamWriter" "sound" "LBlockSound$Sound;" "BlockSound") ∈ NL := NL_of (List.mem_append_right _ (List.mem_append_left _ (List.mem_of_getElem? (i := 99) rfl))) rfl
theorem T100 : (Jvm.Cond.fieldLink "BlockSound$StreamWriter" (23 : Nat) "BlockSound$StreamWriter" "means" "LBlockSound$Means;") ∈ GW := GW_of (List.mem_append_right _ (List.mem_append_left _ (List.mem_of_getElem? (i := 100) rfl))) rfl
theorem T101 : (Jvm.Cond.fieldLink "BlockSound$StreamWriter" (30 : Nat) "BlockSound$StreamWriter" "bits" "LBlockSound$BitWriter;") ∈ GW := GW_of (List.mem_append_right _ (List.mem_append_left _ (List.mem_of_getElem? (i := 101) rfl))) rfl
theorem T102 : (Jvm.Cond.fieldLinkNest "BlockSound" (32 : Nat) "BlockSound$StreamWriter" "bits" "LBlockSound$BitWriter;" "BlockSound") ∈ NL := NL_of (List.mem_append_right _ (List.mem_append_left _ (List.mem_of_getElem? (i := 102) rfl))) rfl
theorem T103 : (Jvm.Cond.fieldLink "BlockSound$StreamWriter" (34 : Nat) "BlockSound$StreamWriter" "functions" "[I") ∈ GW := GW_of (List.mem_append_right _ (List.mem_append_left _ (List.mem_of_getElem? (i := 103) rfl))) rfl
theorem T104 : (Jvm.Cond.fieldLinkNest "BlockSound" (88 : Nat) "BlockSound$StreamWriter" "functions" "[I" "BlockSound") ∈ NL := NL_of (List.mem_append_right _ (List.mem_append_left _ (List.mem_of_getElem? (i := 104) rfl))) rfl
theorem T105 : (Jvm.Cond.fieldLink "BlockSound$StreamWriter" (38 : Nat) "BlockSound$StreamWriter" "ks" "[I") ∈ GW := GW_of (List.mem_append_right _ (List.mem_append_left _ (List.mem_of_getElem? (i := 105) rfl))) rfl
theorem T106 : (Jvm.Cond.fieldLinkNest "BlockSound" (92 : Nat) "BlockSound$StreamWriter" "ks" "[I" "BlockSound") ∈ NL := NL_of (List.mem_append_right _ (List.mem_append_left _ (List.mem_of_getElem? (i := 106) rfl))) rfl
theorem T107 : (Jvm.Cond.fieldLink "BlockSound$StreamWriter" (41 : Nat) "BlockSound$StreamWriter" "rests" "[I") ∈ GW := GW_of (List.mem_append_right _ (List.mem_append_left _ (List.mem_of_getElem? (i := 107) rfl))) rfl
theorem T108 : (Jvm.Cond.fieldLink "BlockSound$StreamWriter" (107 : Nat) "BlockSound$StreamWriter" "restCount" "I") ∈ GW := GW_of (List.mem_append_right _ (List.mem_append_left _ (List.mem_of_getElem? (i := 108) rfl))) rfl
theorem T109 : (Jvm.Cond.fieldLink "BlockSound$StreamWriter" (58 : Nat) "BlockSound$StreamWriter" "blockCount" "I") ∈ GW := GW_of (List.mem_append_right _ (List.mem_append_left _ (List.mem_of_getElem? (i := 109) rfl))) rfl
theorem T110 : (Jvm.Cond.fieldLinkNest "BlockSound" (79 : Nat) "BlockSound$StreamWriter" "blockCount" "I" "BlockSound") ∈ NL := NL_of (List.mem_append_right _ (List.mem_append_left _ (List.mem_of_getElem? (i := 110) rfl))) rfl
theorem T128 : (Jvm.Cond.classLink "BlockSound" (25 : Nat) "BlockSound$StreamReader") ∈ GW := GW_of (List.mem_append_right _ (List.mem_append_left _ (List.mem_of_getElem? (i := 128) rfl))) rfl
theorem T129 : (Jvm.Cond.instantiable "BlockSound$StreamReader" (5 : Nat)) ∈ GW := GW_of (List.mem_append_right _ (List.mem_append_left _ (List.mem_of_getElem? (i := 129) rfl))) rfl
theorem T130 : (Jvm.Cond.methodLinkNest "BlockSound" (27 : Nat) ({ cls := "BlockSound$StreamReader", name := "<init>", desc := "()V" } : Jvm.MethodName) "BlockSound") ∈ NL := NL_of (List.mem_append_right _ (List.mem_append_left _ (List.mem_of_getElem? (i := 130) rfl))) rfl
theorem T131 : (Jvm.Cond.instanceMethod ({ cls := "BlockSound$StreamReader", name := "<init>", desc := "()V" } : Jvm.MethodName)) ∈ GW := GW_of (List.mem_append_right _ (List.mem_append_left _ (List.mem_of_getElem? (i := 131) rfl))) rfl
theorem T132 : (Jvm.Cond.code ({ cls := "BlockSound$StreamReader", name := "<init>", desc := "()V" } : Jvm.MethodName) prog_7_method_1_code (1 : Nat) (Option.none : Option Jvm.ClassFile.FieldType)) ∈ GW := GW_of (List.mem_append_right _ (List.mem_append_left _ (List.mem_of_getElem? (i := 132) rfl))) rfl
theorem T133 : (Jvm.Cond.methodLink "BlockSound$StreamReader" (3 : Nat) ({ cls := "java/lang/Object", name := "<init>", desc := "()V" } : Jvm.MethodName)) ∈ GW := GW_of (List.mem_append_right _ (List.mem_append_left _ (List.mem_of_getElem? (i := 133) rfl))) rfl
theorem T134 : (Jvm.Cond.classLink "BlockSound$StreamReader" (9 : Nat) "BlockSound$Means") ∈ GW := GW_of (List.mem_append_right _ (List.mem_append_left _ (List.mem_of_getElem? (i := 134) rfl))) rfl
theorem T135 : (Jvm.Cond.methodLinkNest "BlockSound$StreamReader" (11 : Nat) ({ cls := "BlockSound$Means", name := "<init>", desc := "()V" } : Jvm.MethodName) "BlockSound") ∈ NL := NL_of (List.mem_append_right _ (List.mem_append_left _ (List.mem_of_getElem? (i := 135) rfl))) rfl
theorem T136 : (Jvm.Cond.classLink "BlockSound$StreamReader" (18 : Nat) "BlockSound$BitReader") ∈ GW := GW_of (List.mem_append_right _ (List.mem_append_left _ (List.mem_of_getElem? (i := 136) rfl))) rfl
theorem T137 : (Jvm.Cond.instantiable "BlockSound$BitReader" (3 : Nat)) ∈ GW := GW_of (List.mem_append_right _ (List.mem_append_left _ (List.mem_of_getElem? (i := 137) rfl))) rfl
theorem T138 : (Jvm.Cond.methodLinkNest "BlockSound$StreamReader" (20 : Nat) ({ cls := "BlockSound$BitReader", name := "<init>", desc := "()V" } : Jvm.MethodName) "BlockSound") ∈ NL := NL_of (List.mem_append_right _ (List.mem_append_left _ (List.mem_of_getElem? (i := 138) rfl))) rfl
theorem T139 : (Jvm.Cond.instanceMethod ({ cls := "BlockSound$BitReader", name := "<init>", desc := "()V" } : Jvm.MethodName)) ∈ GW := GW_of (List.mem_append_right _ (List.mem_append_left _ (List.mem_of_getElem? (i := 139) rfl))) rfl
theorem T140 : (Jvm.Cond.code ({ cls := "BlockSound$BitReader", name := "<init>", desc := "()V" } : Jvm.MethodName) prog_2_method_1_code (1 : Nat) (Option.none : Option Jvm.ClassFile.FieldType)) ∈ GW := GW_of (List.mem_append_right _ (List.mem_append_left _ (List.mem_of_getElem? (i := 140) rfl))) rfl
theorem T141 : (Jvm.Cond.methodLink "BlockSound$BitReader" (3 : Nat) ({ cls := "java/lang/Object", name := "<init>", desc := "()V" } : Jvm.MethodName)) ∈ GW := GW_of (List.mem_append_right _ (List.mem_append_left _ (List.mem_of_getElem? (i := 141) rfl))) rfl
theorem T142 : (Jvm.Cond.classLink "BlockSound$BitReader" (9 : Nat) "BlockSound$ByteRow") ∈ GW := GW_of (List.mem_append_right _ (List.mem_append_left _ (List.mem_of_getElem? (i := 142) rfl))) rfl
theorem T143 : (Jvm.Cond.methodLinkNest "BlockSound$BitReader" (11 : Nat) ({ cls := "BlockSound$ByteRow", name := "<init>", desc := "()V" } : Jvm.MethodName) "BlockSound") ∈ NL := NL_of (List.mem_append_right _ (List.mem_append_left _ (List.mem_of_getElem? (i := 143) rfl))) rfl
theorem T144 : (Jvm.Cond.fieldLink "BlockSound$BitReader" (12 : Nat) "BlockSound$BitReader" "bytes" "LBlockSound$ByteRow;") ∈ GW := GW_of (List.mem_append_right _ (List.mem_append_left _ (List.mem_of_getElem? (i := 144) rfl))) rfl
theorem T145 : (Jvm.Cond.fieldLinkNest "BlockSound" (48 : Nat) "BlockSound$BitReader" "bytes" "LBlockSound$ByteRow;" "BlockSound") ∈ NL := NL_of (List.mem_append_right _ (List.mem_append_left _ (List.mem_of_getElem? (i := 145) rfl))) rfl
theorem T146 : (Jvm.Cond.fieldLink "BlockSound$BitReader" (18 : Nat) "BlockSound$BitReader" "position" "I") ∈ GW := GW_of (List.mem_append_right _ (List.mem_append_left _ (List.mem_of_getElem? (i := 146) rfl))) rfl
theorem T147 : (Jvm.Cond.fieldLinkNest "BlockSound$StreamReader" (87 : Nat) "BlockSound$BitReader" "position" "I" "BlockSound") ∈ NL := NL_of (List.mem_append_right _ (List.mem_append_left _ (List.mem_of_getElem? (i := 147) rfl))) rfl
theorem T148 : (Jvm.Cond.fieldLink "BlockSound$BitReader" (25 : Nat) "BlockSound$BitReader" "end" "I") ∈ GW := GW_of (List.mem_append_right _ (List.mem_append_left _ (List.mem_of_getElem? (i := 148) rfl))) rfl
theorem T149 : (Jvm.Cond.fieldLinkNest "BlockSound$StreamReader" (113 : Nat) "BlockSound$BitReader" "end" "I" "BlockSound") ∈ NL := NL_of (List.mem_append_right _ (List.mem_append_left _ (List.mem_of_getElem? (i := 149) rfl))) rfl
theorem T157 : (Jvm.Cond.classLink "BlockSound$StreamReader" (25 : Nat) "BlockSound$Sound") ∈ GW := GW_of (List.mem_append_right _ (List.mem_append_left _ (List.mem_of_getElem? (i := 157) rfl))) rfl
theorem T158 : (Jvm.Cond.methodLink "BlockSound$StreamReader" (27 : Nat) ({ cls := "BlockSound$Sound", name := "<init>", desc := "(II)V" } : Jvm.MethodName)) ∈ GW := GW_of (List.mem_append_right _ (List.mem_append_left _ (List.mem_of_getElem? (i := 158) rfl))) rfl
theorem T159 : (Jvm.Cond.fieldLink "BlockSound$StreamReader" (12 : Nat) "BlockSound$StreamReader" "means" "LBlockSound$Means;") ∈ GW := GW_of (List.mem_append_right _ (List.mem_append_left _ (List.mem_of_getElem? (i := 159) rfl))) rfl
theorem T160 : (Jvm.Cond.fieldLink "BlockSound$StreamReader" (21 : Nat) "BlockSound$StreamReader" "bits" "LBlockSound$BitReader;") ∈ GW := GW_of (List.mem_append_right _ (List.mem_append_left _ (List.mem_of_getElem? (i := 160) rfl))) rfl
theorem T161 : (Jvm.Cond.fieldLinkNest "BlockSound" (45 : Nat) "BlockSound$StreamReader" "bits" "LBlockSound$BitReader;" "BlockSound") ∈ NL := NL_of (List.mem_append_right _ (List.mem_append_left _ (List.mem_of_getElem? (i := 161) rfl))) rfl
theorem T162 : (Jvm.Cond.fieldLink "BlockSound$StreamReader" (30 : Nat) "BlockSound$StreamReader" "sound" "LBlockSound$Sound;") ∈ GW := GW_of (List.mem_append_right _ (List.mem_append_left _ (List.mem_of_getElem? (i := 162) rfl))) rfl
theorem T163 : (Jvm.Cond.fieldLinkNest "BlockSound" (114 : Nat) "BlockSound$StreamReader" "sound" "LBlockSound$Sound;" "BlockSound") ∈ NL := NL_of (List.mem_append_right _ (List.mem_append_left _ (List.mem_of_getElem? (i := 163) rfl))) rfl
theorem T164 : (Jvm.Cond.fieldLink "BlockSound$StreamReader" (34 : Nat) "BlockSound$StreamReader" "draft" "LBlockSound$Sound;") ∈ GW := GW_of (List.mem_append_right _ (List.mem_append_left _ (List.mem_of_getElem? (i := 164) rfl))) rfl
theorem T165 : (Jvm.Cond.fieldLink "BlockSound$StreamReader" (37 : Nat) "BlockSound$StreamReader" "wrongBit" "I") ∈ GW := GW_of (List.mem_append_right _ (List.mem_append_left _ (List.mem_of_getElem? (i := 165) rfl))) rfl
theorem T177 : (Jvm.Cond.fieldLink "BlockSound" (14 : Nat) "BlockSound" "told" "LBlockSound$Sound;") ∈ GW := GW_of (List.mem_append_right _ (List.mem_append_left _ (List.mem_of_getElem? (i := 177) rfl))) rfl
theorem T178 : (Jvm.Cond.fieldLink "BlockSound" (21 : Nat) "BlockSound" "writer" "LBlockSound$StreamWriter;") ∈ GW := GW_of (List.mem_append_right _ (List.mem_append_left _ (List.mem_of_getElem? (i := 178) rfl))) rfl
theorem T179 : (Jvm.Cond.fieldLink "BlockSound" (28 : Nat) "BlockSound" "reader" "LBlockSound$StreamReader;") ∈ GW := GW_of (List.mem_append_right _ (List.mem_append_left _ (List.mem_of_getElem? (i := 179) rfl))) rfl
theorem T180 : (Jvm.Cond.fieldLink "BlockSound" (42 : Nat) "BlockSound" "written" "LBlockSound$ByteRow;") ∈ GW := GW_of (List.mem_append_right _ (List.mem_append_left _ (List.mem_of_getElem? (i := 180) rfl))) rfl
theorem T181 : (Jvm.Cond.fieldLink "BlockSound" (51 : Nat) "BlockSound" "collected" "LBlockSound$ByteRow;") ∈ GW := GW_of (List.mem_append_right _ (List.mem_append_left _ (List.mem_of_getElem? (i := 181) rfl))) rfl
theorem T193 : (Jvm.Cond.methodLink "BlockSoundLaw" (13 : Nat) ({ cls := "BlockSound", name := "settings", desc := "(II)Z" } : Jvm.MethodName)) ∈ GW := GW_of (List.mem_append_right _ (List.mem_append_left _ (List.mem_of_getElem? (i := 193) rfl))) rfl
theorem T194 : (Jvm.Cond.instanceMethod ({ cls := "BlockSound", name := "settings", desc := "(II)Z" } : Jvm.MethodName)) ∈ GW := GW_of (List.mem_append_right _ (List.mem_append_left _ (List.mem_of_getElem? (i := 194) rfl))) rfl
theorem T195 : (Jvm.Cond.selects "BlockSound" ({ cls := "BlockSound", name := "settings", desc := "(II)Z" } : Jvm.MethodName) ({ cls := "BlockSound", name := "settings", desc := "(II)Z" } : Jvm.MethodName)) ∈ GW := GW_of (List.mem_append_right _ (List.mem_append_left _ (List.mem_of_getElem? (i := 195) rfl))) rfl
theorem T196 : (Jvm.Cond.code ({ cls := "BlockSound", name := "settings", desc := "(II)Z" } : Jvm.MethodName) prog_1_method_2_code (3 : Nat) (Option.some Jvm.ClassFile.FieldType.boolean)) ∈ GW := GW_of (List.mem_append_right _ (List.mem_append_left _ (List.mem_of_getElem? (i := 196) rfl))) rfl
theorem T197 : (Jvm.Cond.methodLink "BlockSound" (54 : Nat) ({ cls := "BlockSound$Sound", name := "restart", desc := "(II)V" } : Jvm.MethodName)) ∈ GW := GW_of (List.mem_append_right _ (List.mem_append_left _ (List.mem_of_getElem? (i := 197) rfl))) rfl
theorem T198 : (Jvm.Cond.instanceMethod ({ cls := "BlockSound$Sound", name := "restart", desc := "(II)V" } : Jvm.MethodName)) ∈ GW := GW_of (List.mem_append_right _ (List.mem_append_left _ (List.mem_of_getElem? (i := 198) rfl))) rfl
theorem T199 : (Jvm.Cond.selects "BlockSound$Sound" ({ cls := "BlockSound$Sound", name := "restart", desc := "(II)V" } : Jvm.MethodName) ({ cls := "BlockSound$Sound", name := "restart", desc := "(II)V" } : Jvm.MethodName)) ∈ GW := GW_of (List.mem_append_right _ (List.mem_append_left _ (List.mem_of_getElem? (i := 199) rfl))) rfl
theorem T200 : (Jvm.Cond.code ({ cls := "BlockSound$Sound", name := "restart", desc := "(II)V" } : Jvm.MethodName) prog_6_method_2_code (3 : Nat) (Option.none : Option Jvm.ClassFile.FieldType)) ∈ GW := GW_of (List.mem_append_right _ (List.mem_append_left _ (List.mem_of_getElem? (i := 200) rfl))) rfl
theorem T201 : (Jvm.Cond.methodLink "BlockSoundLaw" (18 : Nat) ({ cls := "BlockSound", name := "sample", desc := "(I)I" } : Jvm.MethodName)) ∈ GW := GW_of (List.mem_append_right _ (List.mem_append_left _ (List.mem_of_getElem? (i := 201) rfl))) rfl
theorem T202 : (Jvm.Cond.instanceMethod ({ cls := "BlockSound", name := "sample", desc := "(I)I" } : Jvm.MethodName)) ∈ GW := GW_of (List.mem_append_right _ (List.mem_append_left _ (List.mem_of_getElem? (i := 202) rfl))) rfl
theorem T203 : (Jvm.Cond.selects "BlockSound" ({ cls := "BlockSound", name := "sample", desc := "(I)I" } : Jvm.MethodName) ({ cls := "BlockSound", name := "sample", desc := "(I)I" } : Jvm.MethodName)) ∈ GW := GW_of (List.mem_append_right _ (List.mem_append_left _ (List.mem_of_getElem? (i := 203) rfl))) rfl
theorem T204 : (Jvm.Cond.code ({ cls := "BlockSound", name := "sample", desc := "(I)I" } : Jvm.MethodName) prog_1_method_3_code (2 : Nat) (Option.some Jvm.ClassFile.FieldType.int)) ∈ GW := GW_of (List.mem_append_right _ (List.mem_append_left _ (List.mem_of_getElem? (i := 204) rfl))) rfl
theorem T205 : (Jvm.Cond.methodLink "BlockSound" (57 : Nat) ({ cls := "BlockSound", name := "isSample", desc := "(I)Z" } : Jvm.MethodName)) ∈ GW := GW_of (List.mem_append_right _ (List.mem_append_left _ (List.mem_of_getElem? (i := 205) rfl))) rfl
theorem T206 : (Jvm.Cond.static ({ cls := "BlockSound", name := "isSample", desc := "(I)Z" } : Jvm.MethodName)) ∈ GW := GW_of (List.mem_append_right _ (List.mem_append_left _ (List.mem_of_getElem? (i := 206) rfl))) rfl
theorem T207 : (Jvm.Cond.code ({ cls := "BlockSound", name := "isSample", desc := "(I)Z" } : Jvm.MethodName) prog_1_method_14_code (1 : Nat) (Option.some Jvm.ClassFile.FieldType.boolean)) ∈ GW := GW_of (List.mem_append_right _ (List.mem_append_left _ (List.mem_of_getElem? (i := 207) rfl))) rfl
theorem T208 : (Jvm.Cond.methodLink "BlockSound" (61 : Nat) ({ cls := "BlockSound$Sound", name := "append", desc := "(I)Z" } : Jvm.MethodName)) ∈ GW := GW_of (List.mem_append_right _ (List.mem_append_left _ (List.mem_of_getElem? (i := 208) rfl))) rfl
theorem T209 : (Jvm.Cond.instanceMethod ({ cls := "BlockSound$Sound", name := "append", desc := "(I)Z" } : Jvm.MethodName)) ∈ GW := GW_of (List.mem_append_right _ (List.mem_append_left _ (List.mem_of_getElem? (i := 209) rfl))) rfl
theorem T210 : (Jvm.Cond.selects "BlockSound$Sound" ({ cls := "BlockSound$Sound", name := "append", desc := "(I)Z" } : Jvm.MethodName) ({ cls := "BlockSound$Sound", name := "append", desc := "(I)Z" } : Jvm.MethodName)) ∈ GW := GW_of (List.mem_append_right _ (List.mem_append_left _ (List.mem_of_getElem? (i := 210) rfl))) rfl
theorem T211 : (Jvm.Cond.code ({ cls := "BlockSound$Sound", name := "append", desc := "(I)Z" } : Jvm.MethodName) prog_6_method_4_code (2 : Nat) (Option.some Jvm.ClassFile.FieldType.boolean)) ∈ GW := GW_of (List.mem_append_right _ (List.mem_append_left _ (List.mem_of_getElem? (i := 211) rfl))) rfl
theorem T212 : (Jvm.Cond.methodLink "BlockSoundLaw" (23 : Nat) ({ cls := "BlockSound", name := "write", desc := "()I" } : Jvm.MethodName)) ∈ GW := GW_of (List.mem_append_right _ (List.mem_append_left _ (List.mem_of_getElem? (i := 212) rfl))) rfl
theorem T213 : (Jvm.Cond.instanceMethod ({ cls := "BlockSound", name := "write", desc := "()I" } : Jvm.MethodName)) ∈ GW := GW_of (List.mem_append_right _ (List.mem_append_left _ (List.mem_of_getElem? (i := 213) rfl))) rfl
theorem T214 : (Jvm.Cond.selects "BlockSound" ({ cls := "BlockSound", name := "write", desc := "()I" } : Jvm.MethodName) ({ cls := "BlockSound", name := "write", desc := "()I" } : Jvm.MethodName)) ∈ GW := GW_of (List.mem_append_right _ (List.mem_append_left _ (List.mem_of_getElem? (i := 214) rfl))) rfl
theorem T215 : (Jvm.Cond.code ({ cls := "BlockSound", name := "write", desc := "()I" } : Jvm.MethodName) prog_1_method_4_code (1 : Nat) (Option.some Jvm.ClassFile.FieldType.int)) ∈ GW := GW_of (List.mem_append_right _ (List.mem_append_left _ (List.mem_of_getElem? (i := 215) rfl))) rfl
theorem T216 : (Jvm.Cond.methodLink "BlockSound" (68 : Nat) ({ cls := "BlockSound$StreamWriter", name := "compose", desc := "(LBlockSound$Sound;)V" } : Jvm.MethodName)) ∈ GW := GW_of (List.mem_append_right _ (List.mem_append_left _ (List.mem_of_getElem? (i := 216) rfl))) rfl
theorem T217 : (Jvm.Cond.instanceMethod ({ cls := "BlockSound$StreamWriter", name := "compose", desc := "(LBlockSound$Sound;)V" } : Jvm.MethodName)) ∈ GW := GW_of (List.mem_append_right _ (List.mem_append_left _ (List.mem_of_getElem? (i := 217) rfl))) rfl
theorem T218 : (Jvm.Cond.selects "BlockSound$StreamWriter" ({ cls := "BlockSound$StreamWriter", name := "compose", desc := "(LBlockSound$Sound;)V" } : Jvm.MethodName) ({ cls := "BlockSound$StreamWriter", name := "compose", desc := "(LBlockSound$Sound;)V" } : Jvm.MethodName)) ∈ GW := GW_of (List.mem_append_right _ (List.mem_append_left _ (List.mem_of_getElem? (i := 218) rfl))) rfl
theorem T219 : (Jvm.Cond.code ({ cls := "BlockSound$StreamWriter", name := "compose", desc := "(LBlockSound$Sound;)V" } : Jvm.MethodName) prog_8_method_2_code (3 : Nat) (Option.none : Option Jvm.ClassFile.FieldType)) ∈ GW := GW_of (List.mem_append_right _ (List.mem_append_left _ (List.mem_of_getElem? (i := 219) rfl))) rfl
theorem T220 : (Jvm.Cond.methodLink "BlockSound$StreamWriter" (44 : Nat) ({ cls := "BlockSound$Sound", name := "copyWhole", desc := "(LBlockSound$Sound;)V" } : Jvm.MethodName)) ∈ GW := GW_of (List.mem_append_right _ (List.mem_append_left _ (List.mem_of_getElem? (i := 220) rfl))) rfl
theorem T221 : (Jvm.Cond.instanceMethod ({ cls := "BlockSound$Sound", name := "copyWhole", desc := "(LBlockSound$Sound;)V" } : Jvm.MethodName)) ∈ GW := GW_of (List.mem_append_right _ (List.mem_append_left _ (List.mem_of_getElem? (i := 221) rfl))) rfl
theorem T222 : (Jvm.Cond.selects "BlockSound$Sound" ({ cls := "BlockSound$Sound", name := "copyWhole", desc := "(LBlockSound$Sound;)V" } : Jvm.MethodName) ({ cls := "BlockSound$Sound", name := "copyWhole", desc := "(LBlockSound$Sound;)V" } : Jvm.MethodName)) ∈ GW := GW_of (List.mem_append_right _ (List.mem_append_left _ (List.mem_of_getElem? (i := 222) rfl))) rfl
theorem T223 : (Jvm.Cond.code ({ cls := "BlockSound$Sound", name := "copyWhole", desc := "(LBlockSound$Sound;)V" } : Jvm.MethodName) prog_6_method_5_code (2 : Nat) (Option.none : Option Jvm.ClassFile.FieldType)) ∈ GW := GW_of (List.mem_append_right _ (List.mem_append_left _ (List.mem_of_getElem? (i := 223) rfl))) rfl
theorem T224 : (Jvm.Cond.methodLink "BlockSound$Sound" (25 : Nat) ({ cls := "BlockSound$Sound", name := "restart", desc := "(II)V" } : Jvm.MethodName)) ∈ GW := GW_of (List.mem_append_right _ (List.mem_append_left _ (List.mem_of_getElem? (i := 224) rfl))) rfl
theorem T225 : (Jvm.Cond.methodLink "BlockSound$Sound" (35 : Nat) ({ cls := "BlockSound$Sound", name := "wholeSize", desc := "()I" } : Jvm.MethodName)) ∈ GW := GW_of (List.mem_append_right _ (List.mem_append_left _ (List.mem_of_getElem? (i := 225) rfl))) rfl
theorem T226 : (Jvm.Cond.instanceMethod ({ cls := "BlockSound$Sound", name := "wholeSize", desc := "()I" } : Jvm.MethodName)) ∈ GW := GW_of (List.mem_append_right _ (List.mem_append_left _ (List.mem_of_getElem? (i := 226) rfl))) rfl
theorem T227 : (Jvm.Cond.selects "BlockSound$Sound" ({ cls := "BlockSound$Sound", name := "wholeSize", desc := "()I" } : Jvm.MethodName) ({ cls := "BlockSound$Sound", name := "wholeSize", desc := "()I" } : Jvm.MethodName)) ∈ GW := GW_of (List.mem_append_right _ (List.mem_append_left _ (List.mem_of_getElem? (i := 227) rfl))) rfl
theorem T228 : (Jvm.Cond.code ({ cls := "BlockSound$Sound", name := "wholeSize", desc := "()I" } : Jvm.MethodName) prog_6_method_7_code (1 : Nat) (Option.some Jvm.ClassFile.FieldType.int)) ∈ GW := GW_of (List.mem_append_right _ (List.mem_append_left _ (List.mem_of_getElem? (i := 228) rfl))) rfl
theorem T229 : (Jvm.Cond.methodLink "BlockSound$Sound" (45 : Nat) ({ cls := "BlockSound$Sound", name := "each", desc := "()I" } : Jvm.MethodName)) ∈ GW := GW_of (List.mem_append_right _ (List.mem_append_left _ (List.mem_of_getElem? (i := 229) rfl))) rfl
theorem T230 : (Jvm.Cond.instanceMethod ({ cls := "BlockSound$Sound", name := "each", desc := "()I" } : Jvm.MethodName)) ∈ GW := GW_of (List.mem_append_right _ (List.mem_append_left _ (List.mem_of_getElem? (i := 230) rfl))) rfl
theorem T231 : (Jvm.Cond.selects "BlockSound$Sound" ({ cls := "BlockSound$Sound", name := "each", desc := "()I" } : Jvm.MethodName) ({ cls := "BlockSound$Sound", name := "each", desc := "()I" } : Jvm.MethodName)) ∈ GW := GW_of (List.mem_append_right _ (List.mem_append_left _ (List.mem_of_getElem? (i := 231) rfl))) rfl
theorem T232 : (Jvm.Cond.code ({ cls := "BlockSound$Sound", name := "each", desc := "()I" } : Jvm.MethodName) prog_6_method_6_code (1 : Nat) (Option.some Jvm.ClassFile.FieldType.int)) ∈ GW := GW_of (List.mem_append_right _ (List.mem_append_left _ (List.mem_of_getElem? (i := 232) rfl))) rfl
theorem T233 : (Jvm.Cond.methodLink "BlockSound$Sound" (39 : Nat) ({ cls := "java/lang/System", name := "arraycopy", desc := "(Ljava/lang/Object;ILjava/lang/Object;II)V" } : Jvm.MethodName)) ∈ GW := GW_of (List.mem_append_right _ (List.mem_append_left _ (List.mem_of_getElem? (i := 233) rfl))) rfl
theorem T234 : (Jvm.Cond.static ({ cls := "java/lang/System", name := "arraycopy", desc := "(Ljava/lang/Object;ILjava/lang/Object;II)V" } : Jvm.MethodName)) ∈ GW := GW_of (List.mem_append_right _ (List.mem_append_left _ (List.mem_of_getElem? (i := 234) rfl))) rfl
theorem T235 : (Jvm.Cond.native ({ cls := "java/lang/System", name := "arraycopy", desc := "(Ljava/lang/Object;ILjava/lang/Object;II)V" } : Jvm.MethodName)) ∈ GW := GW_of (List.mem_append_right _ (List.mem_append_left _ (List.mem_of_getElem? (i := 235) rfl))) rfl
theorem T236 : (Jvm.Cond.methodLink "BlockSound$StreamWriter" (48 : Nat) ({ cls := "BlockSound$Sound", name := "blockCount", desc := "()I" } : Jvm.MethodName)) ∈ GW := GW_of (List.mem_append_right _ (List.mem_append_left _ (List.mem_of_getElem? (i := 236) rfl))) rfl
theorem T237 : (Jvm.Cond.instanceMethod ({ cls := "BlockSound$Sound", name := "blockCount", desc := "()I" } : Jvm.MethodName)) ∈ GW := GW_of (List.mem_append_right _ (List.mem_append_left _ (List.mem_of_getElem? (i := 237) rfl))) rfl
theorem T238 : (Jvm.Cond.selects "BlockSound$Sound" ({ cls := "BlockSound$Sound", name := "blockCount", desc := "()I" } : Jvm.MethodName) ({ cls := "BlockSound$Sound", name := "blockCount", desc := "()I" } : Jvm.MethodName)) ∈ GW := GW_of (List.mem_append_right _ (List.mem_append_left _ (List.mem_of_getElem? (i := 238) rfl))) rfl
theorem T239 : (Jvm.Cond.code ({ cls := "BlockSound$Sound", name := "blockCount", desc := "()I" } : Jvm.MethodName) prog_6_method_9_code (1 : Nat) (Option.some Jvm.ClassFile.FieldType.int)) ∈ GW := GW_of (List.mem_append_right _ (List.mem_append_left _ (List.mem_of_getElem? (i := 239) rfl))) rfl
theorem T240 : (Jvm.Cond.methodLink "BlockSound$StreamWriter" (52 : Nat) ({ cls := "java/lang/Math", name := "min", desc := "(II)I" } : Jvm.MethodName)) ∈ GW := GW_of (List.mem_append_right _ (List.mem_append_right _ (List.mem_append_left _ (List.mem_of_getElem? (i := 0) rfl)))) rfl
theorem T241 : (Jvm.Cond.static ({ cls := "java/lang/Math", name := "min", desc := "(II)I" } : Jvm.MethodName)) ∈ GW := GW_of (List.mem_append_right _ (List.mem_append_right _ (List.mem_append_left _ (List.mem_of_getElem? (i := 1) rfl)))) rfl
theorem T242 : (Jvm.Cond.code ({ cls := "java/lang/Math", name := "min", desc := "(II)I" } : Jvm.MethodName) prog_11_method_69_code (2 : Nat) (Option.some Jvm.ClassFile.FieldType.int)) ∈ GW := GW_of (List.mem_append_right _ (List.mem_append_right _ (List.mem_append_left _ (List.mem_of_getElem? (i := 2) rfl)))) rfl
theorem T243 : (Jvm.Cond.methodLink "BlockSound$StreamWriter" (61 : Nat) ({ cls := "BlockSound$BitWriter", name := "restart", desc := "()V" } : Jvm.MethodName)) ∈ GW := GW_of (List.mem_append_right _ (List.mem_append_right _ (List.mem_append_left _ (List.mem_of_getElem? (i := 3) rfl)))) rfl
theorem T244 : (Jvm.Cond.instanceMethod ({ cls := "BlockSound$BitWriter", name := "restart", desc := "()V" } : Jvm.MethodName)) ∈ GW := GW_of (List.mem_append_right _ (List.mem_append_right _ (List.mem_append_left _ (List.mem_of_getElem? (i := 4) rfl)))) rfl
theorem T245 : (Jvm.Cond.selects "BlockSound$BitWriter" ({ cls := "BlockSound$BitWriter", name := "restart", desc := "()V" } : Jvm.MethodName) ({ cls := "BlockSound$BitWriter", name := "restart", desc := "()V" } : Jvm.MethodName)) ∈ GW := GW_of (List.mem_append_right _ (List.mem_append_right _ (List.mem_append_left _ (List.mem_of_getElem? (i := 5) rfl)))) rfl
theorem T246 : (Jvm.Cond.code ({ cls := "BlockSound$BitWriter", name := "restart", desc := "()V" } : Jvm.MethodName) prog_3_method_2_code (1 : Nat) (Option.none : Option Jvm.ClassFile.FieldType)) ∈ GW := GW_of (List.mem_append_right _ (List.mem_append_right _ (List.mem_append_left _ (List.mem_of_getElem? (i := 6) rfl)))) rfl
theorem T247 : (Jvm.Cond.methodLink "BlockSound$BitWriter" (16 : Nat) ({ cls := "BlockSound$ByteRow", name := "clear", desc := "()V" } : Jvm.MethodName)) ∈ GW := GW_of (List.mem_append_right _ (List.mem_append_right _ (List.mem_append_left _ (List.mem_of_getElem? (i := 7) rfl)))) rfl
theorem T248 : (Jvm.Cond.instanceMethod ({ cls := "BlockSound$ByteRow", name := "clear", desc := "()V" } : Jvm.MethodName)) ∈ GW := GW_of (List.mem_append_right _ (List.mem_append_right _ (List.mem_append_left _ (List.mem_of_getElem? (i := 8) rfl)))) rfl
theorem T249 : (Jvm.Cond.selects "BlockSound$ByteRow" ({ cls := "BlockSound$ByteRow", name := "clear", desc := "()V" } : Jvm.MethodName) ({ cls := "BlockSound$ByteRow", name := "clear", desc := "()V" } : Jvm.MethodName)) ∈ GW := GW_of (List.mem_append_right _ (List.mem_append_right _ (List.mem_append_left _ (List.mem_of_getElem? (i := 9) rfl)))) rfl
theorem T250 : (Jvm.Cond.code ({ cls := "BlockSound$ByteRow", name := "clear", desc := "()V" } : Jvm.MethodName) prog_4_method_2_code (1 : Nat) (Option.none : Option Jvm.ClassFile.FieldType)) ∈ GW := GW_of (List.mem_append_right _ (List.mem_append_right _ (List.mem_append_left _ (List.mem_of_getElem? (i := 10) rfl)))) rfl
theorem T251 : (Jvm.Cond.methodLink "BlockSound$StreamWriter" (64 : Nat) ({ cls := "BlockSound$BitWriter", name := "putLowBits", desc := "(II)V" } : Jvm.MethodName)) ∈ GW := GW_of (List.mem_append_right _ (List.mem_append_right _ (List.mem_append_left _ (List.mem_of_getElem? (i := 11) rfl)))) rfl
theorem T252 : (Jvm.Cond.instanceMethod ({ cls := "BlockSound$BitWriter", name := "putLowBits", desc := "(II)V" } : Jvm.MethodName)) ∈ GW := GW_of (List.mem_append_right _ (List.mem_append_right _ (List.mem_append_left _ (List.mem_of_getElem? (i := 12) rfl)))) rfl
theorem T253 : (Jvm.Cond.selects "BlockSound$BitWriter" ({ cls := "BlockSound$BitWriter", name := "putLowBits", desc := "(II)V" } : Jvm.MethodName) ({ cls := "BlockSound$BitWriter", name := "putLowBits", desc := "(II)V" } : Jvm.MethodName)) ∈ GW := GW_of (List.mem_append_right _ (List.mem_append_right _ (List.mem_append_left _ (List.mem_of_getElem? (i := 13) rfl)))) rfl
theorem T254 : (Jvm.Cond.code ({ cls := "BlockSound$BitWriter", name := "putLowBits", desc := "(II)V" } : Jvm.MethodName) prog_3_method_4_code (4 : Nat) (Option.none : Option Jvm.ClassFile.FieldType)) ∈ GW := GW_of (List.mem_append_right _ (List.mem_append_right _ (List.mem_append_left _ (List.mem_of_getElem? (i := 14) rfl)))) rfl
theorem T255 : (Jvm.Cond.methodLink "BlockSound$BitWriter" (30 : Nat) ({ cls := "BlockSound$BitWriter", name := "putBit", desc := "(I)V" } : Jvm.MethodName)) ∈ GW := GW_of (List.mem_append_right _ (List.mem_append_right _ (List.mem_append_left _ (List.mem_of_getElem? (i := 15) rfl)))) rfl
theorem T256 : (Jvm.Cond.instanceMethod ({ cls := "BlockSound$BitWriter", name := "putBit", desc := "(I)V" } : Jvm.MethodName)) ∈ GW := GW_of (List.mem_append_right _ (List.mem_append_right _ (List.mem_append_left _ (List.mem_of_getElem? (i := 16) rfl)))) rfl
theorem T257 : (Jvm.Cond.selects "BlockSound$BitWriter" ({ cls := "BlockSound$BitWriter", name := "putBit", desc := "(I)V" } : Jvm.MethodName) ({ cls := "BlockSound$BitWriter", name := "putBit", desc := "(I)V" } : Jvm.MethodName)) ∈ GW := GW_of (List.mem_append_right _ (List.mem_append_right _ (List.mem_append_left _ (List.mem_of_getElem? (i := 17) rfl)))) rfl
theorem T258 : (Jvm.Cond.code ({ cls := "BlockSound$BitWriter", name := "putBit", desc := "(I)V" } : Jvm.MethodName) prog_3_method_3_code (2 : Nat) (Option.none : Option Jvm.ClassFile.FieldType)) ∈ GW := GW_of (List.mem_append_right _ (List.mem_append_right _ (List.mem_append_left _ (List.mem_of_getElem? (i := 18) rfl)))) rfl
theorem T259 : (Jvm.Cond.methodLink "BlockSound$BitWriter" (26 : Nat) ({ cls := "BlockSound$ByteRow", name := "append", desc := "(I)Z" } : Jvm.MethodName)) ∈ GW := GW_of (List.mem_append_right _ (List.mem_append_right _ (List.mem_append_left _ (List.mem_of_getElem? (i := 19) rfl)))) rfl
theorem T260 : (Jvm.Cond.instanceMethod ({ cls := "BlockSound$ByteRow", name := "append", desc := "(I)Z" } : Jvm.MethodName)) ∈ GW := GW_of (List.mem_append_right _ (List.mem_append_right _ (List.mem_append_left _ (List.mem_of_getElem? (i := 20) rfl)))) rfl
theorem T261 : (Jvm.Cond.selects "BlockSound$ByteRow" ({ cls := "BlockSound$ByteRow", name := "append", desc := "(I)Z" } : Jvm.MethodName) ({ cls := "BlockSound$ByteRow", name := "append", desc := "(I)Z" } : Jvm.MethodName)) ∈ GW := GW_of (List.mem_append_right _ (List.mem_append_right _ (List.mem_append_left _ (List.mem_of_getElem? (i := 21) rfl)))) rfl
theorem T262 : (Jvm.Cond.code ({ cls := "BlockSound$ByteRow", name := "append", desc := "(I)Z" } : Jvm.MethodName) prog_4_method_3_code (2 : Nat) (Option.some Jvm.ClassFile.FieldType.boolean)) ∈ GW := GW_of (List.mem_append_right _ (List.mem_append_right _ (List.mem_append_left _ (List.mem_of_getElem? (i := 22) rfl)))) rfl
theorem T263 : (Jvm.Cond.methodLink "BlockSound$StreamWriter" (70 : Nat) ({ cls := "BlockSound$BitWriter", name := "putNumber", desc := "(II)V" } : Jvm.MethodName)) ∈ GW := GW_of (List.mem_append_right _ (List.mem_append_right _ (List.mem_append_left _ (List.mem_of_getElem? (i := 23) rfl)))) rfl
theorem T264 : (Jvm.Cond.instanceMethod ({ cls := "BlockSound$BitWriter", name := "putNumber", desc := "(II)V" } : Jvm.MethodName)) ∈ GW := GW_of (List.mem_append_right _ (List.mem_append_right _ (List.mem_append_left _ (List.mem_of_getElem? (i := 24) rfl)))) rfl
theorem T265 : (Jvm.Cond.selects "BlockSound$BitWriter" ({ cls := "BlockSound$BitWriter", name := "putNumber", desc := "(II)V" } : Jvm.MethodName) ({ cls := "BlockSound$BitWriter", name := "putNumber", desc := "(II)V" } : Jvm.MethodName)) ∈ GW := GW_of (List.mem_append_right _ (List.mem_append_right _ (List.mem_append_left _ (List.mem_of_getElem? (i := 25) rfl)))) rfl
theorem T266 : (Jvm.Cond.code ({ cls := "BlockSound$BitWriter", name := "putNumber", desc := "(II)V" } : Jvm.MethodName) prog_3_method_5_code (5 : Nat) (Option.none : Option Jvm.ClassFile.FieldType)) ∈ GW := GW_of (List.mem_append_right _ (List.mem_append_right _ (List.mem_append_left _ (List.mem_of_getElem? (i := 26) rfl)))) rfl
theorem T267 : (Jvm.Cond.methodLink "BlockSound$BitWriter" (34 : Nat) ({ cls := "BlockSound$BitWriter", name := "putLowBits", desc := "(II)V" } : Jvm.MethodName)) ∈ GW := GW_of (List.mem_append_right _ (List.mem_append_right _ (List.mem_append_left _ (List.mem_of_getElem? (i := 27) rfl)))) rfl
theorem T268 : (Jvm.Cond.methodLink "BlockSound$StreamWriter" (76 : Nat) ({ cls := "BlockSound$Sound", name := "each", desc := "()I" } : Jvm.MethodName)) ∈ GW := GW_of (List.mem_append_right _ (List.mem_append_right _ (List.mem_append_left _ (List.mem_of_getElem? (i := 28) rfl)))) rfl
theorem T269 : (Jvm.Cond.methodLink "BlockSound$StreamWriter" (79 : Nat) ({ cls := "BlockSound$Means", name := "settle", desc := "(ILBlockSound$Sound;)V" } : Jvm.MethodName)) ∈ GW := GW_of (List.mem_append_right _ (List.mem_append_right _ (List.mem_append_left _ (List.mem_of_getElem? (i := 29) rfl)))) rfl
theorem T270 : (Jvm.Cond.instanceMethod ({ cls := "BlockSound$Means", name := "settle", desc := "(ILBlockSound$Sound;)V" } : Jvm.MethodName)) ∈ GW := GW_of (List.mem_append_right _ (List.mem_append_right _ (List.mem_append_left _ (List.mem_of_getElem? (i := 30) rfl)))) rfl
theorem T271 : (Jvm.Cond.selects "BlockSound$Means" ({ cls := "BlockSound$Means", name := "settle", desc := "(ILBlockSound$Sound;)V" } : Jvm.MethodName) ({ cls := "BlockSound$Means", name := "settle", desc := "(ILBlockSound$Sound;)V" } : Jvm.MethodName)) ∈ GW := GW_of (List.mem_append_right _ (List.mem_append_right _ (List.mem_append_left _ (List.mem_of_getElem? (i := 31) rfl)))) rfl
theorem T272 : (Jvm.Cond.code ({ cls := "BlockSound$Means", name := "settle", desc := "(ILBlockSound$Sound;)V" } : Jvm.MethodName) prog_5_method_3_code (7 : Nat) (Option.none : Option Jvm.ClassFile.FieldType)) ∈ GW := GW_of (List.mem_append_right _ (List.mem_append_right _ (List.mem_append_left _ (List.mem_of_getElem? (i := 32) rfl)))) rfl
theorem T273 : (Jvm.Cond.methodLink "BlockSound$Means" (19 : Nat) ({ cls := "BlockSound$Sound", name := "blockSize", desc := "(I)I" } : Jvm.MethodName)) ∈ GW := GW_of (List.mem_append_right _ (List.mem_append_right _ (List.mem_append_left _ (List.mem_of_getElem? (i := 33) rfl)))) rfl
theorem T274 : (Jvm.Cond.instanceMethod ({ cls := "BlockSound$Sound", name := "blockSize", desc := "(I)I" } : Jvm.MethodName)) ∈ GW := GW_of (List.mem_append_right _ (List.mem_append_right _ (List.mem_append_left _ (List.mem_of_getElem? (i := 34) rfl)))) rfl
theorem T275 : (Jvm.Cond.selects "BlockSound$Sound" ({ cls := "BlockSound$Sound", name := "blockSize", desc := "(I)I" } : Jvm.MethodName) ({ cls := "BlockSound$Sound", name := "blockSize", desc := "(I)I" } : Jvm.MethodName)) ∈ GW := GW_of (List.mem_append_right _ (List.mem_append_right _ (List.mem_append_left _ (List.mem_of_getElem? (i := 35) rfl)))) rfl
theorem T276 : (Jvm.Cond.code ({ cls := "BlockSound$Sound", name := "blockSize", desc := "(I)I" } : Jvm.MethodName) prog_6_method_13_code (2 : Nat) (Option.some Jvm.ClassFile.FieldType.int)) ∈ GW := GW_of (List.mem_append_right _ (List.mem_append_right _ (List.mem_append_left _ (List.mem_of_getElem? (i := 36) rfl)))) rfl
theorem T277 : (Jvm.Cond.methodLink "BlockSound$Sound" (48 : Nat) ({ cls := "BlockSound$Sound", name := "samplesBefore", desc := "(I)I" } : Jvm.MethodName)) ∈ GW := GW_of (List.mem_append_right _ (List.mem_append_right _ (List.mem_append_left _ (List.mem_of_getElem? (i := 37) rfl)))) rfl
theorem T278 : (Jvm.Cond.instanceMethod ({ cls := "BlockSound$Sound", name := "samplesBefore", desc := "(I)I" } : Jvm.MethodName)) ∈ GW := GW_of (List.mem_append_right _ (List.mem_append_right _ (List.mem_append_left _ (List.mem_of_getElem? (i := 38) rfl)))) rfl
theorem T279 : (Jvm.Cond.selects "BlockSound$Sound" ({ cls := "BlockSound$Sound", name := "samplesBefore", desc := "(I)I" } : Jvm.MethodName) ({ cls := "BlockSound$Sound", name := "samplesBefore", desc := "(I)I" } : Jvm.MethodName)) ∈ GW := GW_of (List.mem_append_right _ (List.mem_append_right _ (List.mem_append_left _ (List.mem_of_getElem? (i := 39) rfl)))) rfl
theorem T280 : (Jvm.Cond.code ({ cls := "BlockSound$Sound", name := "samplesBefore", desc := "(I)I" } : Jvm.MethodName) prog_6_method_11_code (2 : Nat) (Option.some Jvm.ClassFile.FieldType.int)) ∈ GW := GW_of (List.mem_append_right _ (List.mem_append_right _ (List.mem_append_left _ (List.mem_of_getElem? (i := 40) rfl)))) rfl
theorem T281 : (Jvm.Cond.methodLink "BlockSound$Sound" (29 : Nat) ({ cls := "java/lang/Math", name := "min", desc := "(II)I" } : Jvm.MethodName)) ∈ GW := GW_of (List.mem_append_right _ (List.mem_append_right _ (List.mem_append_left _ (List.mem_of_getElem? (i := 41) rfl)))) rfl
theorem T282 : (Jvm.Cond.methodLink "BlockSound$Means" (25 : Nat) ({ cls := "BlockSound$Sound", name := "firstPlace", desc := "(I)I" } : Jvm.MethodName)) ∈ GW := GW_of (List.mem_append_right _ (List.mem_append_right _ (List.mem_append_left _ (List.mem_of_getElem? (i := 42) rfl)))) rfl
theorem T283 : (Jvm.Cond.instanceMethod ({ cls := "BlockSound$Sound", name := "firstPlace", desc := "(I)I" } : Jvm.MethodName)) ∈ GW := GW_of (List.mem_append_right _ (List.mem_append_right _ (List.mem_append_left _ (List.mem_of_getElem? (i := 43) rfl)))) rfl
theorem T284 : (Jvm.Cond.selects "BlockSound$Sound" ({ cls := "BlockSound$Sound", name := "firstPlace", desc := "(I)I" } : Jvm.MethodName) ({ cls := "BlockSound$Sound", name := "firstPlace", desc := "(I)I" } : Jvm.MethodName)) ∈ GW := GW_of (List.mem_append_right _ (List.mem_append_right _ (List.mem_append_left _ (List.mem_of_getElem? (i := 44) rfl)))) rfl
theorem T285 : (Jvm.Cond.code ({ cls := "BlockSound$Sound", name := "firstPlace", desc := "(I)I" } : Jvm.MethodName) prog_6_method_12_code (2 : Nat) (Option.some Jvm.ClassFile.FieldType.int)) ∈ GW := GW_of (List.mem_append_right _ (List.mem_append_right _ (List.mem_append_left _ (List.mem_of_getElem? (i := 45) rfl)))) rfl
theorem T286 : (Jvm.Cond.methodLink "BlockSound$Sound" (52 : Nat) ({ cls := "BlockSound$Sound", name := "channelOf", desc := "(I)I" } : Jvm.MethodName)) ∈ GW := GW_of (List.mem_append_right _ (List.mem_append_right _ (List.mem_append_left _ (List.mem_of_getElem? (i := 46) rfl)))) rfl
theorem T287 : (Jvm.Cond.instanceMethod ({ cls := "BlockSound$Sound", name := "channelOf", desc := "(I)I" } : Jvm.MethodName)) ∈ GW := GW_of (List.mem_append_right _ (List.mem_append_right _ (List.mem_append_left _ (List.mem_of_getElem? (i := 47) rfl)))) rfl
theorem T288 : (Jvm.Cond.selects "BlockSound$Sound" ({ cls := "BlockSound$Sound", name := "channelOf", desc := "(I)I" } : Jvm.MethodName) ({ cls := "BlockSound$Sound", name := "channelOf", desc := "(I)I" } : Jvm.MethodName)) ∈ GW := GW_of (List.mem_append_right _ (List.mem_append_right _ (List.mem_append_left _ (List.mem_of_getElem? (i := 48) rfl)))) rfl
theorem T289 : (Jvm.Cond.code ({ cls := "BlockSound$Sound", name := "channelOf", desc := "(I)I" } : Jvm.MethodName) prog_6_method_10_code (2 : Nat) (Option.some Jvm.ClassFile.FieldType.int)) ∈ GW := GW_of (List.mem_append_right _ (List.mem_append_right _ (List.mem_append_left _ (List.mem_of_getElem? (i := 49) rfl)))) rfl
theorem T290 : (Jvm.Cond.methodLink "BlockSound$Means" (32 : Nat) ({ cls := "BlockSound$Sound", name := "sampleAt", desc := "(I)I" } : Jvm.MethodName)) ∈ GW := GW_of (List.mem_append_right _ (List.mem_append_right _ (List.mem_append_left _ (List.mem_of_getElem? (i := 50) rfl)))) rfl
theorem T291 : (Jvm.Cond.instanceMethod ({ cls := "BlockSound$Sound", name := "sampleAt", desc := "(I)I" } : Jvm.MethodName)) ∈ GW := GW_of (List.mem_append_right _ (List.mem_append_right _ (List.mem_append_left _ (List.mem_of_getElem? (i := 51) rfl)))) rfl
theorem T292 : (Jvm.Cond.selects "BlockSound$Sound" ({ cls := "BlockSound$Sound", name := "sampleAt", desc := "(I)I" } : Jvm.MethodName) ({ cls := "BlockSound$Sound", name := "sampleAt", desc := "(I)I" } : Jvm.MethodName)) ∈ GW := GW_of (List.mem_append_right _ (List.mem_append_right _ (List.mem_append_left _ (List.mem_of_getElem? (i := 52) rfl)))) rfl
theorem T293 : (Jvm.Cond.code ({ cls := "BlockSound$Sound", name := "sampleAt", desc := "(I)I" } : Jvm.MethodName) prog_6_method_14_code (2 : Nat) (Option.some Jvm.ClassFile.FieldType.int)) ∈ GW := GW_of (List.mem_append_right _ (List.mem_append_right _ (List.mem_append_left _ (List.mem_of_getElem? (i := 53) rfl)))) rfl
theorem T294 : (Jvm.Cond.methodLinkNest "BlockSound$Means" (15 : Nat) ({ cls := "BlockSound", name := "roundedMean", desc := "(II)I" } : Jvm.MethodName) "BlockSound") ∈ NL := NL_of (List.mem_append_right _ (List.mem_append_right _ (List.mem_append_left _ (List.mem_of_getElem? (i := 54) rfl)))) rfl
theorem T295 : (Jvm.Cond.static ({ cls := "BlockSound", name := "roundedMean", desc := "(II)I" } : Jvm.MethodName)) ∈ GW := GW_of (List.mem_append_right _ (List.mem_append_right _ (List.mem_append_left _ (List.mem_of_getElem? (i := 55) rfl)))) rfl
theorem T296 : (Jvm.Cond.code ({ cls := "BlockSound", name := "roundedMean", desc := "(II)I" } : Jvm.MethodName) prog_1_method_18_code (2 : Nat) (Option.some Jvm.ClassFile.FieldType.int)) ∈ GW := GW_of (List.mem_append_right _ (List.mem_append_right _ (List.mem_append_left _ (List.mem_of_getElem? (i := 56) rfl)))) rfl
theorem T297 : (Jvm.Cond.methodLink "BlockSound" (126 : Nat) ({ cls := "java/lang/Math", name := "floorDiv", desc := "(II)I" } : Jvm.MethodName)) ∈ GW := GW_of (List.mem_append_right _ (List.mem_append_right _ (List.mem_append_left _ (List.mem_of_getElem? (i := 57) rfl)))) rfl
theorem T298 : (Jvm.Cond.static ({ cls := "java/lang/Math", name := "floorDiv", desc := "(II)I" } : Jvm.MethodName)) ∈ GW := GW_of (List.mem_append_right _ (List.mem_append_right _ (List.mem_append_left _ (List.mem_of_getElem? (i := 58) rfl)))) rfl
theorem T299 : (Jvm.Cond.code ({ cls := "java/lang/Math", name := "floorDiv", desc := "(II)I" } : Jvm.MethodName) prog_11_method_47_code (3 : Nat) (Option.some Jvm.ClassFile.FieldType.int)) ∈ GW := GW_of (List.mem_append_right _ (List.mem_append_right _ (List.mem_append_left _ (List.mem_of_getElem? (i := 59) rfl)))) rfl
theorem T300 : (Jvm.Cond.methodLink "BlockSound$StreamWriter" (83 : Nat) ({ cls := "BlockSound$StreamWriter", name := "choose", desc := "(I)V" } : Jvm.MethodName)) ∈ GW := GW_of (List.mem_append_right _ (List.mem_append_right _ (List.mem_append_left _ (List.mem_of_getElem? (i := 60) rfl)))) rfl
theorem T302 : (Jvm.Cond.instanceMethod ({ cls := "BlockSound$StreamWriter", name := "choose", desc := "(I)V" } : Jvm.MethodName)) ∈ GW := GW_of (List.mem_append_right _ (List.mem_append_right _ (List.mem_append_left _ (List.mem_of_getElem? (i := 62) rfl)))) rfl
theorem T303 : (Jvm.Cond.code ({ cls := "BlockSound$StreamWriter", name := "choose", desc := "(I)V" } : Jvm.MethodName) prog_8_method_3_code (7 : Nat) (Option.none : Option Jvm.ClassFile.FieldType)) ∈ GW := GW_of (List.mem_append_right _ (List.mem_append_right _ (List.mem_append_left _ (List.mem_of_getElem? (i := 63) rfl)))) rfl
theorem T304 : (Jvm.Cond.methodLink "BlockSound$StreamWriter" (93 : Nat) ({ cls := "BlockSound$StreamWriter", name := "findRests", desc := "(II)V" } : Jvm.MethodName)) ∈ GW := GW_of (List.mem_append_right _ (List.mem_append_right _ (List.mem_append_left _ (List.mem_of_getElem? (i := 64) rfl)))) rfl
theorem T306 : (Jvm.Cond.instanceMethod ({ cls := "BlockSound$StreamWriter", name := "findRests", desc := "(II)V" } : Jvm.MethodName)) ∈ GW := GW_of (List.mem_append_right _ (List.mem_append_right _ (List.mem_append_left _ (List.mem_of_getElem? (i := 66) rfl)))) rfl
theorem T307 : (Jvm.Cond.code ({ cls := "BlockSound$StreamWriter", name := "findRests", desc := "(II)V" } : Jvm.MethodName) prog_8_method_5_code (6 : Nat) (Option.none : Option Jvm.ClassFile.FieldType)) ∈ GW := GW_of (List.mem_append_right _ (List.mem_append_right _ (List.mem_append_left _ (List.mem_of_getElem? (i := 67) rfl)))) rfl
theorem T308 : (Jvm.Cond.methodLink "BlockSound$StreamWriter" (110 : Nat) ({ cls := "BlockSound$Means", name := "ahead", desc := "(II)I" } : Jvm.MethodName)) ∈ GW := GW_of (List.mem_append_right _ (List.mem_append_right _ (List.mem_append_left _ (List.mem_of_getElem? (i := 68) rfl)))) rfl
theorem T309 : (Jvm.Cond.instanceMethod ({ cls := "BlockSound$Means", name := "ahead", desc := "(II)I" } : Jvm.MethodName)) ∈ GW := GW_of (List.mem_append_right _ (List.mem_append_right _ (List.mem_append_left _ (List.mem_of_getElem? (i := 69) rfl)))) rfl
theorem T310 : (Jvm.Cond.selects "BlockSound$Means" ({ cls := "BlockSound$Means", name := "ahead", desc := "(II)I" } : Jvm.MethodName) ({ cls := "BlockSound$Means", name := "ahead", desc := "(II)I" } : Jvm.MethodName)) ∈ GW := GW_of (List.mem_append_right _ (List.mem_append_right _ (List.mem_append_left _ (List.mem_of_getElem? (i := 70) rfl)))) rfl
theorem T311 : (Jvm.Cond.code ({ cls := "BlockSound$Means", name := "ahead", desc := "(II)I" } : Jvm.MethodName) prog_5_method_2_code (6 : Nat) (Option.some Jvm.ClassFile.FieldType.int)) ∈ GW := GW_of (List.mem_append_right _ (List.mem_append_right _ (List.mem_append_left _ (List.mem_of_getElem? (i := 71) rfl)))) rfl
theorem T312 : (Jvm.Cond.methodLink "BlockSound$StreamWriter" (113 : Nat) ({ cls := "BlockSound$Sound", name := "firstPlace", desc := "(I)I" } : Jvm.MethodName)) ∈ GW := GW_of (List.mem_append_right _ (List.mem_append_right _ (List.mem_append_left _ (List.mem_of_getElem? (i := 72) rfl)))) rfl
theorem T313 : (Jvm.Cond.methodLink "BlockSound$StreamWriter" (116 : Nat) ({ cls := "BlockSound$Sound", name := "blockSize", desc := "(I)I" } : Jvm.MethodName)) ∈ GW := GW_of (List.mem_append_right _ (List.mem_append_right _ (List.mem_append_left _ (List.mem_of_getElem? (i := 73) rfl)))) rfl
theorem T314 : (Jvm.Cond.methodLink "BlockSound$StreamWriter" (119 : Nat) ({ cls := "BlockSound$Sound", name := "sampleAt", desc := "(I)I" } : Jvm.MethodName)) ∈ GW := GW_of (List.mem_append_right _ (List.mem_append_right _ (List.mem_append_left _ (List.mem_of_getElem? (i := 74) rfl)))) rfl
theorem T315 : (Jvm.Cond.methodLink "BlockSound$StreamWriter" (122 : Nat) ({ cls := "BlockSound$Sound", name := "toldAhead", desc := "(III)I" } : Jvm.MethodName)) ∈ GW := GW_of (List.mem_append_right _ (List.mem_append_right _ (List.mem_append_left _ (List.mem_of_getElem? (i := 75) rfl)))) rfl
theorem T316 : (Jvm.Cond.instanceMethod ({ cls := "BlockSound$Sound", name := "toldAhead", desc := "(III)I" } : Jvm.MethodName)) ∈ GW := GW_of (List.mem_append_right _ (List.mem_append_right _ (List.mem_append_left _ (List.mem_of_getElem? (i := 76) rfl)))) rfl
theorem T317 : (Jvm.Cond.selects "BlockSound$Sound" ({ cls := "BlockSound$Sound", name := "toldAhead", desc := "(III)I" } : Jvm.MethodName) ({ cls := "BlockSound$Sound", name := "toldAhead", desc := "(III)I" } : Jvm.MethodName)) ∈ GW := GW_of (List.mem_append_right _ (List.mem_append_right _ (List.mem_append_left _ (List.mem_of_getElem? (i := 77) rfl)))) rfl
theorem T318 : (Jvm.Cond.code ({ cls := "BlockSound$Sound", name := "toldAhead", desc := "(III)I" } : Jvm.MethodName) prog_6_method_16_code (7 : Nat) (Option.some Jvm.ClassFile.FieldType.int)) ∈ GW := GW_of (List.mem_append_right _ (List.mem_append_right _ (List.mem_append_left _ (List.mem_of_getElem? (i := 78) rfl)))) rfl
theorem T319 : (Jvm.Cond.methodLink "BlockSound$Sound" (55 : Nat) ({ cls := "BlockSound$Sound", name := "sampleAt", desc := "(I)I" } : Jvm.MethodName)) ∈ GW := GW_of (List.mem_append_right _ (List.mem_append_right _ (List.mem_append_left _ (List.mem_of_getElem? (i := 79) rfl)))) rfl
theorem T320 : (Jvm.Cond.methodLinkNest "BlockSound$StreamWriter" (125 : Nat) ({ cls := "BlockSound", name := "fold", desc := "(I)I" } : Jvm.MethodName) "BlockSound") ∈ NL := NL_of (List.mem_append_right _ (List.mem_append_right _ (List.mem_append_left _ (List.mem_of_getElem? (i := 80) rfl)))) rfl
theorem T321 : (Jvm.Cond.static ({ cls := "BlockSound", name := "fold", desc := "(I)I" } : Jvm.MethodName)) ∈ GW := GW_of (List.mem_append_right _ (List.mem_append_right _ (List.mem_append_left _ (List.mem_of_getElem? (i := 81) rfl)))) rfl
theorem T322 : (Jvm.Cond.code ({ cls := "BlockSound", name := "fold", desc := "(I)I" } : Jvm.MethodName) prog_1_method_16_code (1 : Nat) (Option.some Jvm.ClassFile.FieldType.int)) ∈ GW := GW_of (List.mem_append_right _ (List.mem_append_right _ (List.mem_append_left _ (List.mem_of_getElem? (i := 82) rfl)))) rfl
theorem T323 : (Jvm.Cond.methodLink "BlockSound$StreamWriter" (96 : Nat) ({ cls := "BlockSound$StreamWriter", name := "zerosFor", desc := "(I)I" } : Jvm.MethodName)) ∈ GW := GW_of (List.mem_append_right _ (List.mem_append_right _ (List.mem_append_left _ (List.mem_of_getElem? (i := 83) rfl)))) rfl
theorem T325 : (Jvm.Cond.instanceMethod ({ cls := "BlockSound$StreamWriter", name := "zerosFor", desc := "(I)I" } : Jvm.MethodName)) ∈ GW := GW_of (List.mem_append_right _ (List.mem_append_right _ (List.mem_append_left _ (List.mem_of_getElem? (i := 85) rfl)))) rfl
theorem T326 : (Jvm.Cond.code ({ cls := "BlockSound$StreamWriter", name := "zerosFor", desc := "(I)I" } : Jvm.MethodName) prog_8_method_6_code (4 : Nat) (Option.some Jvm.ClassFile.FieldType.int)) ∈ GW := GW_of (List.mem_append_right _ (List.mem_append_right _ (List.mem_append_left _ (List.mem_of_getElem? (i := 86) rfl)))) rfl
theorem T327 : (Jvm.Cond.constant "BlockSound$StreamWriter" 102 (iI (2147483647))) ∈ GW := by
  have e : iI (2147483647) = (2147483647 : Int32) := by decide
  rw [e]
  exact GW_of (List.mem_append_right _ (List.mem_append_right _ (List.mem_append_left _ (List.mem_of_getElem? (i := 87) rfl)))) rfl
theorem T328 : (Jvm.Cond.methodLink "BlockSound$StreamWriter" (103 : Nat) ({ cls := "BlockSound$StreamWriter", name := "bitsWith", desc := "(III)I" } : Jvm.MethodName)) ∈ GW := GW_of (List.mem_append_right _ (List.mem_append_right _ (List.mem_append_left _ (List.mem_of_getElem? (i := 88) rfl)))) rfl
theorem T330 : (Jvm.Cond.instanceMethod ({ cls := "BlockSound$StreamWriter", name := "bitsWith", desc := "(III)I" } : Jvm.MethodName)) ∈ GW := GW_of (List.mem_append_right _ (List.mem_append_right _ (List.mem_append_left _ (List.mem_of_getElem? (i := 90) rfl)))) rfl
theorem T331 : (Jvm.Cond.code ({ cls := "BlockSound$StreamWriter", name := "bitsWith", desc := "(III)I" } : Jvm.MethodName) prog_8_method_7_code (4 : Nat) (Option.some Jvm.ClassFile.FieldType.int)) ∈ GW := GW_of (List.mem_append_right _ (List.mem_append_right _ (List.mem_append_left _ (List.mem_of_getElem? (i := 91) rfl)))) rfl
theorem T332 : (Jvm.Cond.methodLinkNest "BlockSound$StreamWriter" (128 : Nat) ({ cls := "BlockSound", name := "numberBits", desc := "(II)I" } : Jvm.MethodName) "BlockSound") ∈ NL := NL_of (List.mem_append_right _ (List.mem_append_right _ (List.mem_append_left _ (List.mem_of_getElem? (i := 92) rfl)))) rfl
theorem T333 : (Jvm.Cond.static ({ cls := "BlockSound", name := "numberBits", desc := "(II)I" } : Jvm.MethodName)) ∈ GW := GW_of (List.mem_append_right _ (List.mem_append_right _ (List.mem_append_left _ (List.mem_of_getElem? (i := 93) rfl)))) rfl
theorem T334 : (Jvm.Cond.code ({ cls := "BlockSound", name := "numberBits", desc := "(II)I" } : Jvm.MethodName) prog_1_method_15_code (2 : Nat) (Option.some Jvm.ClassFile.FieldType.int)) ∈ GW := GW_of (List.mem_append_right _ (List.mem_append_right _ (List.mem_append_left _ (List.mem_of_getElem? (i := 94) rfl)))) rfl
theorem T335 : (Jvm.Cond.methodLink "BlockSound$StreamWriter" (87 : Nat) ({ cls := "BlockSound$StreamWriter", name := "putBlock", desc := "(I)V" } : Jvm.MethodName)) ∈ GW := GW_of (List.mem_append_right _ (List.mem_append_right _ (List.mem_append_left _ (List.mem_of_getElem? (i := 95) rfl)))) rfl
theorem T337 : (Jvm.Cond.instanceMethod ({ cls := "BlockSound$StreamWriter", name := "putBlock", desc := "(I)V" } : Jvm.MethodName)) ∈ GW := GW_of (List.mem_append_right _ (List.mem_append_right _ (List.mem_append_left _ (List.mem_of_getElem? (i := 97) rfl)))) rfl
theorem T338 : (Jvm.Cond.code ({ cls := "BlockSound$StreamWriter", name := "putBlock", desc := "(I)V" } : Jvm.MethodName) prog_8_method_4_code (5 : Nat) (Option.none : Option Jvm.ClassFile.FieldType)) ∈ GW := GW_of (List.mem_append_right _ (List.mem_append_right _ (List.mem_append_left _ (List.mem_of_getElem? (i := 98) rfl)))) rfl
theorem T339 : (Jvm.Cond.methodLink "BlockSound$StreamWriter" (90 : Nat) ({ cls := "BlockSound$BitWriter", name := "fillByte", desc := "()V" } : Jvm.MethodName)) ∈ GW := GW_of (List.mem_append_right _ (List.mem_append_right _ (List.mem_append_left _ (List.mem_of_getElem? (i := 99) rfl)))) rfl
theorem T340 : (Jvm.Cond.instanceMethod ({ cls := "BlockSound$BitWriter", name := "fillByte", desc := "()V" } : Jvm.MethodName)) ∈ GW := GW_of (List.mem_append_right _ (List.mem_append_right _ (List.mem_append_left _ (List.mem_of_getElem? (i := 100) rfl)))) rfl
theorem T341 : (Jvm.Cond.selects "BlockSound$BitWriter" ({ cls := "BlockSound$BitWriter", name := "fillByte", desc := "()V" } : Jvm.MethodName) ({ cls := "BlockSound$BitWriter", name := "fillByte", desc := "()V" } : Jvm.MethodName)) ∈ GW := GW_of (List.mem_append_right _ (List.mem_append_right _ (List.mem_append_left _ (List.mem_of_getElem? (i := 101) rfl)))) rfl
theorem T342 : (Jvm.Cond.code ({ cls := "BlockSound$BitWriter", name := "fillByte", desc := "()V" } : Jvm.MethodName) prog_3_method_6_code (1 : Nat) (Option.none : Option Jvm.ClassFile.FieldType)) ∈ GW := GW_of (List.mem_append_right _ (List.mem_append_right _ (List.mem_append_left _ (List.mem_of_getElem? (i := 102) rfl)))) rfl
theorem T343 : (Jvm.Cond.methodLink "BlockSoundLaw" (28 : Nat) ({ cls := "BlockSound", name := "at", desc := "(I)I" } : Jvm.MethodName)) ∈ GW := GW_of (List.mem_append_right _ (List.mem_append_right _ (List.mem_append_left _ (List.mem_of_getElem? (i := 103) rfl)))) rfl
theorem T344 : (Jvm.Cond.instanceMethod ({ cls := "BlockSound", name := "at", desc := "(I)I" } : Jvm.MethodName)) ∈ GW := GW_of (List.mem_append_right _ (List.mem_append_right _ (List.mem_append_left _ (List.mem_of_getElem? (i := 104) rfl)))) rfl
theorem T345 : (Jvm.Cond.selects "BlockSound" ({ cls := "BlockSound", name := "at", desc := "(I)I" } : Jvm.MethodName) ({ cls := "BlockSound", name := "at", desc := "(I)I" } : Jvm.MethodName)) ∈ GW := GW_of (List.mem_append_right _ (List.mem_append_right _ (List.mem_append_left _ (List.mem_of_getElem? (i := 105) rfl)))) rfl
theorem T346 : (Jvm.Cond.code ({ cls := "BlockSound", name := "at", desc := "(I)I" } : Jvm.MethodName) prog_1_method_5_code (2 : Nat) (Option.some Jvm.ClassFile.FieldType.int)) ∈ GW := GW_of (List.mem_append_right _ (List.mem_append_right _ (List.mem_append_left _ (List.mem_of_getElem? (i := 106) rfl)))) rfl
theorem T347 : (Jvm.Cond.methodLink "BlockSound" (75 : Nat) ({ cls := "BlockSound$ByteRow", name := "byteAt", desc := "(I)I" } : Jvm.MethodName)) ∈ GW := GW_of (List.mem_append_right _ (List.mem_append_right _ (List.mem_append_left _ (List.mem_of_getElem? (i := 107) rfl)))) rfl
theorem T348 : (Jvm.Cond.instanceMethod ({ cls := "BlockSound$ByteRow", name := "byteAt", desc := "(I)I" } : Jvm.MethodName)) ∈ GW := GW_of (List.mem_append_right _ (List.mem_append_right _ (List.mem_append_left _ (List.mem_of_getElem? (i := 108) rfl)))) rfl
theorem T349 : (Jvm.Cond.selects "BlockSound$ByteRow" ({ cls := "BlockSound$ByteRow", name := "byteAt", desc := "(I)I" } : Jvm.MethodName) ({ cls := "BlockSound$ByteRow", name := "byteAt", desc := "(I)I" } : Jvm.MethodName)) ∈ GW := GW_of (List.mem_append_right _ (List.mem_append_right _ (List.mem_append_left _ (List.mem_of_getElem? (i := 109) rfl)))) rfl
theorem T350 : (Jvm.Cond.code ({ cls := "BlockSound$ByteRow", name := "byteAt", desc := "(I)I" } : Jvm.MethodName) prog_4_method_4_code (2 : Nat) (Option.some Jvm.ClassFile.FieldType.int)) ∈ GW := GW_of (List.mem_append_right _ (List.mem_append_right _ (List.mem_append_left _ (List.mem_of_getElem? (i := 110) rfl)))) rfl
theorem T351 : (Jvm.Cond.methodLink "BlockSoundLaw" (32 : Nat) ({ cls := "BlockSound", name := "block", desc := "(II)I" } : Jvm.MethodName)) ∈ GW := GW_of (List.mem_append_right _ (List.mem_append_right _ (List.mem_append_left _ (List.mem_of_getElem? (i := 111) rfl)))) rfl
theorem T352 : (Jvm.Cond.instanceMethod ({ cls := "BlockSound", name := "block", desc := "(II)I" } : Jvm.MethodName)) ∈ GW := GW_of (List.mem_append_right _ (List.mem_append_right _ (List.mem_append_left _ (List.mem_of_getElem? (i := 112) rfl)))) rfl
theorem T353 : (Jvm.Cond.selects "BlockSound" ({ cls := "BlockSound", name := "block", desc := "(II)I" } : Jvm.MethodName) ({ cls := "BlockSound", name := "block", desc := "(II)I" } : Jvm.MethodName)) ∈ GW := GW_of (List.mem_append_right _ (List.mem_append_right _ (List.mem_append_left _ (List.mem_of_getElem? (i := 113) rfl)))) rfl
theorem T354 : (Jvm.Cond.code ({ cls := "BlockSound", name := "block", desc := "(II)I" } : Jvm.MethodName) prog_1_method_6_code (3 : Nat) (Option.some Jvm.ClassFile.FieldType.int)) ∈ GW := GW_of (List.mem_append_right _ (List.mem_append_right _ (List.mem_append_left _ (List.mem_of_getElem? (i := 114) rfl)))) rfl
theorem T355 : (Jvm.Cond.methodLink "BlockSound" (85 : Nat) ({ cls := "BlockSound$Sound", name := "channelOf", desc := "(I)I" } : Jvm.MethodName)) ∈ GW := GW_of (List.mem_append_right _ (List.mem_append_right _ (List.mem_append_left _ (List.mem_of_getElem? (i := 115) rfl)))) rfl
theorem T356 : (Jvm.Cond.methodLink "BlockSound" (95 : Nat) ({ cls := "BlockSound$StreamWriter", name := "bitsTaken", desc := "(I)I" } : Jvm.MethodName)) ∈ GW := GW_of (List.mem_append_right _ (List.mem_append_right _ (List.mem_append_left _ (List.mem_of_getElem? (i := 116) rfl)))) rfl
theorem T357 : (Jvm.Cond.instanceMethod ({ cls := "BlockSound$StreamWriter", name := "bitsTaken", desc := "(I)I" } : Jvm.MethodName)) ∈ GW := GW_of (List.mem_append_right _ (List.mem_append_right _ (List.mem_append_left _ (List.mem_of_getElem? (i := 117) rfl)))) rfl
theorem T358 : (Jvm.Cond.selects "BlockSound$StreamWriter" ({ cls := "BlockSound$StreamWriter", name := "bitsTaken", desc := "(I)I" } : Jvm.MethodName) ({ cls := "BlockSound$StreamWriter", name := "bitsTaken", desc := "(I)I" } : Jvm.MethodName)) ∈ GW := GW_of (List.mem_append_right _ (List.mem_append_right _ (List.mem_append_left _ (List.mem_of_getElem? (i := 118) rfl)))) rfl
theorem T359 : (Jvm.Cond.code ({ cls := "BlockSound$StreamWriter", name := "bitsTaken", desc := "(I)I" } : Jvm.MethodName) prog_8_method_9_code (2 : Nat) (Option.some Jvm.ClassFile.FieldType.int)) ∈ GW := GW_of (List.mem_append_right _ (List.mem_append_right _ (List.mem_append_left _ (List.mem_of_getElem? (i := 119) rfl)))) rfl
theorem T360 : (Jvm.Cond.methodLink "BlockSound$StreamWriter" (131 : Nat) ({ cls := "BlockSound$StreamWriter", name := "bitsFor", desc := "(III)I" } : Jvm.MethodName)) ∈ GW := GW_of (List.mem_append_right _ (List.mem_append_right _ (List.mem_append_left _ (List.mem_of_getElem? (i := 120) rfl)))) rfl
theorem T361 : (Jvm.Cond.instanceMethod ({ cls := "BlockSound$StreamWriter", name := "bitsFor", desc := "(III)I" } : Jvm.MethodName)) ∈ GW := GW_of (List.mem_append_right _ (List.mem_append_right _ (List.mem_append_left _ (List.mem_of_getElem? (i := 121) rfl)))) rfl
theorem T362 : (Jvm.Cond.selects "BlockSound$StreamWriter" ({ cls := "BlockSound$StreamWriter", name := "bitsFor", desc := "(III)I" } : Jvm.MethodName) ({ cls := "BlockSound$StreamWriter", name := "bitsFor", desc := "(III)I" } : Jvm.MethodName)) ∈ GW := GW_of (List.mem_append_right _ (List.mem_append_right _ (List.mem_append_left _ (List.mem_of_getElem? (i := 122) rfl)))) rfl
theorem T363 : (Jvm.Cond.code ({ cls := "BlockSound$StreamWriter", name := "bitsFor", desc := "(III)I" } : Jvm.MethodName) prog_8_method_8_code (4 : Nat) (Option.some Jvm.ClassFile.FieldType.int)) ∈ GW := GW_of (List.mem_append_right _ (List.mem_append_right _ (List.mem_append_left _ (List.mem_of_getElem? (i := 123) rfl)))) rfl
theorem T364 : (Jvm.Cond.methodLink "BlockSoundLaw" (37 : Nat) ({ cls := "BlockSound", name := "cost", desc := "(III)I" } : Jvm.MethodName)) ∈ GW := GW_of (List.mem_append_right _ (List.mem_append_right _ (List.mem_append_left _ (List.mem_of_getElem? (i := 124) rfl)))) rfl
theorem T365 : (Jvm.Cond.instanceMethod ({ cls := "BlockSound", name := "cost", desc := "(III)I" } : Jvm.MethodName)) ∈ GW := GW_of (List.mem_append_right _ (List.mem_append_right _ (List.mem_append_left _ (List.mem_of_getElem? (i := 125) rfl)))) rfl
theorem T366 : (Jvm.Cond.selects "BlockSound" ({ cls := "BlockSound", name := "cost", desc := "(III)I" } : Jvm.MethodName) ({ cls := "BlockSound", name := "cost", desc := "(III)I" } : Jvm.MethodName)) ∈ GW := GW_of (List.mem_append_right _ (List.mem_append_right _ (List.mem_append_left _ (List.mem_of_getElem? (i := 126) rfl)))) rfl
theorem T367 : (Jvm.Cond.code ({ cls := "BlockSound", name := "cost", desc := "(III)I" } : Jvm.MethodName) prog_1_method_7_code (5 : Nat) (Option.some Jvm.ClassFile.FieldType.int)) ∈ GW := GW_of (List.mem_append_right _ (List.mem_append_right _ (List.mem_append_left _ (List.mem_of_getElem? (i := 127) rfl)))) rfl
theorem T368 : (Jvm.Cond.methodLink "BlockSound" (98 : Nat) ({ cls := "BlockSound$StreamWriter", name := "bitsFor", desc := "(III)I" } : Jvm.MethodName)) ∈ GW := GW_of (List.mem_append_right _ (List.mem_append_right _ (List.mem_append_left _ (List.mem_of_getElem? (i := 128) rfl)))) rfl
theorem T369 : (Jvm.Cond.methodLink "BlockSoundLaw" (42 : Nat) ({ cls := "BlockSound", name := "feed", desc := "(I)Z" } : Jvm.MethodName)) ∈ GW := GW_of (List.mem_append_right _ (List.mem_append_right _ (List.mem_append_left _ (List.mem_of_getElem? (i := 129) rfl)))) rfl
theorem T370 : (Jvm.Cond.instanceMethod ({ cls := "BlockSound", name := "feed", desc := "(I)Z" } : Jvm.MethodName)) ∈ GW := GW_of (List.mem_append_right _ (List.mem_append_right _ (List.mem_append_left _ (List.mem_of_getElem? (i := 130) rfl)))) rfl
theorem T371 : (Jvm.Cond.selects "BlockSound" ({ cls := "BlockSound", name := "feed", desc := "(I)Z" } : Jvm.MethodName) ({ cls := "BlockSound", name := "feed", desc := "(I)Z" } : Jvm.MethodName)) ∈ GW := GW_of (List.mem_append_right _ (List.mem_append_right _ (List.mem_append_left _ (List.mem_of_getElem? (i := 131) rfl)))) rfl
theorem T372 : (Jvm.Cond.code ({ cls := "BlockSound", name := "feed", desc := "(I)Z" } : Jvm.MethodName) prog_1_method_8_code (2 : Nat) (Option.some Jvm.ClassFile.FieldType.boolean)) ∈ GW := GW_of (List.mem_append_right _ (List.mem_append_right _ (List.mem_append_left _ (List.mem_of_getElem? (i := 132) rfl)))) rfl
theorem T373 : (Jvm.Cond.methodLink "BlockSound" (102 : Nat) ({ cls := "BlockSound$ByteRow", name := "append", desc := "(I)Z" } : Jvm.MethodName)) ∈ GW := GW_of (List.mem_append_right _ (List.mem_append_right _ (List.mem_append_left _ (List.mem_of_getElem? (i := 133) rfl)))) rfl
theorem T374 : (Jvm.Cond.methodLink "BlockSoundLaw" (47 : Nat) ({ cls := "BlockSound", name := "take", desc := "()I" } : Jvm.MethodName)) ∈ GW := GW_of (List.mem_append_right _ (List.mem_append_right _ (List.mem_append_left _ (List.mem_of_getElem? (i := 134) rfl)))) rfl
theorem T375 : (Jvm.Cond.instanceMethod ({ cls := "BlockSound", name := "take", desc := "()I" } : Jvm.MethodName)) ∈ GW := GW_of (List.mem_append_right _ (List.mem_append_right _ (List.mem_append_left _ (List.mem_of_getElem? (i := 135) rfl)))) rfl
theorem T376 : (Jvm.Cond.selects "BlockSound" ({ cls := "BlockSound", name := "take", desc := "()I" } : Jvm.MethodName) ({ cls := "BlockSound", name := "take", desc := "()I" } : Jvm.MethodName)) ∈ GW := GW_of (List.mem_append_right _ (List.mem_append_right _ (List.mem_append_left _ (List.mem_of_getElem? (i := 136) rfl)))) rfl
theorem T377 : (Jvm.Cond.code ({ cls := "BlockSound", name := "take", desc := "()I" } : Jvm.MethodName) prog_1_method_9_code (1 : Nat) (Option.some Jvm.ClassFile.FieldType.int)) ∈ GW := GW_of (List.mem_append_right _ (List.mem_append_right _ (List.mem_append_left _ (List.mem_of_getElem? (i := 137) rfl)))) rfl
theorem T378 : (Jvm.Cond.methodLink "BlockSound" (103 : Nat) ({ cls := "BlockSound$ByteRow", name := "copy", desc := "(LBlockSound$ByteRow;)V" } : Jvm.MethodName)) ∈ GW := GW_of (List.mem_append_right _ (List.mem_append_right _ (List.mem_append_left _ (List.mem_of_getElem? (i := 138) rfl)))) rfl
theorem T379 : (Jvm.Cond.instanceMethod ({ cls := "BlockSound$ByteRow", name := "copy", desc := "(LBlockSound$ByteRow;)V" } : Jvm.MethodName)) ∈ GW := GW_of (List.mem_append_right _ (List.mem_append_right _ (List.mem_append_left _ (List.mem_of_getElem? (i := 139) rfl)))) rfl
theorem T380 : (Jvm.Cond.selects "BlockSound$ByteRow" ({ cls := "BlockSound$ByteRow", name := "copy", desc := "(LBlockSound$ByteRow;)V" } : Jvm.MethodName) ({ cls := "BlockSound$ByteRow", name := "copy", desc := "(LBlockSound$ByteRow;)V" } : Jvm.MethodName)) ∈ GW := GW_of (List.mem_append_right _ (List.mem_append_right _ (List.mem_append_left _ (List.mem_of_getElem? (i := 140) rfl)))) rfl
theorem T381 : (Jvm.Cond.code ({ cls := "BlockSound$ByteRow", name := "copy", desc := "(LBlockSound$ByteRow;)V" } : Jvm.MethodName) prog_4_method_5_code (2 : Nat) (Option.none : Option Jvm.ClassFile.FieldType)) ∈ GW := GW_of (List.mem_append_right _ (List.mem_append_right _ (List.mem_append_left _ (List.mem_of_getElem? (i := 141) rfl)))) rfl
theorem T382 : (Jvm.Cond.methodLink "BlockSound$ByteRow" (19 : Nat) ({ cls := "java/lang/System", name := "arraycopy", desc := "(Ljava/lang/Object;ILjava/lang/Object;II)V" } : Jvm.MethodName)) ∈ GW := GW_of (List.mem_append_right _ (List.mem_append_right _ (List.mem_append_left _ (List.mem_of_getElem? (i := 142) rfl)))) rfl
theorem T383 : (Jvm.Cond.methodLink "BlockSoundLaw" (51 : Nat) ({ cls := "BlockSound", name := "read", desc := "()I" } : Jvm.MethodName)) ∈ GW := GW_of (List.mem_append_right _ (List.mem_append_right _ (List.mem_append_left _ (List.mem_of_getElem? (i := 143) rfl)))) rfl
theorem T384 : (Jvm.Cond.instanceMethod ({ cls := "BlockSound", name := "read", desc := "()I" } : Jvm.MethodName)) ∈ GW := GW_of (List.mem_append_right _ (List.mem_append_right _ (List.mem_append_left _ (List.mem_of_getElem? (i := 144) rfl)))) rfl
theorem T385 : (Jvm.Cond.selects "BlockSound" ({ cls := "BlockSound", name := "read", desc := "()I" } : Jvm.MethodName) ({ cls := "BlockSound", name := "read", desc := "()I" } : Jvm.MethodName)) ∈ GW := GW_of (List.mem_append_right _ (List.mem_append_right _ (List.mem_append_left _ (List.mem_of_getElem? (i := 145) rfl)))) rfl
theorem T386 : (Jvm.Cond.code ({ cls := "BlockSound", name := "read", desc := "()I" } : Jvm.MethodName) prog_1_method_10_code (2 : Nat) (Option.some Jvm.ClassFile.FieldType.int)) ∈ GW := GW_of (List.mem_append_right _ (List.mem_append_right _ (List.mem_append_left _ (List.mem_of_getElem? (i := 146) rfl)))) rfl
theorem T387 : (Jvm.Cond.methodLink "BlockSound" (107 : Nat) ({ cls := "BlockSound$StreamReader", name := "parse", desc := "()I" } : Jvm.MethodName)) ∈ GW := GW_of (List.mem_append_right _ (List.mem_append_right _ (List.mem_append_left _ (List.mem_of_getElem? (i := 147) rfl)))) rfl
theorem T388 : (Jvm.Cond.instanceMethod ({ cls := "BlockSound$StreamReader", name := "parse", desc := "()I" } : Jvm.MethodName)) ∈ GW := GW_of (List.mem_append_right _ (List.mem_append_right _ (List.mem_append_left _ (List.mem_of_getElem? (i := 148) rfl)))) rfl
theorem T389 : (Jvm.Cond.selects "BlockSound$StreamReader" ({ cls := "BlockSound$StreamReader", name := "parse", desc := "()I" } : Jvm.MethodName) ({ cls := "BlockSound$StreamReader", name := "parse", desc := "()I" } : Jvm.MethodName)) ∈ GW := GW_of (List.mem_append_right _ (List.mem_append_right _ (List.mem_append_left _ (List.mem_of_getElem? (i := 149) rfl)))) rfl
theorem T390 : (Jvm.Cond.code ({ cls := "BlockSound$StreamReader", name := "parse", desc := "()I" } : Jvm.MethodName) prog_7_method_2_code (3 : Nat) (Option.some Jvm.ClassFile.FieldType.int)) ∈ GW := GW_of (List.mem_append_right _ (List.mem_append_right _ (List.mem_append_left _ (List.mem_of_getElem? (i := 150) rfl)))) rfl
theorem T391 : (Jvm.Cond.methodLink "BlockSound$StreamReader" (41 : Nat) ({ cls := "BlockSound$BitReader", name := "restart", desc := "()V" } : Jvm.MethodName)) ∈ GW := GW_of (List.mem_append_right _ (List.mem_append_right _ (List.mem_append_left _ (List.mem_of_getElem? (i := 151) rfl)))) rfl
theorem T392 : (Jvm.Cond.instanceMethod ({ cls := "BlockSound$BitReader", name := "restart", desc := "()V" } : Jvm.MethodName)) ∈ GW := GW_of (List.mem_append_right _ (List.mem_append_right _ (List.mem_append_left _ (List.mem_of_getElem? (i := 152) rfl)))) rfl
theorem T393 : (Jvm.Cond.selects "BlockSound$BitReader" ({ cls := "BlockSound$BitReader", name := "restart", desc := "()V" } : Jvm.MethodName) ({ cls := "BlockSound$BitReader", name := "restart", desc := "()V" } : Jvm.MethodName)) ∈ GW := GW_of (List.mem_append_right _ (List.mem_append_right _ (List.mem_append_left _ (List.mem_of_getElem? (i := 153) rfl)))) rfl
theorem T394 : (Jvm.Cond.code ({ cls := "BlockSound$BitReader", name := "restart", desc := "()V" } : Jvm.MethodName) prog_2_method_2_code (1 : Nat) (Option.none : Option Jvm.ClassFile.FieldType)) ∈ GW := GW_of (List.mem_append_right _ (List.mem_append_right _ (List.mem_append_left _ (List.mem_of_getElem? (i := 154) rfl)))) rfl
theorem T395 : (Jvm.Cond.methodLink "BlockSound$StreamReader" (44 : Nat) ({ cls := "BlockSound$StreamReader", name := "parseHead", desc := "()V" } : Jvm.MethodName)) ∈ GW := GW_of (List.mem_append_right _ (List.mem_append_right _ (List.mem_append_left _ (List.mem_of_getElem? (i := 155) rfl)))) rfl
theorem T397 : (Jvm.Cond.instanceMethod ({ cls := "BlockSound$StreamReader", name := "parseHead", desc := "()V" } : Jvm.MethodName)) ∈ GW := GW_of (List.mem_append_right _ (List.mem_append_right _ (List.mem_append_left _ (List.mem_of_getElem? (i := 157) rfl)))) rfl
theorem T398 : (Jvm.Cond.code ({ cls := "BlockSound$StreamReader", name := "parseHead", desc := "()V" } : Jvm.MethodName) prog_7_method_4_code (4 : Nat) (Option.none : Option Jvm.ClassFile.FieldType)) ∈ GW := GW_of (List.mem_append_right _ (List.mem_append_right _ (List.mem_append_left _ (List.mem_of_getElem? (i := 158) rfl)))) rfl
theorem T399 : (Jvm.Cond.methodLink "BlockSound$StreamReader" (66 : Nat) ({ cls := "BlockSound$StreamReader", name := "nextByte", desc := "(I)V" } : Jvm.MethodName)) ∈ GW := GW_of (List.mem_append_right _ (List.mem_append_right _ (List.mem_append_left _ (List.mem_of_getElem? (i := 159) rfl)))) rfl
theorem T401 : (Jvm.Cond.instanceMethod ({ cls := "BlockSound$StreamReader", name := "nextByte", desc := "(I)V" } : Jvm.MethodName)) ∈ GW := GW_of (List.mem_append_right _ (List.mem_append_right _ (List.mem_append_left _ (List.mem_of_getElem? (i := 161) rfl)))) rfl
theorem T402 : (Jvm.Cond.code ({ cls := "BlockSound$StreamReader", name := "nextByte", desc := "(I)V" } : Jvm.MethodName) prog_7_method_7_code (3 : Nat) (Option.none : Option Jvm.ClassFile.FieldType)) ∈ GW := GW_of (List.mem_append_right _ (List.mem_append_right _ (List.mem_append_left _ (List.mem_of_getElem? (i := 162) rfl)))) rfl
theorem T403 : (Jvm.Cond.methodLink "BlockSound$StreamReader" (47 : Nat) ({ cls := "BlockSound$StreamReader", name := "isRight", desc := "()Z" } : Jvm.MethodName)) ∈ GW := GW_of (List.mem_append_right _ (List.mem_append_right _ (List.mem_append_left _ (List.mem_of_getElem? (i := 163) rfl)))) rfl
theorem T405 : (Jvm.Cond.instanceMethod ({ cls := "BlockSound$StreamReader", name := "isRight", desc := "()Z" } : Jvm.MethodName)) ∈ GW := GW_of (List.mem_append_right _ (List.mem_append_right _ (List.mem_append_left _ (List.mem_of_getElem? (i := 165) rfl)))) rfl
theorem T406 : (Jvm.Cond.code ({ cls := "BlockSound$StreamReader", name := "isRight", desc := "()Z" } : Jvm.MethodName) prog_7_method_3_code (1 : Nat) (Option.some Jvm.ClassFile.FieldType.boolean)) ∈ GW := GW_of (List.mem_append_right _ (List.mem_append_right _ (List.mem_append_left _ (List.mem_of_getElem? (i := 166) rfl)))) rfl
theorem T407 : (Jvm.Cond.methodLink "BlockSound$StreamReader" (116 : Nat) ({ cls := "BlockSound$BitReader", name := "nextLowBits", desc := "(I)I" } : Jvm.MethodName)) ∈ GW := GW_of (List.mem_append_right _ (List.mem_append_right _ (List.mem_append_left _ (List.mem_of_getElem? (i := 167) rfl)))) rfl
theorem T408 : (Jvm.Cond.instanceMethod ({ cls := "BlockSound$BitReader", name := "nextLowBits", desc := "(I)I" } : Jvm.MethodName)) ∈ GW := GW_of (List.mem_append_right _ (List.mem_append_right _ (List.mem_append_left _ (List.mem_of_getElem? (i := 168) rfl)))) rfl
theorem T409 : (Jvm.Cond.selects "BlockSound$BitReader" ({ cls := "BlockSound$BitReader", name := "nextLowBits", desc := "(I)I" } : Jvm.MethodName) ({ cls := "BlockSound$BitReader", name := "nextLowBits", desc := "(I)I" } : Jvm.MethodName)) ∈ GW := GW_of (List.mem_append_right _ (List.mem_append_right _ (List.mem_append_left _ (List.mem_of_getElem? (i := 169) rfl)))) rfl
theorem T410 : (Jvm.Cond.code ({ cls := "BlockSound$BitReader", name := "nextLowBits", desc := "(I)I" } : Jvm.MethodName) prog_2_method_4_code (4 : Nat) (Option.some Jvm.ClassFile.FieldType.int)) ∈ GW := GW_of (List.mem_append_right _ (List.mem_append_right _ (List.mem_append_left _ (List.mem_of_getElem? (i := 170) rfl)))) rfl
theorem T411 : (Jvm.Cond.methodLink "BlockSound$BitReader" (32 : Nat) ({ cls := "BlockSound$BitReader", name := "bitHere", desc := "()I" } : Jvm.MethodName)) ∈ GW := GW_of (List.mem_append_right _ (List.mem_append_right _ (List.mem_append_left _ (List.mem_of_getElem? (i := 171) rfl)))) rfl
theorem T412 : (Jvm.Cond.instanceMethod ({ cls := "BlockSound$BitReader", name := "bitHere", desc := "()I" } : Jvm.MethodName)) ∈ GW := GW_of (List.mem_append_right _ (List.mem_append_right _ (List.mem_append_left _ (List.mem_of_getElem? (i := 172) rfl)))) rfl
theorem T413 : (Jvm.Cond.selects "BlockSound$BitReader" ({ cls := "BlockSound$BitReader", name := "bitHere", desc := "()I" } : Jvm.MethodName) ({ cls := "BlockSound$BitReader", name := "bitHere", desc := "()I" } : Jvm.MethodName)) ∈ GW := GW_of (List.mem_append_right _ (List.mem_append_right _ (List.mem_append_left _ (List.mem_of_getElem? (i := 173) rfl)))) rfl
theorem T414 : (Jvm.Cond.code ({ cls := "BlockSound$BitReader", name := "bitHere", desc := "()I" } : Jvm.MethodName) prog_2_method_3_code (1 : Nat) (Option.some Jvm.ClassFile.FieldType.int)) ∈ GW := GW_of (List.mem_append_right _ (List.mem_append_right _ (List.mem_append_left _ (List.mem_of_getElem? (i := 174) rfl)))) rfl
theorem T415 : (Jvm.Cond.methodLink "BlockSound$StreamReader" (119 : Nat) ({ cls := "BlockSound$StreamReader", name := "judge", desc := "(IIII)V" } : Jvm.MethodName)) ∈ GW := GW_of (List.mem_append_right _ (List.mem_append_right _ (List.mem_append_left _ (List.mem_of_getElem? (i := 175) rfl)))) rfl
theorem T417 : (Jvm.Cond.instanceMethod ({ cls := "BlockSound$StreamReader", name := "judge", desc := "(IIII)V" } : Jvm.MethodName)) ∈ GW := GW_of (List.mem_append_right _ (List.mem_append_right _ (List.mem_append_left _ (List.mem_of_getElem? (i := 177) rfl)))) rfl
theorem T418 : (Jvm.Cond.code ({ cls := "BlockSound$StreamReader", name := "judge", desc := "(IIII)V" } : Jvm.MethodName) prog_7_method_9_code (5 : Nat) (Option.none : Option Jvm.ClassFile.FieldType)) ∈ GW := GW_of (List.mem_append_right _ (List.mem_append_right _ (List.mem_append_left _ (List.mem_of_getElem? (i := 178) rfl)))) rfl
theorem T419 : (Jvm.Cond.methodLink "BlockSound$StreamReader" (59 : Nat) ({ cls := "BlockSound$StreamReader", name := "nextWithin", desc := "(III)I" } : Jvm.MethodName)) ∈ GW := GW_of (List.mem_append_right _ (List.mem_append_right _ (List.mem_append_left _ (List.mem_of_getElem? (i := 179) rfl)))) rfl
theorem T421 : (Jvm.Cond.instanceMethod ({ cls := "BlockSound$StreamReader", name := "nextWithin", desc := "(III)I" } : Jvm.MethodName)) ∈ GW := GW_of (List.mem_append_right _ (List.mem_append_right _ (List.mem_append_left _ (List.mem_of_getElem? (i := 181) rfl)))) rfl
theorem T422 : (Jvm.Cond.code ({ cls := "BlockSound$StreamReader", name := "nextWithin", desc := "(III)I" } : Jvm.MethodName) prog_7_method_8_code (6 : Nat) (Option.some Jvm.ClassFile.FieldType.int)) ∈ GW := GW_of (List.mem_append_right _ (List.mem_append_right _ (List.mem_append_left _ (List.mem_of_getElem? (i := 182) rfl)))) rfl
theorem T423 : (Jvm.Cond.methodLink "BlockSound$StreamReader" (123 : Nat) ({ cls := "BlockSound$BitReader", name := "nextNumber", desc := "(I)I" } : Jvm.MethodName)) ∈ GW := GW_of (List.mem_append_right _ (List.mem_append_right _ (List.mem_append_left _ (List.mem_of_getElem? (i := 183) rfl)))) rfl
theorem T424 : (Jvm.Cond.instanceMethod ({ cls := "BlockSound$BitReader", name := "nextNumber", desc := "(I)I" } : Jvm.MethodName)) ∈ GW := GW_of (List.mem_append_right _ (List.mem_append_right _ (List.mem_append_left _ (List.mem_of_getElem? (i := 184) rfl)))) rfl
theorem T425 : (Jvm.Cond.selects "BlockSound$BitReader" ({ cls := "BlockSound$BitReader", name := "nextNumber", desc := "(I)I" } : Jvm.MethodName) ({ cls := "BlockSound$BitReader", name := "nextNumber", desc := "(I)I" } : Jvm.MethodName)) ∈ GW := GW_of (List.mem_append_right _ (List.mem_append_right _ (List.mem_append_left _ (List.mem_of_getElem? (i := 185) rfl)))) rfl
theorem T426 : (Jvm.Cond.code ({ cls := "BlockSound$BitReader", name := "nextNumber", desc := "(I)I" } : Jvm.MethodName) prog_2_method_5_code (5 : Nat) (Option.some Jvm.ClassFile.FieldType.int)) ∈ GW := GW_of (List.mem_append_right _ (List.mem_append_right _ (List.mem_append_left _ (List.mem_of_getElem? (i := 186) rfl)))) rfl
theorem T427 : (Jvm.Cond.methodLink "BlockSound$BitReader" (36 : Nat) ({ cls := "BlockSound$BitReader", name := "nextLowBits", desc := "(I)I" } : Jvm.MethodName)) ∈ GW := GW_of (List.mem_append_right _ (List.mem_append_right _ (List.mem_append_left _ (List.mem_of_getElem? (i := 187) rfl)))) rfl
theorem T428 : (Jvm.Cond.methodLink "BlockSound$StreamReader" (69 : Nat) ({ cls := "BlockSound$Sound", name := "lay", desc := "(III)V" } : Jvm.MethodName)) ∈ GW := GW_of (List.mem_append_right _ (List.mem_append_right _ (List.mem_append_left _ (List.mem_of_getElem? (i := 188) rfl)))) rfl
theorem T429 : (Jvm.Cond.instanceMethod ({ cls := "BlockSound$Sound", name := "lay", desc := "(III)V" } : Jvm.MethodName)) ∈ GW := GW_of (List.mem_append_right _ (List.mem_append_right _ (List.mem_append_left _ (List.mem_of_getElem? (i := 189) rfl)))) rfl
theorem T430 : (Jvm.Cond.selects "BlockSound$Sound" ({ cls := "BlockSound$Sound", name := "lay", desc := "(III)V" } : Jvm.MethodName) ({ cls := "BlockSound$Sound", name := "lay", desc := "(III)V" } : Jvm.MethodName)) ∈ GW := GW_of (List.mem_append_right _ (List.mem_append_right _ (List.mem_append_left _ (List.mem_of_getElem? (i := 190) rfl)))) rfl
theorem T431 : (Jvm.Cond.code ({ cls := "BlockSound$Sound", name := "lay", desc := "(III)V" } : Jvm.MethodName) prog_6_method_3_code (4 : Nat) (Option.none : Option Jvm.ClassFile.FieldType)) ∈ GW := GW_of (List.mem_append_right _ (List.mem_append_right _ (List.mem_append_left _ (List.mem_of_getElem? (i := 191) rfl)))) rfl
theorem T432 : (Jvm.Cond.methodLink "BlockSound$StreamReader" (51 : Nat) ({ cls := "BlockSound$Sound", name := "blockCount", desc := "()I" } : Jvm.MethodName)) ∈ GW := GW_of (List.mem_append_right _ (List.mem_append_right _ (List.mem_append_left _ (List.mem_of_getElem? (i := 192) rfl)))) rfl
theorem T433 : (Jvm.Cond.methodLink "BlockSound$StreamReader" (55 : Nat) ({ cls := "BlockSound$StreamReader", name := "parseBlock", desc := "(I)V" } : Jvm.MethodName)) ∈ GW := GW_of (List.mem_append_right _ (List.mem_append_right _ (List.mem_append_left _ (List.mem_of_getElem? (i := 193) rfl)))) rfl
theorem T435 : (Jvm.Cond.instanceMethod ({ cls := "BlockSound$StreamReader", name := "parseBlock", desc := "(I)V" } : Jvm.MethodName)) ∈ GW := GW_of (List.mem_append_right _ (List.mem_append_right _ (List.mem_append_left _ (List.mem_of_getElem? (i := 195) rfl)))) rfl
theorem T436 : (Jvm.Cond.code ({ cls := "BlockSound$StreamReader", name := "parseBlock", desc := "(I)V" } : Jvm.MethodName) prog_7_method_5_code (11 : Nat) (Option.none : Option Jvm.ClassFile.FieldType)) ∈ GW := GW_of (List.mem_append_right _ (List.mem_append_right _ (List.mem_append_left _ (List.mem_of_getElem? (i := 196) rfl)))) rfl
theorem T437 : (Jvm.Cond.methodLink "BlockSound$StreamReader" (76 : Nat) ({ cls := "BlockSound$Means", name := "ahead", desc := "(II)I" } : Jvm.MethodName)) ∈ GW := GW_of (List.mem_append_right _ (List.mem_append_right _ (List.mem_append_left _ (List.mem_of_getElem? (i := 197) rfl)))) rfl
theorem T438 : (Jvm.Cond.methodLink "BlockSound$StreamReader" (80 : Nat) ({ cls := "BlockSound$Sound", name := "firstPlace", desc := "(I)I" } : Jvm.MethodName)) ∈ GW := GW_of (List.mem_append_right _ (List.mem_append_right _ (List.mem_append_left _ (List.mem_of_getElem? (i := 198) rfl)))) rfl
theorem T439 : (Jvm.Cond.methodLink "BlockSound$StreamReader" (84 : Nat) ({ cls := "BlockSound$Sound", name := "blockSize", desc := "(I)I" } : Jvm.MethodName)) ∈ GW := GW_of (List.mem_append_right _ (List.mem_append_right _ (List.mem_append_left _ (List.mem_of_getElem? (i := 199) rfl)))) rfl
theorem T440 : (Jvm.Cond.constant "BlockSound$StreamReader" 92 (iI (2147483647))) ∈ GW := by
  have e : iI (2147483647) = (2147483647 : Int32) := by decide
  rw [e]
  exact GW_of (List.mem_append_right _ (List.mem_append_right _ (List.mem_append_left _ (List.mem_of_getElem? (i := 200) rfl)))) rfl
theorem T441 : (Jvm.Cond.methodLinkNest "BlockSound$StreamReader" (93 : Nat) ({ cls := "BlockSound", name := "unfold", desc := "(I)I" } : Jvm.MethodName) "BlockSound") ∈ NL := NL_of (List.mem_append_right _ (List.mem_append_right _ (List.mem_append_left _ (List.mem_of_getElem? (i := 201) rfl)))) rfl
theorem T442 : (Jvm.Cond.static ({ cls := "BlockSound", name := "unfold", desc := "(I)I" } : Jvm.MethodName)) ∈ GW := GW_of (List.mem_append_right _ (List.mem_append_right _ (List.mem_append_left _ (List.mem_of_getElem? (i := 202) rfl)))) rfl
theorem T443 : (Jvm.Cond.code ({ cls := "BlockSound", name := "unfold", desc := "(I)I" } : Jvm.MethodName) prog_1_method_17_code (1 : Nat) (Option.some Jvm.ClassFile.FieldType.int)) ∈ GW := GW_of (List.mem_append_right _ (List.mem_append_right _ (List.mem_append_left _ (List.mem_of_getElem? (i := 203) rfl)))) rfl
theorem T444 : (Jvm.Cond.methodLink "BlockSound$StreamReader" (96 : Nat) ({ cls := "BlockSound$Sound", name := "toldAhead", desc := "(III)I" } : Jvm.MethodName)) ∈ GW := GW_of (List.mem_append_right _ (List.mem_append_right _ (List.mem_append_left _ (List.mem_of_getElem? (i := 204) rfl)))) rfl
theorem T445 : (Jvm.Cond.methodLinkNest "BlockSound$StreamReader" (99 : Nat) ({ cls := "BlockSound", name := "isSample", desc := "(I)Z" } : Jvm.MethodName) "BlockSound") ∈ NL := NL_of (List.mem_append_right _ (List.mem_append_right _ (List.mem_append_left _ (List.mem_of_getElem? (i := 205) rfl)))) rfl
theorem T446 : (Jvm.Cond.methodLink "BlockSound$StreamReader" (103 : Nat) ({ cls := "BlockSound$Sound", name := "setAt", desc := "(II)V" } : Jvm.MethodName)) ∈ GW := GW_of (List.mem_append_right _ (List.mem_append_right _ (List.mem_append_left _ (List.mem_of_getElem? (i := 206) rfl)))) rfl
theorem T447 : (Jvm.Cond.instanceMethod ({ cls := "BlockSound$Sound", name := "setAt", desc := "(II)V" } : Jvm.MethodName)) ∈ GW := GW_of (List.mem_append_right _ (List.mem_append_right _ (List.mem_append_left _ (List.mem_of_getElem? (i := 207) rfl)))) rfl
theorem T448 : (Jvm.Cond.selects "BlockSound$Sound" ({ cls := "BlockSound$Sound", name := "setAt", desc := "(II)V" } : Jvm.MethodName) ({ cls := "BlockSound$Sound", name := "setAt", desc := "(II)V" } : Jvm.MethodName)) ∈ GW := GW_of (List.mem_append_right _ (List.mem_append_right _ (List.mem_append_left _ (List.mem_of_getElem? (i := 208) rfl)))) rfl
theorem T449 : (Jvm.Cond.code ({ cls := "BlockSound$Sound", name := "setAt", desc := "(II)V" } : Jvm.MethodName) prog_6_method_15_code (3 : Nat) (Option.none : Option Jvm.ClassFile.FieldType)) ∈ GW := GW_of (List.mem_append_right _ (List.mem_append_right _ (List.mem_append_left _ (List.mem_of_getElem? (i := 209) rfl)))) rfl
theorem T450 : (Jvm.Cond.methodLink "BlockSound$StreamReader" (106 : Nat) ({ cls := "BlockSound$Means", name := "settle", desc := "(ILBlockSound$Sound;)V" } : Jvm.MethodName)) ∈ GW := GW_of (List.mem_append_right _ (List.mem_append_right _ (List.mem_append_left _ (List.mem_of_getElem? (i := 210) rfl)))) rfl
theorem T451 : (Jvm.Cond.methodLink "BlockSound$StreamReader" (63 : Nat) ({ cls := "BlockSound$StreamReader", name := "parseFilling", desc := "()V" } : Jvm.MethodName)) ∈ GW := GW_of (List.mem_append_right _ (List.mem_append_right _ (List.mem_append_left _ (List.mem_of_getElem? (i := 211) rfl)))) rfl
theorem T453 : (Jvm.Cond.instanceMethod ({ cls := "BlockSound$StreamReader", name := "parseFilling", desc := "()V" } : Jvm.MethodName)) ∈ GW := GW_of (List.mem_append_right _ (List.mem_append_right _ (List.mem_append_left _ (List.mem_of_getElem? (i := 213) rfl)))) rfl
theorem T454 : (Jvm.Cond.code ({ cls := "BlockSound$StreamReader", name := "parseFilling", desc := "()V" } : Jvm.MethodName) prog_7_method_6_code (2 : Nat) (Option.none : Option Jvm.ClassFile.FieldType)) ∈ GW := GW_of (List.mem_append_right _ (List.mem_append_right _ (List.mem_append_left _ (List.mem_of_getElem? (i := 214) rfl)))) rfl
theorem T455 : (Jvm.Cond.methodLink "BlockSound$StreamReader" (110 : Nat) ({ cls := "BlockSound$BitReader", name := "bitHere", desc := "()I" } : Jvm.MethodName)) ∈ GW := GW_of (List.mem_append_right _ (List.mem_append_right _ (List.mem_append_left _ (List.mem_of_getElem? (i := 215) rfl)))) rfl
theorem T456 : (Jvm.Cond.methodLink "BlockSound" (111 : Nat) ({ cls := "BlockSound$ByteRow", name := "clear", desc := "()V" } : Jvm.MethodName)) ∈ GW := GW_of (List.mem_append_right _ (List.mem_append_right _ (List.mem_append_left _ (List.mem_of_getElem? (i := 216) rfl)))) rfl
theorem T457 : (Jvm.Cond.methodLink "BlockSoundLaw" (55 : Nat) ({ cls := "BlockSound", name := "value", desc := "(I)I" } : Jvm.MethodName)) ∈ GW := GW_of (List.mem_append_right _ (List.mem_append_right _ (List.mem_append_left _ (List.mem_of_getElem? (i := 217) rfl)))) rfl
theorem T458 : (Jvm.Cond.instanceMethod ({ cls := "BlockSound", name := "value", desc := "(I)I" } : Jvm.MethodName)) ∈ GW := GW_of (List.mem_append_right _ (List.mem_append_right _ (List.mem_append_left _ (List.mem_of_getElem? (i := 218) rfl)))) rfl
theorem T459 : (Jvm.Cond.selects "BlockSound" ({ cls := "BlockSound", name := "value", desc := "(I)I" } : Jvm.MethodName) ({ cls := "BlockSound", name := "value", desc := "(I)I" } : Jvm.MethodName)) ∈ GW := GW_of (List.mem_append_right _ (List.mem_append_right _ (List.mem_append_left _ (List.mem_of_getElem? (i := 219) rfl)))) rfl
theorem T460 : (Jvm.Cond.code ({ cls := "BlockSound", name := "value", desc := "(I)I" } : Jvm.MethodName) prog_1_method_11_code (2 : Nat) (Option.some Jvm.ClassFile.FieldType.int)) ∈ GW := GW_of (List.mem_append_right _ (List.mem_append_right _ (List.mem_append_left _ (List.mem_of_getElem? (i := 220) rfl)))) rfl
theorem T461 : (Jvm.Cond.methodLink "BlockSound" (115 : Nat) ({ cls := "BlockSound$Sound", name := "sampleAt", desc := "(I)I" } : Jvm.MethodName)) ∈ GW := GW_of (List.mem_append_right _ (List.mem_append_right _ (List.mem_append_left _ (List.mem_of_getElem? (i := 221) rfl)))) rfl
theorem T462 : (Jvm.Cond.constant "BlockSound" 118 (iI (-99999))) ∈ GW := by
  have e : iI (-99999) = (-99999 : Int32) := by decide
  rw [e]
  exact GW_of (List.mem_append_right _ (List.mem_append_right _ (List.mem_append_left _ (List.mem_of_getElem? (i := 222) rfl)))) rfl
theorem T463 : (Jvm.Cond.methodLink "BlockSoundLaw" (59 : Nat) ({ cls := "BlockSound", name := "same", desc := "()Z" } : Jvm.MethodName)) ∈ GW := GW_of (List.mem_append_right _ (List.mem_append_right _ (List.mem_append_left _ (List.mem_of_getElem? (i := 223) rfl)))) rfl
theorem T464 : (Jvm.Cond.instanceMethod ({ cls := "BlockSound", name := "same", desc := "()Z" } : Jvm.MethodName)) ∈ GW := GW_of (List.mem_append_right _ (List.mem_append_right _ (List.mem_append_left _ (List.mem_of_getElem? (i := 224) rfl)))) rfl
theorem T465 : (Jvm.Cond.selects "BlockSound" ({ cls := "BlockSound", name := "same", desc := "()Z" } : Jvm.MethodName) ({ cls := "BlockSound", name := "same", desc := "()Z" } : Jvm.MethodName)) ∈ GW := GW_of (List.mem_append_right _ (List.mem_append_right _ (List.mem_append_left _ (List.mem_of_getElem? (i := 225) rfl)))) rfl
theorem T466 : (Jvm.Cond.code ({ cls := "BlockSound", name := "same", desc := "()Z" } : Jvm.MethodName) prog_1_method_12_code (1 : Nat) (Option.some Jvm.ClassFile.FieldType.boolean)) ∈ GW := GW_of (List.mem_append_right _ (List.mem_append_right _ (List.mem_append_left _ (List.mem_of_getElem? (i := 226) rfl)))) rfl
theorem T467 : (Jvm.Cond.methodLink "BlockSound" (119 : Nat) ({ cls := "BlockSound$Sound", name := "hasSameWhole", desc := "(LBlockSound$Sound;)Z" } : Jvm.MethodName)) ∈ GW := GW_of (List.mem_append_right _ (List.mem_append_right _ (List.mem_append_left _ (List.mem_of_getElem? (i := 227) rfl)))) rfl
theorem T468 : (Jvm.Cond.instanceMethod ({ cls := "BlockSound$Sound", name := "hasSameWhole", desc := "(LBlockSound$Sound;)Z" } : Jvm.MethodName)) ∈ GW := GW_of (List.mem_append_right _ (List.mem_append_right _ (List.mem_append_left _ (List.mem_of_getElem? (i := 228) rfl)))) rfl
theorem T469 : (Jvm.Cond.selects "BlockSound$Sound" ({ cls := "BlockSound$Sound", name := "hasSameWhole", desc := "(LBlockSound$Sound;)Z" } : Jvm.MethodName) ({ cls := "BlockSound$Sound", name := "hasSameWhole", desc := "(LBlockSound$Sound;)Z" } : Jvm.MethodName)) ∈ GW := GW_of (List.mem_append_right _ (List.mem_append_right _ (List.mem_append_left _ (List.mem_of_getElem? (i := 229) rfl)))) rfl
theorem T470 : (Jvm.Cond.code ({ cls := "BlockSound$Sound", name := "hasSameWhole", desc := "(LBlockSound$Sound;)Z" } : Jvm.MethodName) prog_6_method_8_code (3 : Nat) (Option.some Jvm.ClassFile.FieldType.boolean)) ∈ GW := GW_of (List.mem_append_right _ (List.mem_append_right _ (List.mem_append_left _ (List.mem_of_getElem? (i := 230) rfl)))) rfl
theorem T471 : (Jvm.Cond.methodLink "BlockSoundLaw" (64 : Nat) ({ cls := "BlockSound", name := "count", desc := "(I)I" } : Jvm.MethodName)) ∈ GW := GW_of (List.mem_append_right _ (List.mem_append_right _ (List.mem_append_left _ (List.mem_of_getElem? (i := 231) rfl)))) rfl
theorem T472 : (Jvm.Cond.instanceMethod ({ cls := "BlockSound", name := "count", desc := "(I)I" } : Jvm.MethodName)) ∈ GW := GW_of (List.mem_append_right _ (List.mem_append_right _ (List.mem_append_left _ (List.mem_of_getElem? (i := 232) rfl)))) rfl
theorem T473 : (Jvm.Cond.selects "BlockSound" ({ cls := "BlockSound", name := "count", desc := "(I)I" } : Jvm.MethodName) ({ cls := "BlockSound", name := "count", desc := "(I)I" } : Jvm.MethodName)) ∈ GW := GW_of (List.mem_append_right _ (List.mem_append_right _ (List.mem_append_left _ (List.mem_of_getElem? (i := 233) rfl)))) rfl
theorem T474 : (Jvm.Cond.code ({ cls := "BlockSound", name := "count", desc := "(I)I" } : Jvm.MethodName) prog_1_method_13_code (2 : Nat) (Option.some Jvm.ClassFile.FieldType.int)) ∈ GW := GW_of (List.mem_append_right _ (List.mem_append_right _ (List.mem_append_left _ (List.mem_of_getElem? (i := 234) rfl)))) rfl
theorem T475 : (Jvm.Cond.classLink "BlockSoundLaw" (10 : Nat) "BlockSoundModel") ∈ GW := GW_of (List.mem_append_right _ (List.mem_append_right _ (List.mem_append_left _ (List.mem_of_getElem? (i := 235) rfl)))) rfl
theorem T476 : (Jvm.Cond.instantiable "BlockSoundModel" (23 : Nat)) ∈ GW := GW_of (List.mem_append_right _ (List.mem_append_right _ (List.mem_append_left _ (List.mem_of_getElem? (i := 236) rfl)))) rfl
theorem T477 : (Jvm.Cond.methodLink "BlockSoundLaw" (12 : Nat) ({ cls := "BlockSoundModel", name := "<init>", desc := "()V" } : Jvm.MethodName)) ∈ GW := GW_of (List.mem_append_right _ (List.mem_append_right _ (List.mem_append_left _ (List.mem_of_getElem? (i := 237) rfl)))) rfl
theorem T478 : (Jvm.Cond.instanceMethod ({ cls := "BlockSoundModel", name := "<init>", desc := "()V" } : Jvm.MethodName)) ∈ GW := GW_of (List.mem_append_right _ (List.mem_append_right _ (List.mem_append_left _ (List.mem_of_getElem? (i := 238) rfl)))) rfl
theorem T479 : (Jvm.Cond.code ({ cls := "BlockSoundModel", name := "<init>", desc := "()V" } : Jvm.MethodName) prog_10_method_1_code (1 : Nat) (Option.none : Option Jvm.ClassFile.FieldType)) ∈ GW := GW_of (List.mem_append_right _ (List.mem_append_right _ (List.mem_append_left _ (List.mem_of_getElem? (i := 239) rfl)))) rfl
theorem T480 : (Jvm.Cond.methodLink "BlockSoundModel" (1 : Nat) ({ cls := "java/lang/Object", name := "<init>", desc := "()V" } : Jvm.MethodName)) ∈ GW := GW_of (List.mem_append_right _ (List.mem_append_right _ (List.mem_append_right _ (List.mem_of_getElem? (i := 0) rfl)))) rfl
theorem T481 : (Jvm.Cond.constant "BlockSoundModel" 20 (iI (64000))) ∈ GW := by
  have e : iI (64000) = (64000 : Int32) := by decide
  rw [e]
  exact GW_of (List.mem_append_right _ (List.mem_append_right _ (List.mem_append_right _ (List.mem_of_getElem? (i := 1) rfl)))) rfl
theorem T482 : (Jvm.Cond.fieldLink "BlockSoundModel" (7 : Nat) "BlockSoundModel" "channels" "I") ∈ GW := GW_of (List.mem_append_right _ (List.mem_append_right _ (List.mem_append_right _ (List.mem_of_getElem? (i := 2) rfl)))) rfl
theorem T483 : (Jvm.Cond.fieldLink "BlockSoundModel" (13 : Nat) "BlockSoundModel" "wide" "I") ∈ GW := GW_of (List.mem_append_right _ (List.mem_append_right _ (List.mem_append_right _ (List.mem_of_getElem? (i := 3) rfl)))) rfl
theorem T484 : (Jvm.Cond.fieldLink "BlockSoundModel" (43 : Nat) "BlockSoundModel" "told" "I") ∈ GW := GW_of (List.mem_append_right _ (List.mem_append_right _ (List.mem_append_right _ (List.mem_of_getElem? (i := 4) rfl)))) rfl
theorem T485 : (Jvm.Cond.fieldLink "BlockSoundModel" (16 : Nat) "BlockSoundModel" "samples" "[I") ∈ GW := GW_of (List.mem_append_right _ (List.mem_append_right _ (List.mem_append_right _ (List.mem_of_getElem? (i := 5) rfl)))) rfl
theorem T486 : (Jvm.Cond.fieldLink "BlockSoundModel" (54 : Nat) "BlockSoundModel" "bits" "I") ∈ GW := GW_of (List.mem_append_right _ (List.mem_append_right _ (List.mem_append_right _ (List.mem_of_getElem? (i := 6) rfl)))) rfl
theorem T487 : (Jvm.Cond.fieldLink "BlockSoundModel" (21 : Nat) "BlockSoundModel" "written" "[B") ∈ GW := GW_of (List.mem_append_right _ (List.mem_append_right _ (List.mem_append_right _ (List.mem_of_getElem? (i := 7) rfl)))) rfl
theorem T488 : (Jvm.Cond.fieldLink "BlockSoundModel" (107 : Nat) "BlockSoundModel" "blocks" "I") ∈ GW := GW_of (List.mem_append_right _ (List.mem_append_right _ (List.mem_append_right _ (List.mem_of_getElem? (i := 8) rfl)))) rfl
theorem T489 : (Jvm.Cond.fieldLink "BlockSoundModel" (25 : Nat) "BlockSoundModel" "cells" "[I") ∈ GW := GW_of (List.mem_append_right _ (List.mem_append_right _ (List.mem_append_right _ (List.mem_of_getElem? (i := 9) rfl)))) rfl
theorem T490 : (Jvm.Cond.fieldLink "BlockSoundModel" (64 : Nat) "BlockSoundModel" "laidChannels" "I") ∈ GW := GW_of (List.mem_append_right _ (List.mem_append_right _ (List.mem_append_right _ (List.mem_of_getElem? (i := 10) rfl)))) rfl
theorem T491 : (Jvm.Cond.fieldLink "BlockSoundModel" (61 : Nat) "BlockSoundModel" "laidWide" "I") ∈ GW := GW_of (List.mem_append_right _ (List.mem_append_right _ (List.mem_append_right _ (List.mem_of_getElem? (i := 11) rfl)))) rfl
theorem T492 : (Jvm.Cond.fieldLink "BlockSoundModel" (67 : Nat) "BlockSoundModel" "laidMany" "I") ∈ GW := GW_of (List.mem_append_right _ (List.mem_append_right _ (List.mem_append_right _ (List.mem_of_getElem? (i := 12) rfl)))) rfl
theorem T493 : (Jvm.Cond.fieldLink "BlockSoundModel" (28 : Nat) "BlockSoundModel" "laid" "[I") ∈ GW := GW_of (List.mem_append_right _ (List.mem_append_right _ (List.mem_append_right _ (List.mem_of_getElem? (i := 13) rfl)))) rfl
theorem T494 : (Jvm.Cond.fieldLink "BlockSoundModel" (116 : Nat) "BlockSoundModel" "fed" "I") ∈ GW := GW_of (List.mem_append_right _ (List.mem_append_right _ (List.mem_append_right _ (List.mem_of_getElem? (i := 14) rfl)))) rfl
theorem T495 : (Jvm.Cond.fieldLink "BlockSoundModel" (31 : Nat) "BlockSoundModel" "collected" "[I") ∈ GW := GW_of (List.mem_append_right _ (List.mem_append_right _ (List.mem_append_right _ (List.mem_of_getElem? (i := 15) rfl)))) rfl
theorem T496 : (Jvm.Cond.fieldLink "BlockSoundModel" (163 : Nat) "BlockSoundModel" "read" "I") ∈ GW := GW_of (List.mem_append_right _ (List.mem_append_right _ (List.mem_append_right _ (List.mem_of_getElem? (i := 16) rfl)))) rfl
theorem T497 : (Jvm.Cond.fieldLink "BlockSoundModel" (157 : Nat) "BlockSoundModel" "readChannels" "I") ∈ GW := GW_of (List.mem_append_right _ (List.mem_append_right _ (List.mem_append_right _ (List.mem_of_getElem? (i := 17) rfl)))) rfl
theorem T498 : (Jvm.Cond.fieldLink "BlockSoundModel" (34 : Nat) "BlockSoundModel" "readSamples" "[I") ∈ GW := GW_of (List.mem_append_right _ (List.mem_append_right _ (List.mem_append_right _ (List.mem_of_getElem? (i := 18) rfl)))) rfl
theorem T499 : (Jvm.Cond.fieldLink "BlockSoundModel" (122 : Nat) "BlockSoundModel" "at" "I") ∈ GW := GW_of (List.mem_append_right _ (List.mem_append_right _ (List.mem_append_right _ (List.mem_of_getElem? (i := 19) rfl)))) rfl
theorem T500 : (Jvm.Cond.fieldLink "BlockSoundModel" (128 : Nat) "BlockSoundModel" "begun" "I") ∈ GW := GW_of (List.mem_append_right _ (List.mem_append_right _ (List.mem_append_right _ (List.mem_of_getElem? (i := 20) rfl)))) rfl
theorem T501 : (Jvm.Cond.fieldLink "BlockSoundModel" (124 : Nat) "BlockSoundModel" "isOver" "Z") ∈ GW := GW_of (List.mem_append_right _ (List.mem_append_right _ (List.mem_append_right _ (List.mem_of_getElem? (i := 21) rfl)))) rfl
theorem T502 : (Jvm.Cond.fieldLink "BlockSoundModel" (135 : Nat) "BlockSoundModel" "wrong" "I") ∈ GW := GW_of (List.mem_append_right _ (List.mem_append_right _ (List.mem_append_right _ (List.mem_of_getElem? (i := 22) rfl)))) rfl
theorem T503 : (Jvm.Cond.fieldLink "BlockSoundModel" (37 : Nat) "BlockSoundModel" "coming" "[I") ∈ GW := GW_of (List.mem_append_right _ (List.mem_append_right _ (List.mem_append_right _ (List.mem_of_getElem? (i := 23) rfl)))) rfl
theorem T504 : (Jvm.Cond.fieldLink "BlockSoundModel" (40 : Nat) "BlockSoundModel" "means" "[I") ∈ GW := GW_of (List.mem_append_right _ (List.mem_append_right _ (List.mem_append_right _ (List.mem_of_getElem? (i := 24) rfl)))) rfl
theorem T552 : (Jvm.Cond.methodLink "BlockSoundLaw" (17 : Nat) ({ cls := "BlockSoundModel", name := "settings", desc := "(II)Z" } : Jvm.MethodName)) ∈ GW := GW_of (List.mem_append_right _ (List.mem_append_right _ (List.mem_append_right _ (List.mem_of_getElem? (i := 72) rfl)))) rfl
theorem T553 : (Jvm.Cond.instanceMethod ({ cls := "BlockSoundModel", name := "settings", desc := "(II)Z" } : Jvm.MethodName)) ∈ GW := GW_of (List.mem_append_right _ (List.mem_append_right _ (List.mem_append_right _ (List.mem_of_getElem? (i := 73) rfl)))) rfl
theorem T554 : (Jvm.Cond.selects "BlockSoundModel" ({ cls := "BlockSoundModel", name := "settings", desc := "(II)Z" } : Jvm.MethodName) ({ cls := "BlockSoundModel", name := "settings", desc := "(II)Z" } : Jvm.MethodName)) ∈ GW := GW_of (List.mem_append_right _ (List.mem_append_right _ (List.mem_append_right _ (List.mem_of_getElem? (i := 74) rfl)))) rfl
theorem T555 : (Jvm.Cond.code ({ cls := "BlockSoundModel", name := "settings", desc := "(II)Z" } : Jvm.MethodName) prog_10_method_3_code (3 : Nat) (Option.some Jvm.ClassFile.FieldType.boolean)) ∈ GW := GW_of (List.mem_append_right _ (List.mem_append_right _ (List.mem_append_right _ (List.mem_of_getElem? (i := 75) rfl)))) rfl
theorem T556 : (Jvm.Cond.methodLink "BlockSoundLaw" (22 : Nat) ({ cls := "BlockSoundModel", name := "sample", desc := "(I)I" } : Jvm.MethodName)) ∈ GW := GW_of (List.mem_append_right _ (List.mem_append_right _ (List.mem_append_right _ (List.mem_of_getElem? (i := 76) rfl)))) rfl
theorem T557 : (Jvm.Cond.instanceMethod ({ cls := "BlockSoundModel", name := "sample", desc := "(I)I" } : Jvm.MethodName)) ∈ GW := GW_of (List.mem_append_right _ (List.mem_append_right _ (List.mem_append_right _ (List.mem_of_getElem? (i := 77) rfl)))) rfl
theorem T558 : (Jvm.Cond.selects "BlockSoundModel" ({ cls := "BlockSoundModel", name := "sample", desc := "(I)I" } : Jvm.MethodName) ({ cls := "BlockSoundModel", name := "sample", desc := "(I)I" } : Jvm.MethodName)) ∈ GW := GW_of (List.mem_append_right _ (List.mem_append_right _ (List.mem_append_right _ (List.mem_of_getElem? (i := 78) rfl)))) rfl
theorem T559 : (Jvm.Cond.code ({ cls := "BlockSoundModel", name := "sample", desc := "(I)I" } : Jvm.MethodName) prog_10_method_4_code (2 : Nat) (Option.some Jvm.ClassFile.FieldType.int)) ∈ GW := GW_of (List.mem_append_right _ (List.mem_append_right _ (List.mem_append_right _ (List.mem_of_getElem? (i := 79) rfl)))) rfl
theorem T560 : (Jvm.Cond.methodLink "BlockSoundLaw" (27 : Nat) ({ cls := "BlockSoundModel", name := "write", desc := "()I" } : Jvm.MethodName)) ∈ GW := GW_of (List.mem_append_right _ (List.mem_append_right _ (List.mem_append_right _ (List.mem_of_getElem? (i := 80) rfl)))) rfl
theorem T561 : (Jvm.Cond.instanceMethod ({ cls := "BlockSoundModel", name := "write", desc := "()I" } : Jvm.MethodName)) ∈ GW := GW_of (List.mem_append_right _ (List.mem_append_right _ (List.mem_append_right _ (List.mem_of_getElem? (i := 81) rfl)))) rfl
theorem T562 : (Jvm.Cond.selects "BlockSoundModel" ({ cls := "BlockSoundModel", name := "write", desc := "()I" } : Jvm.MethodName) ({ cls := "BlockSoundModel", name := "write", desc := "()I" } : Jvm.MethodName)) ∈ GW := GW_of (List.mem_append_right _ (List.mem_append_right _ (List.mem_append_right _ (List.mem_of_getElem? (i := 82) rfl)))) rfl
theorem T563 : (Jvm.Cond.code ({ cls := "BlockSoundModel", name := "write", desc := "()I" } : Jvm.MethodName) prog_10_method_20_code (3 : Nat) (Option.some Jvm.ClassFile.FieldType.int)) ∈ GW := GW_of (List.mem_append_right _ (List.mem_append_right _ (List.mem_append_right _ (List.mem_of_getElem? (i := 83) rfl)))) rfl
theorem T564 : (Jvm.Cond.methodLink "BlockSoundModel" (110 : Nat) ({ cls := "BlockSoundModel", name := "forgetMeans", desc := "()V" } : Jvm.MethodName)) ∈ GW := GW_of (List.mem_append_right _ (List.mem_append_right _ (List.mem_append_right _ (List.mem_of_getElem? (i := 84) rfl)))) rfl
theorem T566 : (Jvm.Cond.instanceMethod ({ cls := "BlockSoundModel", name := "forgetMeans", desc := "()V" } : Jvm.MethodName)) ∈ GW := GW_of (List.mem_append_right _ (List.mem_append_right _ (List.mem_append_right _ (List.mem_of_getElem? (i := 86) rfl)))) rfl
theorem T567 : (Jvm.Cond.code ({ cls := "BlockSoundModel", name := "forgetMeans", desc := "()V" } : Jvm.MethodName) prog_10_method_5_code (2 : Nat) (Option.none : Option Jvm.ClassFile.FieldType)) ∈ GW := GW_of (List.mem_append_right _ (List.mem_append_right _ (List.mem_append_right _ (List.mem_of_getElem? (i := 87) rfl)))) rfl
theorem T568 : (Jvm.Cond.methodLink "BlockSoundModel" (57 : Nat) ({ cls := "BlockSoundModel", name := "putBit", desc := "(I)V" } : Jvm.MethodName)) ∈ GW := GW_of (List.mem_append_right _ (List.mem_append_right _ (List.mem_append_right _ (List.mem_of_getElem? (i := 88) rfl)))) rfl
theorem T570 : (Jvm.Cond.instanceMethod ({ cls := "BlockSoundModel", name := "putBit", desc := "(I)V" } : Jvm.MethodName)) ∈ GW := GW_of (List.mem_append_right _ (List.mem_append_right _ (List.mem_append_right _ (List.mem_of_getElem? (i := 90) rfl)))) rfl
theorem T571 : (Jvm.Cond.code ({ cls := "BlockSoundModel", name := "putBit", desc := "(I)V" } : Jvm.MethodName) prog_10_method_11_code (2 : Nat) (Option.none : Option Jvm.ClassFile.FieldType)) ∈ GW := GW_of (List.mem_append_right _ (List.mem_append_right _ (List.mem_append_right _ (List.mem_of_getElem? (i := 91) rfl)))) rfl
theorem T572 : (Jvm.Cond.methodLink "BlockSoundModel" (99 : Nat) ({ cls := "BlockSoundModel", name := "putNumber", desc := "(II)V" } : Jvm.MethodName)) ∈ GW := GW_of (List.mem_append_right _ (List.mem_append_right _ (List.mem_append_right _ (List.mem_of_getElem? (i := 92) rfl)))) rfl
theorem T574 : (Jvm.Cond.instanceMethod ({ cls := "BlockSoundModel", name := "putNumber", desc := "(II)V" } : Jvm.MethodName)) ∈ GW := GW_of (List.mem_append_right _ (List.mem_append_right _ (List.mem_append_right _ (List.mem_of_getElem? (i := 94) rfl)))) rfl
theorem T575 : (Jvm.Cond.code ({ cls := "BlockSoundModel", name := "putNumber", desc := "(II)V" } : Jvm.MethodName) prog_10_method_12_code (4 : Nat) (Option.none : Option Jvm.ClassFile.FieldType)) ∈ GW := GW_of (List.mem_append_right _ (List.mem_append_right _ (List.mem_append_right _ (List.mem_of_getElem? (i := 95) rfl)))) rfl
theorem T576 : (Jvm.Cond.methodLink "BlockSoundModel" (113 : Nat) ({ cls := "BlockSoundModel", name := "writeBlock", desc := "(II)V" } : Jvm.MethodName)) ∈ GW := GW_of (List.mem_append_right _ (List.mem_append_right _ (List.mem_append_right _ (List.mem_of_getElem? (i := 96) rfl)))) rfl
theorem T578 : (Jvm.Cond.instanceMethod ({ cls := "BlockSoundModel", name := "writeBlock", desc := "(II)V" } : Jvm.MethodName)) ∈ GW := GW_of (List.mem_append_right _ (List.mem_append_right _ (List.mem_append_right _ (List.mem_of_getElem? (i := 98) rfl)))) rfl
theorem T579 : (Jvm.Cond.code ({ cls := "BlockSoundModel", name := "writeBlock", desc := "(II)V" } : Jvm.MethodName) prog_10_method_19_code (12 : Nat) (Option.none : Option Jvm.ClassFile.FieldType)) ∈ GW := GW_of (List.mem_append_right _ (List.mem_append_right _ (List.mem_append_right _ (List.mem_of_getElem? (i := 99) rfl)))) rfl
theorem T580 : (Jvm.Cond.methodLink "BlockSoundModel" (88 : Nat) ({ cls := "BlockSoundModel", name := "meanOf", desc := "(I)I" } : Jvm.MethodName)) ∈ GW := GW_of (List.mem_append_right _ (List.mem_append_right _ (List.mem_append_right _ (List.mem_of_getElem? (i := 100) rfl)))) rfl
theorem T582 : (Jvm.Cond.instanceMethod ({ cls := "BlockSoundModel", name := "meanOf", desc := "(I)I" } : Jvm.MethodName)) ∈ GW := GW_of (List.mem_append_right _ (List.mem_append_right _ (List.mem_append_right _ (List.mem_of_getElem? (i := 102) rfl)))) rfl
theorem T583 : (Jvm.Cond.code ({ cls := "BlockSoundModel", name := "meanOf", desc := "(I)I" } : Jvm.MethodName) prog_10_method_7_code (2 : Nat) (Option.some Jvm.ClassFile.FieldType.int)) ∈ GW := GW_of (List.mem_append_right _ (List.mem_append_right _ (List.mem_append_right _ (List.mem_of_getElem? (i := 103) rfl)))) rfl
theorem T584 : (Jvm.Cond.methodLink "BlockSoundModel" (46 : Nat) ({ cls := "BlockSoundModel", name := "rounded", desc := "(JI)I" } : Jvm.MethodName)) ∈ GW := GW_of (List.mem_append_right _ (List.mem_append_right _ (List.mem_append_right _ (List.mem_of_getElem? (i := 104) rfl)))) rfl
theorem T585 : (Jvm.Cond.static ({ cls := "BlockSoundModel", name := "rounded", desc := "(JI)I" } : Jvm.MethodName)) ∈ GW := GW_of (List.mem_append_right _ (List.mem_append_right _ (List.mem_append_right _ (List.mem_of_getElem? (i := 105) rfl)))) rfl
theorem T586 : (Jvm.Cond.code ({ cls := "BlockSoundModel", name := "rounded", desc := "(JI)I" } : Jvm.MethodName) prog_10_method_6_code (7 : Nat) (Option.some Jvm.ClassFile.FieldType.int)) ∈ GW := GW_of (List.mem_append_right _ (List.mem_append_right _ (List.mem_append_right _ (List.mem_of_getElem? (i := 106) rfl)))) rfl
theorem T587 : (Jvm.Cond.methodLink "BlockSoundModel" (91 : Nat) ({ cls := "BlockSoundModel", name := "isMean", desc := "(III)Z" } : Jvm.MethodName)) ∈ GW := GW_of (List.mem_append_right _ (List.mem_append_right _ (List.mem_append_right _ (List.mem_of_getElem? (i := 107) rfl)))) rfl
theorem T589 : (Jvm.Cond.instanceMethod ({ cls := "BlockSoundModel", name := "isMean", desc := "(III)Z" } : Jvm.MethodName)) ∈ GW := GW_of (List.mem_append_right _ (List.mem_append_right _ (List.mem_append_right _ (List.mem_of_getElem? (i := 109) rfl)))) rfl
theorem T590 : (Jvm.Cond.code ({ cls := "BlockSoundModel", name := "isMean", desc := "(III)Z" } : Jvm.MethodName) prog_10_method_18_code (6 : Nat) (Option.some Jvm.ClassFile.FieldType.boolean)) ∈ GW := GW_of (List.mem_append_right _ (List.mem_append_right _ (List.mem_append_right _ (List.mem_of_getElem? (i := 110) rfl)))) rfl
theorem T591 : (Jvm.Cond.methodLink "BlockSoundModel" (74 : Nat) ({ cls := "BlockSoundModel", name := "sizeOf", desc := "(I)I" } : Jvm.MethodName)) ∈ GW := GW_of (List.mem_append_right _ (List.mem_append_right _ (List.mem_append_right _ (List.mem_of_getElem? (i := 111) rfl)))) rfl
theorem T593 : (Jvm.Cond.instanceMethod ({ cls := "BlockSoundModel", name := "sizeOf", desc := "(I)I" } : Jvm.MethodName)) ∈ GW := GW_of (List.mem_append_right _ (List.mem_append_right _ (List.mem_append_right _ (List.mem_of_getElem? (i := 113) rfl)))) rfl
theorem T594 : (Jvm.Cond.code ({ cls := "BlockSoundModel", name := "sizeOf", desc := "(I)I" } : Jvm.MethodName) prog_10_method_16_code (3 : Nat) (Option.some Jvm.ClassFile.FieldType.int)) ∈ GW := GW_of (List.mem_append_right _ (List.mem_append_right _ (List.mem_append_right _ (List.mem_of_getElem? (i := 114) rfl)))) rfl
theorem T595 : (Jvm.Cond.methodLink "BlockSoundModel" (78 : Nat) ({ cls := "BlockSoundModel", name := "firstOf", desc := "(II)I" } : Jvm.MethodName)) ∈ GW := GW_of (List.mem_append_right _ (List.mem_append_right _ (List.mem_append_right _ (List.mem_of_getElem? (i := 115) rfl)))) rfl
theorem T597 : (Jvm.Cond.instanceMethod ({ cls := "BlockSoundModel", name := "firstOf", desc := "(II)I" } : Jvm.MethodName)) ∈ GW := GW_of (List.mem_append_right _ (List.mem_append_right _ (List.mem_append_right _ (List.mem_of_getElem? (i := 117) rfl)))) rfl
theorem T598 : (Jvm.Cond.code ({ cls := "BlockSoundModel", name := "firstOf", desc := "(II)I" } : Jvm.MethodName) prog_10_method_15_code (3 : Nat) (Option.some Jvm.ClassFile.FieldType.int)) ∈ GW := GW_of (List.mem_append_right _ (List.mem_append_right _ (List.mem_append_right _ (List.mem_of_getElem? (i := 118) rfl)))) rfl
theorem T599 : (Jvm.Cond.methodLink "BlockSoundModel" (95 : Nat) ({ cls := "BlockSoundModel", name := "costOf", desc := "(IIIII)I" } : Jvm.MethodName)) ∈ GW := GW_of (List.mem_append_right _ (List.mem_append_right _ (List.mem_append_right _ (List.mem_of_getElem? (i := 119) rfl)))) rfl
theorem T601 : (Jvm.Cond.instanceMethod ({ cls := "BlockSoundModel", name := "costOf", desc := "(IIIII)I" } : Jvm.MethodName)) ∈ GW := GW_of (List.mem_append_right _ (List.mem_append_right _ (List.mem_append_right _ (List.mem_of_getElem? (i := 121) rfl)))) rfl
theorem T602 : (Jvm.Cond.code ({ cls := "BlockSoundModel", name := "costOf", desc := "(IIIII)I" } : Jvm.MethodName) prog_10_method_17_code (9 : Nat) (Option.some Jvm.ClassFile.FieldType.int)) ∈ GW := GW_of (List.mem_append_right _ (List.mem_append_right _ (List.mem_append_right _ (List.mem_of_getElem? (i := 122) rfl)))) rfl
theorem T603 : (Jvm.Cond.methodLink "BlockSoundModel" (70 : Nat) ({ cls := "BlockSoundModel", name := "lengthOf", desc := "(II)I" } : Jvm.MethodName)) ∈ GW := GW_of (List.mem_append_right _ (List.mem_append_right _ (List.mem_append_right _ (List.mem_of_getElem? (i := 123) rfl)))) rfl
theorem T604 : (Jvm.Cond.static ({ cls := "BlockSoundModel", name := "lengthOf", desc := "(II)I" } : Jvm.MethodName)) ∈ GW := GW_of (List.mem_append_right _ (List.mem_append_right _ (List.mem_append_right _ (List.mem_of_getElem? (i := 124) rfl)))) rfl
theorem T605 : (Jvm.Cond.code ({ cls := "BlockSoundModel", name := "lengthOf", desc := "(II)I" } : Jvm.MethodName) prog_10_method_14_code (2 : Nat) (Option.some Jvm.ClassFile.FieldType.int)) ∈ GW := GW_of (List.mem_append_right _ (List.mem_append_right _ (List.mem_append_right _ (List.mem_of_getElem? (i := 125) rfl)))) rfl
theorem T606 : (Jvm.Cond.methodLink "BlockSoundModel" (81 : Nat) ({ cls := "BlockSoundModel", name := "ahead", desc := "(I[IIII)I" } : Jvm.MethodName)) ∈ GW := GW_of (List.mem_append_right _ (List.mem_append_right _ (List.mem_append_right _ (List.mem_of_getElem? (i := 126) rfl)))) rfl
theorem T607 : (Jvm.Cond.static ({ cls := "BlockSoundModel", name := "ahead", desc := "(I[IIII)I" } : Jvm.MethodName)) ∈ GW := GW_of (List.mem_append_right _ (List.mem_append_right _ (List.mem_append_right _ (List.mem_of_getElem? (i := 127) rfl)))) rfl
theorem T608 : (Jvm.Cond.code ({ cls := "BlockSoundModel", name := "ahead", desc := "(I[IIII)I" } : Jvm.MethodName) prog_10_method_10_code (8 : Nat) (Option.some Jvm.ClassFile.FieldType.int)) ∈ GW := GW_of (List.mem_append_right _ (List.mem_append_right _ (List.mem_append_right _ (List.mem_of_getElem? (i := 128) rfl)))) rfl
theorem T609 : (Jvm.Cond.methodLink "BlockSoundModel" (50 : Nat) ({ cls := "BlockSoundModel", name := "before", desc := "([IIII)I" } : Jvm.MethodName)) ∈ GW := GW_of (List.mem_append_right _ (List.mem_append_right _ (List.mem_append_right _ (List.mem_of_getElem? (i := 129) rfl)))) rfl
theorem T610 : (Jvm.Cond.static ({ cls := "BlockSoundModel", name := "before", desc := "([IIII)I" } : Jvm.MethodName)) ∈ GW := GW_of (List.mem_append_right _ (List.mem_append_right _ (List.mem_append_right _ (List.mem_of_getElem? (i := 130) rfl)))) rfl
theorem T611 : (Jvm.Cond.code ({ cls := "BlockSoundModel", name := "before", desc := "([IIII)I" } : Jvm.MethodName) prog_10_method_9_code (5 : Nat) (Option.some Jvm.ClassFile.FieldType.int)) ∈ GW := GW_of (List.mem_append_right _ (List.mem_append_right _ (List.mem_append_right _ (List.mem_of_getElem? (i := 131) rfl)))) rfl
theorem T612 : (Jvm.Cond.methodLink "BlockSoundModel" (85 : Nat) ({ cls := "BlockSoundModel", name := "folded", desc := "(I)I" } : Jvm.MethodName)) ∈ GW := GW_of (List.mem_append_right _ (List.mem_append_right _ (List.mem_append_right _ (List.mem_of_getElem? (i := 132) rfl)))) rfl
theorem T613 : (Jvm.Cond.static ({ cls := "BlockSoundModel", name := "folded", desc := "(I)I" } : Jvm.MethodName)) ∈ GW := GW_of (List.mem_append_right _ (List.mem_append_right _ (List.mem_append_right _ (List.mem_of_getElem? (i := 133) rfl)))) rfl
theorem T614 : (Jvm.Cond.code ({ cls := "BlockSoundModel", name := "folded", desc := "(I)I" } : Jvm.MethodName) prog_10_method_13_code (1 : Nat) (Option.some Jvm.ClassFile.FieldType.int)) ∈ GW := GW_of (List.mem_append_right _ (List.mem_append_right _ (List.mem_append_right _ (List.mem_of_getElem? (i := 134) rfl)))) rfl
theorem T615 : (Jvm.Cond.methodLink "BlockSoundModel" (103 : Nat) ({ cls := "BlockSoundModel", name := "noteMean", desc := "(IJI)V" } : Jvm.MethodName)) ∈ GW := GW_of (List.mem_append_right _ (List.mem_append_right _ (List.mem_append_right _ (List.mem_of_getElem? (i := 135) rfl)))) rfl
theorem T617 : (Jvm.Cond.instanceMethod ({ cls := "BlockSoundModel", name := "noteMean", desc := "(IJI)V" } : Jvm.MethodName)) ∈ GW := GW_of (List.mem_append_right _ (List.mem_append_right _ (List.mem_append_right _ (List.mem_of_getElem? (i := 137) rfl)))) rfl
theorem T618 : (Jvm.Cond.code ({ cls := "BlockSoundModel", name := "noteMean", desc := "(IJI)V" } : Jvm.MethodName) prog_10_method_8_code (6 : Nat) (Option.none : Option Jvm.ClassFile.FieldType)) ∈ GW := GW_of (List.mem_append_right _ (List.mem_append_right _ (List.mem_append_right _ (List.mem_of_getElem? (i := 138) rfl)))) rfl
theorem T619 : (Jvm.Cond.methodLink "BlockSoundLaw" (31 : Nat) ({ cls := "BlockSoundModel", name := "at", desc := "(I)I" } : Jvm.MethodName)) ∈ GW := GW_of (List.mem_append_right _ (List.mem_append_right _ (List.mem_append_right _ (List.mem_of_getElem? (i := 139) rfl)))) rfl
theorem T620 : (Jvm.Cond.instanceMethod ({ cls := "BlockSoundModel", name := "at", desc := "(I)I" } : Jvm.MethodName)) ∈ GW := GW_of (List.mem_append_right _ (List.mem_append_right _ (List.mem_append_right _ (List.mem_of_getElem? (i := 140) rfl)))) rfl
theorem T621 : (Jvm.Cond.selects "BlockSoundModel" ({ cls := "BlockSoundModel", name := "at", desc := "(I)I" } : Jvm.MethodName) ({ cls := "BlockSoundModel", name := "at", desc := "(I)I" } : Jvm.MethodName)) ∈ GW := GW_of (List.mem_append_right _ (List.mem_append_right _ (List.mem_append_right _ (List.mem_of_getElem? (i := 141) rfl)))) rfl
theorem T622 : (Jvm.Cond.code ({ cls := "BlockSoundModel", name := "at", desc := "(I)I" } : Jvm.MethodName) prog_10_method_21_code (4 : Nat) (Option.some Jvm.ClassFile.FieldType.int)) ∈ GW := GW_of (List.mem_append_right _ (List.mem_append_right _ (List.mem_append_right _ (List.mem_of_getElem? (i := 142) rfl)))) rfl
theorem T623 : (Jvm.Cond.methodLink "BlockSoundLaw" (36 : Nat) ({ cls := "BlockSoundModel", name := "block", desc := "(II)I" } : Jvm.MethodName)) ∈ GW := GW_of (List.mem_append_right _ (List.mem_append_right _ (List.mem_append_right _ (List.mem_of_getElem? (i := 143) rfl)))) rfl
theorem T624 : (Jvm.Cond.instanceMethod ({ cls := "BlockSoundModel", name := "block", desc := "(II)I" } : Jvm.MethodName)) ∈ GW := GW_of (List.mem_append_right _ (List.mem_append_right _ (List.mem_append_right _ (List.mem_of_getElem? (i := 144) rfl)))) rfl
theorem T625 : (Jvm.Cond.selects "BlockSoundModel" ({ cls := "BlockSoundModel", name := "block", desc := "(II)I" } : Jvm.MethodName) ({ cls := "BlockSoundModel", name := "block", desc := "(II)I" } : Jvm.MethodName)) ∈ GW := GW_of (List.mem_append_right _ (List.mem_append_right _ (List.mem_append_right _ (List.mem_of_getElem? (i := 145) rfl)))) rfl
theorem T626 : (Jvm.Cond.code ({ cls := "BlockSoundModel", name := "block", desc := "(II)I" } : Jvm.MethodName) prog_10_method_22_code (3 : Nat) (Option.some Jvm.ClassFile.FieldType.int)) ∈ GW := GW_of (List.mem_append_right _ (List.mem_append_right _ (List.mem_append_right _ (List.mem_of_getElem? (i := 146) rfl)))) rfl
theorem T627 : (Jvm.Cond.methodLink "BlockSoundLaw" (41 : Nat) ({ cls := "BlockSoundModel", name := "cost", desc := "(III)I" } : Jvm.MethodName)) ∈ GW := GW_of (List.mem_append_right _ (List.mem_append_right _ (List.mem_append_right _ (List.mem_of_getElem? (i := 147) rfl)))) rfl
theorem T628 : (Jvm.Cond.instanceMethod ({ cls := "BlockSoundModel", name := "cost", desc := "(III)I" } : Jvm.MethodName)) ∈ GW := GW_of (List.mem_append_right _ (List.mem_append_right _ (List.mem_append_right _ (List.mem_of_getElem? (i := 148) rfl)))) rfl
theorem T629 : (Jvm.Cond.selects "BlockSoundModel" ({ cls := "BlockSoundModel", name := "cost", desc := "(III)I" } : Jvm.MethodName) ({ cls := "BlockSoundModel", name := "cost", desc := "(III)I" } : Jvm.MethodName)) ∈ GW := GW_of (List.mem_append_right _ (List.mem_append_right _ (List.mem_append_right _ (List.mem_of_getElem? (i := 149) rfl)))) rfl
theorem T630 : (Jvm.Cond.code ({ cls := "BlockSoundModel", name := "cost", desc := "(III)I" } : Jvm.MethodName) prog_10_method_23_code (10 : Nat) (Option.some Jvm.ClassFile.FieldType.int)) ∈ GW := GW_of (List.mem_append_right _ (List.mem_append_right _ (List.mem_append_right _ (List.mem_of_getElem? (i := 150) rfl)))) rfl
theorem T631 : (Jvm.Cond.methodLink "BlockSoundLaw" (46 : Nat) ({ cls := "BlockSoundModel", name := "feed", desc := "(I)Z" } : Jvm.MethodName)) ∈ GW := GW_of (List.mem_append_right _ (List.mem_append_right _ (List.mem_append_right _ (List.mem_of_getElem? (i := 151) rfl)))) rfl
theorem T632 : (Jvm.Cond.instanceMethod ({ cls := "BlockSoundModel", name := "feed", desc := "(I)Z" } : Jvm.MethodName)) ∈ GW := GW_of (List.mem_append_right _ (List.mem_append_right _ (List.mem_append_right _ (List.mem_of_getElem? (i := 152) rfl)))) rfl
theorem T633 : (Jvm.Cond.selects "BlockSoundModel" ({ cls := "BlockSoundModel", name := "feed", desc := "(I)Z" } : Jvm.MethodName) ({ cls := "BlockSoundModel", name := "feed", desc := "(I)Z" } : Jvm.MethodName)) ∈ GW := GW_of (List.mem_append_right _ (List.mem_append_right _ (List.mem_append_right _ (List.mem_of_getElem? (i := 153) rfl)))) rfl
theorem T634 : (Jvm.Cond.code ({ cls := "BlockSoundModel", name := "feed", desc := "(I)Z" } : Jvm.MethodName) prog_10_method_24_code (2 : Nat) (Option.some Jvm.ClassFile.FieldType.boolean)) ∈ GW := GW_of (List.mem_append_right _ (List.mem_append_right _ (List.mem_append_right _ (List.mem_of_getElem? (i := 154) rfl)))) rfl
theorem T635 : (Jvm.Cond.methodLink "BlockSoundLaw" (50 : Nat) ({ cls := "BlockSoundModel", name := "take", desc := "()I" } : Jvm.MethodName)) ∈ GW := GW_of (List.mem_append_right _ (List.mem_append_right _ (List.mem_append_right _ (List.mem_of_getElem? (i := 155) rfl)))) rfl
theorem T636 : (Jvm.Cond.instanceMethod ({ cls := "BlockSoundModel", name := "take", desc := "()I" } : Jvm.MethodName)) ∈ GW := GW_of (List.mem_append_right _ (List.mem_append_right _ (List.mem_append_right _ (List.mem_of_getElem? (i := 156) rfl)))) rfl
theorem T637 : (Jvm.Cond.selects "BlockSoundModel" ({ cls := "BlockSoundModel", name := "take", desc := "()I" } : Jvm.MethodName) ({ cls := "BlockSoundModel", name := "take", desc := "()I" } : Jvm.MethodName)) ∈ GW := GW_of (List.mem_append_right _ (List.mem_append_right _ (List.mem_append_right _ (List.mem_of_getElem? (i := 157) rfl)))) rfl
theorem T638 : (Jvm.Cond.code ({ cls := "BlockSoundModel", name := "take", desc := "()I" } : Jvm.MethodName) prog_10_method_25_code (3 : Nat) (Option.some Jvm.ClassFile.FieldType.int)) ∈ GW := GW_of (List.mem_append_right _ (List.mem_append_right _ (List.mem_append_right _ (List.mem_of_getElem? (i := 158) rfl)))) rfl
theorem T639 : (Jvm.Cond.methodLink "BlockSoundModel" (119 : Nat) ({ cls := "BlockSoundModel", name := "at", desc := "(I)I" } : Jvm.MethodName)) ∈ GW := GW_of (List.mem_append_right _ (List.mem_append_right _ (List.mem_append_right _ (List.mem_of_getElem? (i := 159) rfl)))) rfl
theorem T640 : (Jvm.Cond.methodLink "BlockSoundLaw" (54 : Nat) ({ cls := "BlockSoundModel", name := "read", desc := "()I" } : Jvm.MethodName)) ∈ GW := GW_of (List.mem_append_right _ (List.mem_append_right _ (List.mem_append_right _ (List.mem_of_getElem? (i := 160) rfl)))) rfl
theorem T641 : (Jvm.Cond.instanceMethod ({ cls := "BlockSoundModel", name := "read", desc := "()I" } : Jvm.MethodName)) ∈ GW := GW_of (List.mem_append_right _ (List.mem_append_right _ (List.mem_append_right _ (List.mem_of_getElem? (i := 161) rfl)))) rfl
theorem T642 : (Jvm.Cond.selects "BlockSoundModel" ({ cls := "BlockSoundModel", name := "read", desc := "()I" } : Jvm.MethodName) ({ cls := "BlockSoundModel", name := "read", desc := "()I" } : Jvm.MethodName)) ∈ GW := GW_of (List.mem_append_right _ (List.mem_append_right _ (List.mem_append_right _ (List.mem_of_getElem? (i := 162) rfl)))) rfl
theorem T643 : (Jvm.Cond.code ({ cls := "BlockSoundModel", name := "read", desc := "()I" } : Jvm.MethodName) prog_10_method_32_code (3 : Nat) (Option.some Jvm.ClassFile.FieldType.int)) ∈ GW := GW_of (List.mem_append_right _ (List.mem_append_right _ (List.mem_append_right _ (List.mem_of_getElem? (i := 163) rfl)))) rfl
theorem T644 : (Jvm.Cond.methodLink "BlockSoundModel" (160 : Nat) ({ cls := "BlockSoundModel", name := "stream", desc := "()I" } : Jvm.MethodName)) ∈ GW := GW_of (List.mem_append_right _ (List.mem_append_right _ (List.mem_append_right _ (List.mem_of_getElem? (i := 164) rfl)))) rfl
theorem T646 : (Jvm.Cond.instanceMethod ({ cls := "BlockSoundModel", name := "stream", desc := "()I" } : Jvm.MethodName)) ∈ GW := GW_of (List.mem_append_right _ (List.mem_append_right _ (List.mem_append_right _ (List.mem_of_getElem? (i := 166) rfl)))) rfl
theorem T647 : (Jvm.Cond.code ({ cls := "BlockSoundModel", name := "stream", desc := "()I" } : Jvm.MethodName) prog_10_method_31_code (7 : Nat) (Option.some Jvm.ClassFile.FieldType.int)) ∈ GW := GW_of (List.mem_append_right _ (List.mem_append_right _ (List.mem_append_right _ (List.mem_of_getElem? (i := 167) rfl)))) rfl
theorem T648 : (Jvm.Cond.methodLink "BlockSoundModel" (149 : Nat) ({ cls := "BlockSoundModel", name := "hasByte", desc := "(I)Z" } : Jvm.MethodName)) ∈ GW := GW_of (List.mem_append_right _ (List.mem_append_right _ (List.mem_append_right _ (List.mem_of_getElem? (i := 168) rfl)))) rfl
theorem T650 : (Jvm.Cond.instanceMethod ({ cls := "BlockSoundModel", name := "hasByte", desc := "(I)Z" } : Jvm.MethodName)) ∈ GW := GW_of (List.mem_append_right _ (List.mem_append_right _ (List.mem_append_right _ (List.mem_of_getElem? (i := 170) rfl)))) rfl
theorem T651 : (Jvm.Cond.code ({ cls := "BlockSoundModel", name := "hasByte", desc := "(I)Z" } : Jvm.MethodName) prog_10_method_29_code (4 : Nat) (Option.some Jvm.ClassFile.FieldType.boolean)) ∈ GW := GW_of (List.mem_append_right _ (List.mem_append_right _ (List.mem_append_right _ (List.mem_of_getElem? (i := 171) rfl)))) rfl
theorem T652 : (Jvm.Cond.methodLink "BlockSoundModel" (131 : Nat) ({ cls := "BlockSoundModel", name := "nextBit", desc := "()I" } : Jvm.MethodName)) ∈ GW := GW_of (List.mem_append_right _ (List.mem_append_right _ (List.mem_append_right _ (List.mem_of_getElem? (i := 172) rfl)))) rfl
theorem T654 : (Jvm.Cond.instanceMethod ({ cls := "BlockSoundModel", name := "nextBit", desc := "()I" } : Jvm.MethodName)) ∈ GW := GW_of (List.mem_append_right _ (List.mem_append_right _ (List.mem_append_right _ (List.mem_of_getElem? (i := 174) rfl)))) rfl
theorem T655 : (Jvm.Cond.code ({ cls := "BlockSoundModel", name := "nextBit", desc := "()I" } : Jvm.MethodName) prog_10_method_26_code (2 : Nat) (Option.some Jvm.ClassFile.FieldType.int)) ∈ GW := GW_of (List.mem_append_right _ (List.mem_append_right _ (List.mem_append_right _ (List.mem_of_getElem? (i := 175) rfl)))) rfl
theorem T656 : (Jvm.Cond.methodLink "BlockSoundModel" (138 : Nat) ({ cls := "BlockSoundModel", name := "isGood", desc := "(Z)Z" } : Jvm.MethodName)) ∈ GW := GW_of (List.mem_append_right _ (List.mem_append_right _ (List.mem_append_right _ (List.mem_of_getElem? (i := 176) rfl)))) rfl
theorem T658 : (Jvm.Cond.instanceMethod ({ cls := "BlockSoundModel", name := "isGood", desc := "(Z)Z" } : Jvm.MethodName)) ∈ GW := GW_of (List.mem_append_right _ (List.mem_append_right _ (List.mem_append_right _ (List.mem_of_getElem? (i := 178) rfl)))) rfl
theorem T659 : (Jvm.Cond.code ({ cls := "BlockSoundModel", name := "isGood", desc := "(Z)Z" } : Jvm.MethodName) prog_10_method_28_code (2 : Nat) (Option.some Jvm.ClassFile.FieldType.boolean)) ∈ GW := GW_of (List.mem_append_right _ (List.mem_append_right _ (List.mem_append_right _ (List.mem_of_getElem? (i := 179) rfl)))) rfl
theorem T660 : (Jvm.Cond.methodLink "BlockSoundModel" (142 : Nat) ({ cls := "BlockSoundModel", name := "nextNumber", desc := "(I)I" } : Jvm.MethodName)) ∈ GW := GW_of (List.mem_append_right _ (List.mem_append_right _ (List.mem_append_right _ (List.mem_of_getElem? (i := 180) rfl)))) rfl
theorem T662 : (Jvm.Cond.instanceMethod ({ cls := "BlockSoundModel", name := "nextNumber", desc := "(I)I" } : Jvm.MethodName)) ∈ GW := GW_of (List.mem_append_right _ (List.mem_append_right _ (List.mem_append_right _ (List.mem_of_getElem? (i := 182) rfl)))) rfl
theorem T663 : (Jvm.Cond.code ({ cls := "BlockSoundModel", name := "nextNumber", desc := "(I)I" } : Jvm.MethodName) prog_10_method_27_code (4 : Nat) (Option.some Jvm.ClassFile.FieldType.int)) ∈ GW := GW_of (List.mem_append_right _ (List.mem_append_right _ (List.mem_append_right _ (List.mem_of_getElem? (i := 183) rfl)))) rfl
theorem T664 : (Jvm.Cond.methodLink "BlockSoundModel" (153 : Nat) ({ cls := "BlockSoundModel", name := "readBlock", desc := "(IIII)Z" } : Jvm.MethodName)) ∈ GW := GW_of (List.mem_append_right _ (List.mem_append_right _ (List.mem_append_right _ (List.mem_of_getElem? (i := 184) rfl)))) rfl
theorem T666 : (Jvm.Cond.instanceMethod ({ cls := "BlockSoundModel", name := "readBlock", desc := "(IIII)Z" } : Jvm.MethodName)) ∈ GW := GW_of (List.mem_append_right _ (List.mem_append_right _ (List.mem_append_right _ (List.mem_of_getElem? (i := 186) rfl)))) rfl
theorem T667 : (Jvm.Cond.code ({ cls := "BlockSoundModel", name := "readBlock", desc := "(IIII)Z" } : Jvm.MethodName) prog_10_method_30_code (16 : Nat) (Option.some Jvm.ClassFile.FieldType.boolean)) ∈ GW := GW_of (List.mem_append_right _ (List.mem_append_right _ (List.mem_append_right _ (List.mem_of_getElem? (i := 187) rfl)))) rfl
theorem T668 : (Jvm.Cond.constantLong "BlockSoundModel" 145 (lI (-32768))) ∈ GW := by
  have e : lI (-32768) = (-32768 : Int64) := by decide
  rw [e]
  exact GW_of (List.mem_append_right _ (List.mem_append_right _ (List.mem_append_right _ (List.mem_of_getElem? (i := 188) rfl)))) rfl
theorem T669 : (Jvm.Cond.constantLong "BlockSoundModel" 147 (lI (32767))) ∈ GW := by
  have e : lI (32767) = (32767 : Int64) := by decide
  rw [e]
  exact GW_of (List.mem_append_right _ (List.mem_append_right _ (List.mem_append_right _ (List.mem_of_getElem? (i := 189) rfl)))) rfl
theorem T670 : (Jvm.Cond.methodLink "BlockSoundLaw" (58 : Nat) ({ cls := "BlockSoundModel", name := "value", desc := "(I)I" } : Jvm.MethodName)) ∈ GW := GW_of (List.mem_append_right _ (List.mem_append_right _ (List.mem_append_right _ (List.mem_of_getElem? (i := 190) rfl)))) rfl
theorem T671 : (Jvm.Cond.instanceMethod ({ cls := "BlockSoundModel", name := "value", desc := "(I)I" } : Jvm.MethodName)) ∈ GW := GW_of (List.mem_append_right _ (List.mem_append_right _ (List.mem_append_right _ (List.mem_of_getElem? (i := 191) rfl)))) rfl
theorem T672 : (Jvm.Cond.selects "BlockSoundModel" ({ cls := "BlockSoundModel", name := "value", desc := "(I)I" } : Jvm.MethodName) ({ cls := "BlockSoundModel", name := "value", desc := "(I)I" } : Jvm.MethodName)) ∈ GW := GW_of (List.mem_append_right _ (List.mem_append_right _ (List.mem_append_right _ (List.mem_of_getElem? (i := 192) rfl)))) rfl
theorem T673 : (Jvm.Cond.code ({ cls := "BlockSoundModel", name := "value", desc := "(I)I" } : Jvm.MethodName) prog_10_method_33_code (2 : Nat) (Option.some Jvm.ClassFile.FieldType.int)) ∈ GW := GW_of (List.mem_append_right _ (List.mem_append_right _ (List.mem_append_right _ (List.mem_of_getElem? (i := 193) rfl)))) rfl
theorem T674 : (Jvm.Cond.constant "BlockSoundModel" 166 (iI (-99999))) ∈ GW := by
  have e : iI (-99999) = (-99999 : Int32) := by decide
  rw [e]
  exact GW_of (List.mem_append_right _ (List.mem_append_right _ (List.mem_append_right _ (List.mem_of_getElem? (i := 194) rfl)))) rfl
theorem T675 : (Jvm.Cond.methodLink "BlockSoundLaw" (63 : Nat) ({ cls := "BlockSoundModel", name := "same", desc := "()Z" } : Jvm.MethodName)) ∈ GW := GW_of (List.mem_append_right _ (List.mem_append_right _ (List.mem_append_right _ (List.mem_of_getElem? (i := 195) rfl)))) rfl
theorem T676 : (Jvm.Cond.instanceMethod ({ cls := "BlockSoundModel", name := "same", desc := "()Z" } : Jvm.MethodName)) ∈ GW := GW_of (List.mem_append_right _ (List.mem_append_right _ (List.mem_append_right _ (List.mem_of_getElem? (i := 196) rfl)))) rfl
theorem T677 : (Jvm.Cond.selects "BlockSoundModel" ({ cls := "BlockSoundModel", name := "same", desc := "()Z" } : Jvm.MethodName) ({ cls := "BlockSoundModel", name := "same", desc := "()Z" } : Jvm.MethodName)) ∈ GW := GW_of (List.mem_append_right _ (List.mem_append_right _ (List.mem_append_right _ (List.mem_of_getElem? (i := 197) rfl)))) rfl
theorem T678 : (Jvm.Cond.code ({ cls := "BlockSoundModel", name := "same", desc := "()Z" } : Jvm.MethodName) prog_10_method_34_code (4 : Nat) (Option.some Jvm.ClassFile.FieldType.boolean)) ∈ GW := GW_of (List.mem_append_right _ (List.mem_append_right _ (List.mem_append_right _ (List.mem_of_getElem? (i := 198) rfl)))) rfl
theorem T679 : (Jvm.Cond.methodLink "BlockSoundLaw" (67 : Nat) ({ cls := "BlockSoundModel", name := "count", desc := "(I)I" } : Jvm.MethodName)) ∈ GW := GW_of (List.mem_append_right _ (List.mem_append_right _ (List.mem_append_right _ (List.mem_of_getElem? (i := 199) rfl)))) rfl
theorem T680 : (Jvm.Cond.instanceMethod ({ cls := "BlockSoundModel", name := "count", desc := "(I)I" } : Jvm.MethodName)) ∈ GW := GW_of (List.mem_append_right _ (List.mem_append_right _ (List.mem_append_right _ (List.mem_of_getElem? (i := 200) rfl)))) rfl
theorem T681 : (Jvm.Cond.selects "BlockSoundModel" ({ cls := "BlockSoundModel", name := "count", desc := "(I)I" } : Jvm.MethodName) ({ cls := "BlockSoundModel", name := "count", desc := "(I)I" } : Jvm.MethodName)) ∈ GW := GW_of (List.mem_append_right _ (List.mem_append_right _ (List.mem_append_right _ (List.mem_of_getElem? (i := 201) rfl)))) rfl
theorem T682 : (Jvm.Cond.code ({ cls := "BlockSoundModel", name := "count", desc := "(I)I" } : Jvm.MethodName) prog_10_method_35_code (2 : Nat) (Option.some Jvm.ClassFile.FieldType.int)) ∈ GW := GW_of (List.mem_append_right _ (List.mem_append_right _ (List.mem_append_right _ (List.mem_of_getElem? (i := 202) rfl)))) rfl
theorem S0 : Cond.selects "BlockSound$StreamWriter" ({ cls := "BlockSound$StreamWriter", name := "choose", desc := "(I)V" } : Jvm.MethodName) ({ cls := "BlockSound$StreamWriter", name := "choose", desc := "(I)V" } : Jvm.MethodName) ∈ GW := GW_of (List.mem_append_left _ (List.mem_of_getElem? (i := 0) rfl)) rfl
theorem S1 : Cond.selects "BlockSound$StreamWriter" ({ cls := "BlockSound$StreamWriter", name := "findRests", desc := "(II)V" } : Jvm.MethodName) ({ cls := "BlockSound$StreamWriter", name := "findRests", desc := "(II)V" } : Jvm.MethodName) ∈ GW := GW_of (List.mem_append_left _ (List.mem_of_getElem? (i := 1) rfl)) rfl
theorem S2 : Cond.selects "BlockSound$StreamWriter" ({ cls := "BlockSound$StreamWriter", name := "zerosFor", desc := "(I)I" } : Jvm.MethodName) ({ cls := "BlockSound$StreamWriter", name := "zerosFor", desc := "(I)I" } : Jvm.MethodName) ∈ GW := GW_of (List.mem_append_left _ (List.mem_of_getElem? (i := 2) rfl)) rfl
theorem S3 : Cond.selects "BlockSound$StreamWriter" ({ cls := "BlockSound$StreamWriter", name := "bitsWith", desc := "(III)I" } : Jvm.MethodName) ({ cls := "BlockSound$StreamWriter", name := "bitsWith", desc := "(III)I" } : Jvm.MethodName) ∈ GW := GW_of (List.mem_append_left _ (List.mem_of_getElem? (i := 3) rfl)) rfl
theorem S4 : Cond.selects "BlockSound$StreamWriter" ({ cls := "BlockSound$StreamWriter", name := "putBlock", desc := "(I)V" } : Jvm.MethodName) ({ cls := "BlockSound$StreamWriter", name := "putBlock", desc := "(I)V" } : Jvm.MethodName) ∈ GW := GW_of (List.mem_append_left _ (List.mem_of_getElem? (i := 4) rfl)) rfl
theorem S5 : Cond.selects "BlockSound$StreamReader" ({ cls := "BlockSound$StreamReader", name := "parseHead", desc := "()V" } : Jvm.MethodName) ({ cls := "BlockSound$StreamReader", name := "parseHead", desc := "()V" } : Jvm.MethodName) ∈ GW := GW_of (List.mem_append_left _ (List.mem_of_getElem? (i := 5) rfl)) rfl
theorem S6 : Cond.selects "BlockSound$StreamReader" ({ cls := "BlockSound$StreamReader", name := "nextByte", desc := "(I)V" } : Jvm.MethodName) ({ cls := "BlockSound$StreamReader", name := "nextByte", desc := "(I)V" } : Jvm.MethodName) ∈ GW := GW_of (List.mem_append_left _ (List.mem_of_getElem? (i := 6) rfl)) rfl
theorem S7 : Cond.selects "BlockSound$StreamReader" ({ cls := "BlockSound$StreamReader", name := "isRight", desc := "()Z" } : Jvm.MethodName) ({ cls := "BlockSound$StreamReader", name := "isRight", desc := "()Z" } : Jvm.MethodName) ∈ GW := GW_of (List.mem_append_left _ (List.mem_of_getElem? (i := 7) rfl)) rfl
theorem S8 : Cond.selects "BlockSound$StreamReader" ({ cls := "BlockSound$StreamReader", name := "judge", desc := "(IIII)V" } : Jvm.MethodName) ({ cls := "BlockSound$StreamReader", name := "judge", desc := "(IIII)V" } : Jvm.MethodName) ∈ GW := GW_of (List.mem_append_left _ (List.mem_of_getElem? (i := 8) rfl)) rfl
theorem S9 : Cond.selects "BlockSound$StreamReader" ({ cls := "BlockSound$StreamReader", name := "nextWithin", desc := "(III)I" } : Jvm.MethodName) ({ cls := "BlockSound$StreamReader", name := "nextWithin", desc := "(III)I" } : Jvm.MethodName) ∈ GW := GW_of (List.mem_append_left _ (List.mem_of_getElem? (i := 9) rfl)) rfl
theorem S10 : Cond.selects "BlockSound$StreamReader" ({ cls := "BlockSound$StreamReader", name := "parseBlock", desc := "(I)V" } : Jvm.MethodName) ({ cls := "BlockSound$StreamReader", name := "parseBlock", desc := "(I)V" } : Jvm.MethodName) ∈ GW := GW_of (List.mem_append_left _ (List.mem_of_getElem? (i := 10) rfl)) rfl
theorem S11 : Cond.selects "BlockSound$StreamReader" ({ cls := "BlockSound$StreamReader", name := "parseFilling", desc := "()V" } : Jvm.MethodName) ({ cls := "BlockSound$StreamReader", name := "parseFilling", desc := "()V" } : Jvm.MethodName) ∈ GW := GW_of (List.mem_append_left _ (List.mem_of_getElem? (i := 11) rfl)) rfl
theorem S12 : Cond.selects "BlockSoundModel" ({ cls := "BlockSoundModel", name := "forgetMeans", desc := "()V" } : Jvm.MethodName) ({ cls := "BlockSoundModel", name := "forgetMeans", desc := "()V" } : Jvm.MethodName) ∈ GW := GW_of (List.mem_append_left _ (List.mem_of_getElem? (i := 12) rfl)) rfl
theorem S13 : Cond.selects "BlockSoundModel" ({ cls := "BlockSoundModel", name := "putBit", desc := "(I)V" } : Jvm.MethodName) ({ cls := "BlockSoundModel", name := "putBit", desc := "(I)V" } : Jvm.MethodName) ∈ GW := GW_of (List.mem_append_left _ (List.mem_of_getElem? (i := 13) rfl)) rfl
theorem S14 : Cond.selects "BlockSoundModel" ({ cls := "BlockSoundModel", name := "putNumber", desc := "(II)V" } : Jvm.MethodName) ({ cls := "BlockSoundModel", name := "putNumber", desc := "(II)V" } : Jvm.MethodName) ∈ GW := GW_of (List.mem_append_left _ (List.mem_of_getElem? (i := 14) rfl)) rfl
theorem S15 : Cond.selects "BlockSoundModel" ({ cls := "BlockSoundModel", name := "writeBlock", desc := "(II)V" } : Jvm.MethodName) ({ cls := "BlockSoundModel", name := "writeBlock", desc := "(II)V" } : Jvm.MethodName) ∈ GW := GW_of (List.mem_append_left _ (List.mem_of_getElem? (i := 15) rfl)) rfl
theorem S16 : Cond.selects "BlockSoundModel" ({ cls := "BlockSoundModel", name := "meanOf", desc := "(I)I" } : Jvm.MethodName) ({ cls := "BlockSoundModel", name := "meanOf", desc := "(I)I" } : Jvm.MethodName) ∈ GW := GW_of (List.mem_append_left _ (List.mem_of_getElem? (i := 16) rfl)) rfl
theorem S17 : Cond.selects "BlockSoundModel" ({ cls := "BlockSoundModel", name := "isMean", desc := "(III)Z" } : Jvm.MethodName) ({ cls := "BlockSoundModel", name := "isMean", desc := "(III)Z" } : Jvm.MethodName) ∈ GW := GW_of (List.mem_append_left _ (List.mem_of_getElem? (i := 17) rfl)) rfl
theorem S18 : Cond.selects "BlockSoundModel" ({ cls := "BlockSoundModel", name := "sizeOf", desc := "(I)I" } : Jvm.MethodName) ({ cls := "BlockSoundModel", name := "sizeOf", desc := "(I)I" } : Jvm.MethodName) ∈ GW := GW_of (List.mem_append_left _ (List.mem_of_getElem? (i := 18) rfl)) rfl
theorem S19 : Cond.selects "BlockSoundModel" ({ cls := "BlockSoundModel", name := "firstOf", desc := "(II)I" } : Jvm.MethodName) ({ cls := "BlockSoundModel", name := "firstOf", desc := "(II)I" } : Jvm.MethodName) ∈ GW := GW_of (List.mem_append_left _ (List.mem_of_getElem? (i := 19) rfl)) rfl
theorem S20 : Cond.selects "BlockSoundModel" ({ cls := "BlockSoundModel", name := "costOf", desc := "(IIIII)I" } : Jvm.MethodName) ({ cls := "BlockSoundModel", name := "costOf", desc := "(IIIII)I" } : Jvm.MethodName) ∈ GW := GW_of (List.mem_append_left _ (List.mem_of_getElem? (i := 20) rfl)) rfl
theorem S21 : Cond.selects "BlockSoundModel" ({ cls := "BlockSoundModel", name := "noteMean", desc := "(IJI)V" } : Jvm.MethodName) ({ cls := "BlockSoundModel", name := "noteMean", desc := "(IJI)V" } : Jvm.MethodName) ∈ GW := GW_of (List.mem_append_left _ (List.mem_of_getElem? (i := 21) rfl)) rfl
theorem S22 : Cond.selects "BlockSoundModel" ({ cls := "BlockSoundModel", name := "stream", desc := "()I" } : Jvm.MethodName) ({ cls := "BlockSoundModel", name := "stream", desc := "()I" } : Jvm.MethodName) ∈ GW := GW_of (List.mem_append_left _ (List.mem_of_getElem? (i := 22) rfl)) rfl
theorem S23 : Cond.selects "BlockSoundModel" ({ cls := "BlockSoundModel", name := "hasByte", desc := "(I)Z" } : Jvm.MethodName) ({ cls := "BlockSoundModel", name := "hasByte", desc := "(I)Z" } : Jvm.MethodName) ∈ GW := GW_of (List.mem_append_left _ (List.mem_of_getElem? (i := 23) rfl)) rfl
theorem S24 : Cond.selects "BlockSoundModel" ({ cls := "BlockSoundModel", name := "nextBit", desc := "()I" } : Jvm.MethodName) ({ cls := "BlockSoundModel", name := "nextBit", desc := "()I" } : Jvm.MethodName) ∈ GW := GW_of (List.mem_append_left _ (List.mem_of_getElem? (i := 24) rfl)) rfl
theorem S25 : Cond.selects "BlockSoundModel" ({ cls := "BlockSoundModel", name := "isGood", desc := "(Z)Z" } : Jvm.MethodName) ({ cls := "BlockSoundModel", name := "isGood", desc := "(Z)Z" } : Jvm.MethodName) ∈ GW := GW_of (List.mem_append_left _ (List.mem_of_getElem? (i := 25) rfl)) rfl
theorem S26 : Cond.selects "BlockSoundModel" ({ cls := "BlockSoundModel", name := "nextNumber", desc := "(I)I" } : Jvm.MethodName) ({ cls := "BlockSoundModel", name := "nextNumber", desc := "(I)I" } : Jvm.MethodName) ∈ GW := GW_of (List.mem_append_left _ (List.mem_of_getElem? (i := 26) rfl)) rfl
theorem S27 : Cond.selects "BlockSoundModel" ({ cls := "BlockSoundModel", name := "readBlock", desc := "(IIII)Z" } : Jvm.MethodName) ({ cls := "BlockSoundModel", name := "readBlock", desc := "(IIII)Z" } : Jvm.MethodName) ∈ GW := GW_of (List.mem_append_left _ (List.mem_of_getElem? (i := 27) rfl)) rfl
theorem inC0_0 : (u_ws RX0 TX0 3).all (fun w => decide (w ∈ lw_tbl) && goodWord w) = true := by decide +kernel
theorem inC0 : ∀ w ∈ u_ws RX0 TX0 3, w ∈ GW := fun w h => by
  have h1 := List.all_eq_true.mp inC0_0 w h
  simp only [Bool.and_eq_true, decide_eq_true_eq] at h1
  exact GW_of h1.1 h1.2
theorem inC1_0 : (u_ws RX1 TX1 3).all (fun w => decide (w ∈ lw_tbl) && goodWord w) = true := by decide +kernel
theorem inC1 : ∀ w ∈ u_ws RX1 TX1 3, w ∈ GW := fun w h => by
  have h1 := List.all_eq_true.mp inC1_0 w h
  simp only [Bool.and_eq_true, decide_eq_true_eq] at h1
  exact GW_of h1.1 h1.2
theorem inC2_0 : (u_ws RX2 TX2 2).all (fun w => decide (w ∈ lw_tbl) && goodWord w) = true := by decide +kernel
theorem inC2 : ∀ w ∈ u_ws RX2 TX2 2, w ∈ GW := fun w h => by
  have h1 := List.all_eq_true.mp inC2_0 w h
  simp only [Bool.and_eq_true, decide_eq_true_eq] at h1
  exact GW_of h1.1 h1.2
theorem inC3_0 : (u_ws RX3 TX3 1).all (fun w => decide (w ∈ lw_tbl) && goodWord w) = true := by decide +kernel
theorem inC3 : ∀ w ∈ u_ws RX3 TX3 1, w ∈ GW := fun w h => by
  have h1 := List.all_eq_true.mp inC3_0 w h
  simp only [Bool.and_eq_true, decide_eq_true_eq] at h1
  exact GW_of h1.1 h1.2
theorem inC4_0 : (u_ws RX4 TX4 4).all (fun w => decide (w ∈ lw_tbl) && goodWord w) = true := by decide +kernel
theorem inC4 : ∀ w ∈ u_ws RX4 TX4 4, w ∈ GW := fun w h => by
  have h1 := List.all_eq_true.mp inC4_0 w h
  simp only [Bool.and_eq_true, decide_eq_true_eq] at h1
  exact GW_of h1.1 h1.2
theorem inC5_0 : (u_ws RX5 TX5 5).all (fun w => decide (w ∈ lw_tbl) && goodWord w) = true := by decide +kernel
theorem inC5 : ∀ w ∈ u_ws RX5 TX5 5, w ∈ GW := fun w h => by
  have h1 := List.all_eq_true.mp inC5_0 w h
  simp only [Bool.and_eq_true, decide_eq_true_eq] at h1
  exact GW_of h1.1 h1.2
theorem inC6_0 : (u_ws RX6 TX6 8).all (fun w => decide (w ∈ lw_tbl) && goodWord w) = true := by decide +kernel
theorem inC6 : ∀ w ∈ u_ws RX6 TX6 8, w ∈ GW := fun w h => by
  have h1 := List.all_eq_true.mp inC6_0 w h
  simp only [Bool.and_eq_true, decide_eq_true_eq] at h1
  exact GW_of h1.1 h1.2
theorem inC7_0 : (u_ws RX7 TX7 5).all (fun w => decide (w ∈ lw_tbl) && goodWord w) = true := by decide +kernel
theorem inC7 : ∀ w ∈ u_ws RX7 TX7 5, w ∈ GW := fun w h => by
  have h1 := List.all_eq_true.mp inC7_0 w h
  simp only [Bool.and_eq_true, decide_eq_true_eq] at h1
  exact GW_of h1.1 h1.2
theorem inC8_0 : (u_ws RX8 TX8 23).all (fun w => decide (w ∈ lw_tbl) && goodWord w) = true := by decide +kernel
theorem inC8 : ∀ w ∈ u_ws RX8 TX8 23, w ∈ GW := fun w h => by
  have h1 := List.all_eq_true.mp inC8_0 w h
  simp only [Bool.and_eq_true, decide_eq_true_eq] at h1
  exact GW_of h1.1 h1.2
end
section
section JM
variable {p : Program} {l : Launch} {e : Env} {R : Room} {s : State} {m : MethodId} {args : Array Value} {below : List Frame} {meth : Method} {c : Code} {X : GX} {A : Nat → Prop} {nL cells slots : Nat} {Q : State → Prop} {ws ws' : va_W} {lv lv' : List (Nat × Value)} {pc : Nat} {st : List Value} {cc : ByteArray} {own : String}
theorem J_f {rv : Option Value} {wr wu : va_W} {rest st' : List Value} (is : List Nat) (hn : va_nd is = true) (hs : is.map (fun i => (wr ++ wu)[i]?) = ws'.map some) (hs2 : is.filterMap (fun i => (wr ++ wu)[i]?) = ws') (hst : rv.toList ++ rest = st') (k : J p l e R s m args below meth c X A nL cells slots Q ws' lv pc st') : ∀ (v : Option Value) (u : va_W), fun1 rv wu v u → J p l e R s m args below meth c X A nL cells slots Q (wr ++ u) lv pc (v.toList ++ rest) := by
  intro v u h
  obtain ⟨rfl, rfl⟩ := h
  subst hst
  exact J_sub is hn hs hs2 k
theorem J_top {a b : Int} (h : a = b) (k : J p l e R s m args below meth c X A nL cells slots Q ws lv pc (.int (iI b) :: st)) : J p l e R s m args below meth c X A nL cells slots Q ws lv pc (.int (iI a) :: st) := h ▸ k
theorem J_topl {a b : Int} (h : a = b) (k : J p l e R s m args below meth c X A nL cells slots Q ws lv pc (.long (lI b) :: st)) : J p l e R s m args below meth c X A nL cells slots Q ws lv pc (.long (lI a) :: st) := h ▸ k
theorem J_objInit (cx : Cx p s m args meth c X A nL cc own) {idx a : Nat} (hlink : Cond.methodLink own idx Lib.objectInit ∈ GW) (hinst : Cond.instanceMethod Lib.objectInit ∈ GW) (hcode : Cond.code Lib.objectInit ⟨#[0xb1]⟩ 1 none ∈ GW) (hdg : decode cc pc = .ok (.invokespecial idx, 3)) (h1 : 1 ≤ R.frames) (h2 : 20 ≤ R.locals) (h3 : (st.map fun v => v.category).sum ≤ 8) (k : J p l e R s m args below meth c X A nL cells slots Q ws lv (pc + 3) st) : J p l e R s m args below meth c X A nL cells slots Q ws lv pc (.ref a :: st) :=
  fun H locs ls hP hD hS hl => W.objInit cx.1 cx.2.1 cx.2.2.2.1 (cx.2.2.2.2.1 _ hlink) (cx.2.2.2.2.1 _ hinst) (cx.2.2.2.2.1 _ hcode) rfl (by rw [cx.2.2.1]; exact hl.1) rfl hdg h1 (by show 2 * 0 + _ + 12 ≤ _; omega) (k H locs ls hP hD hS hl)
theorem J_new (cx : Cx p s m args meth c X A nL cc own) {C : String} {T : u_T} {N ci index : Nat} {fs : List Value} (hin : ∀ w ∈ u_ws C T N, w ∈ GW) (ty : Nat → FieldType) (hty : ∀ k, k < N → parseFieldDescriptor (T k).2.2.1 = some (ty k)) (hcl : Cond.classLink own index C ∈ GW) (hinst : Cond.instantiable C N ∈ GW) (hini : Cond.initialized C ∈ GW) (hc : vwCl[ci]? = some (C, T, N)) (hfs : ∀ j, j < N → defaultValue (ty j) = vp_V fs j) (hcells : cells + 1 ≤ R.cells) (hslots : slots + N ≤ R.slots) (hdg : decode cc pc = .ok (.new index, 3))
    (k : ∀ q : Nat, J p l e R s m args below meth c X A nL (cells + 1) (slots + N) Q (ws ++ [(q, .inr (ci, fs))]) lv (pc + 3) (.ref q :: st)) : J p l e R s m args below meth c X A nL cells slots Q ws lv pc st :=
  fun H locs ls hP hD hS hl => va_new (D := X.1) (cl := vwCl) (tys := tyX X) cx.1 cx.2.1 cx.2.2.2.2.1 hin ty hty cx.2.2.2.1 (cx.2.2.2.2.1 _ hcl) (cx.2.2.2.2.1 _ hinst) (cx.2.2.2.2.1 _ hini) cx.2.2.2.2.2.1.1 hP hD hS cx.2.2.2.2.2.2.1 hc hfs hcells hslots hdg (fun q H1 hP1 hD1 hS1 => k q H1 locs ls hP1 hD1 hS1 hl)
theorem J_newarr_1 (cx : Cx p s m args meth c X A nL cc own) {atype : ArrayType} {ty : FieldType} (hty : newarray.typeOf atype = ty) {t0 : Nat} {cA : ClassId} (ht : (tyX X)[t0]? = some (cA, ty)) (hra : ∀ d : ClassId, va_RA s d ty → d = cA) (harr : Cond.arrayClass (newarray.typeOf atype) ∈ GW) {n : Nat} (hd : defaultValue ty = .int 0) (hn : (n : Int) < 2147483648) (hbytes : n * componentBytes ty ≤ 536870912) (hcells : cells + 1 ≤ R.cells) (hslots : slots + n ≤ R.slots) (hdg : decode cc pc = .ok (.newarray atype, 2))
    (k : ∀ q : Nat, J p l e R s m args below meth c X A nL (cells + 1) (slots + n) Q (ws ++ [(q, .inl (cA, n, .inl (aI (fun _ => 0))))]) lv (pc + 2) (.ref q :: st)) : J p l e R s m args below meth c X A nL cells slots Q ws lv pc (.int (iI (n : Int)) :: st) := by
  intro H locs ls hP hD hS hl
  have e0 : iI 0 = 0 := by decide
  refine va_newa (D := X.1) (cl := vwCl) (tys := tyX X) cx.1 cx.2.1 (cx.2.2.2.2.1 _ harr) hty cx.2.2.2.2.2.1.1 hP hD hS cx.2.2.2.2.2.2.1 (N' := n) (a0 := (n, .inl (aI (fun _ => 0)))) (fun cA => ?_) ?_ ?_ hbytes hcells hslots hdg (fun q cA' H1 hK1 hP1 hD1 hS1 => ?_)
  · rw [vp_cell_i, hd]; rfl
  · rw [iI_0, iI_lt (by omega) (by omega)]; omega
  · have := iI_clamp (i := (n : Int)) (by omega); omega
  · have h2 := hK1.2 2 (cA', ty) (by simp)
    have := hra cA' h2.2
    subst this
    exact k q H1 locs ls hP1 hD1 hS1 hl
theorem ra_int {d1 d2 : ClassId} (h : va_RA s d1 .int) (h2 : va_RA s d2 .int) : d1 = d2 := Option.some.inj ((show s.vm.findClass ("[" ++ FieldType.int.toString) = some d1 from h).symm.trans h2)
theorem ra_byte {d1 d2 : ClassId} (h : va_RA s d1 .byte) (h2 : va_RA s d2 .byte) : d1 = d2 := Option.some.inj ((show s.vm.findClass ("[" ++ FieldType.byte.toString) = some d1 from h).symm.trans h2)
theorem J_newarrI (cx : Cx p s m args meth c X A nL cc own) {n : Nat} (harr : Cond.arrayClass .int ∈ GW) (hn : (n : Int) < 2147483648 ∧ n * 4 ≤ 536870912) (hcells : cells + 1 ≤ R.cells) (hslots : slots + n ≤ R.slots) (hdg : decode cc pc = .ok (.newarray .int, 2)) (k : ∀ q : Nat, J p l e R s m args below meth c X A nL (cells + 1) (slots + n) Q (ws ++ [(q, .inl (X.2.1, n, .inl (aI (fun _ => 0))))]) lv (pc + 2) (.ref q :: st)) : J p l e R s m args below meth c X A nL cells slots Q ws lv pc (.int (iI (n : Int)) :: st) :=
  J_newarr_1 (t0 := 0) (atype := .int) (ty := .int) (cA := X.2.1) cx rfl rfl (fun d h => ra_int h (cx.2.2.2.2.2.1.1.2 0 (X.2.1, .int) rfl).2) harr rfl hn.1 hn.2 hcells hslots hdg k
theorem J_newarrB (cx : Cx p s m args meth c X A nL cc own) {n : Nat} (harr : Cond.arrayClass .byte ∈ GW) (hn : (n : Int) < 2147483648 ∧ n * 1 ≤ 536870912) (hcells : cells + 1 ≤ R.cells) (hslots : slots + n ≤ R.slots) (hdg : decode cc pc = .ok (.newarray .byte, 2)) (k : ∀ q : Nat, J p l e R s m args below meth c X A nL (cells + 1) (slots + n) Q (ws ++ [(q, .inl (X.2.2, n, .inl (aI (fun _ => 0))))]) lv (pc + 2) (.ref q :: st)) : J p l e R s m args below meth c X A nL cells slots Q ws lv pc (.int (iI (n : Int)) :: st) :=
  J_newarr_1 (t0 := 1) (atype := .byte) (ty := .byte) (cA := X.2.2) cx rfl rfl (fun d h => ra_byte h (cx.2.2.2.2.2.1.1.2 1 (X.2.2, .byte) rfl).2) harr rfl hn.1 hn.2 hcells hslots hdg k
theorem cpy_cpyI {f g : Int → Int} {n : Int} (h : 0 ≤ n ∧ n < 2147483648) : va_cpy (aI f) (aI g) (iI 0).toNatClampNeg (iI 0).toNatClampNeg (iI n).toNatClampNeg = aI (cpyI f g n) := by
  have e0 := iI_clamp (i := 0) (by decide)
  have e1 := iI_clamp h
  funext k
  unfold va_cpy cpyI aI
  dsimp only
  by_cases hk : k < (iI n).toNatClampNeg
  · rw [if_pos (by omega), if_pos (by omega)]
    congr 2
    omega
  · rw [if_neg (by omega), if_neg (by omega)]
theorem J_copy_1 (cx : Cx p s m args meth c X A nL cc own) {ty : FieldType} {t0 : Nat} {cA : ClassId} (ht : (tyX X)[t0]? = some (cA, ty)) (hprim : refKind ty = false) {index a0 a n0 n1 : Nat} {f g : Int → Int} {n : Int} (hlink : Cond.methodLink own index arraycopyName ∈ GW) (hnat : Cond.native arraycopyName ∈ GW) (hstat : Cond.static arraycopyName ∈ GW) (hini : Cond.initialized "java/lang/System" ∈ GW) (q0 q1 : Nat) (ha0 : ws[q0]? = some (a0, .inl (cA, n0, .inl (aI f)))) (ha1 : ws[q1]? = some (a, .inl (cA, n1, .inl (aI g)))) (hn : 0 ≤ n ∧ n ≤ (n0 : Int) ∧ n ≤ (n1 : Int)) (h0 : (n0 : Int) < 2147483648) (h1 : (n1 : Int) < 2147483648) (hfit : ∀ i : Int, 0 ≤ i → i < n → fits ty (.int (iI (f i))) = true) (hw : ws.set q1 (a, .inl (cA, n1, .inl (aI (cpyI f g n)))) = ws') (h3 : (st.map fun v => v.category).sum ≤ 8) (hframes : 1 ≤ R.frames) (hlocals : 8 + (nativeFrameWords "java/lang/System" "arraycopy" 5 + 11) ≤ R.locals) (hdg : decode cc pc = .ok (.invokestatic index, 3)) (k : J p l e R s m args below meth c X A nL cells slots Q ws' lv (pc + 3) st) : J p l e R s m args below meth c X A nL cells slots Q ws lv pc (.int (iI n) :: .int (iI 0) :: .ref a :: .int (iI 0) :: .ref a0 :: st) := by
  subst hw
  intro H locs ls hP hD hS hl
  have e0 := iI_clamp (i := 0) (by decide)
  have e1 := iI_clamp (i := n) (by omega)
  have z0 : ¬ iI 0 < 0 := by decide
  refine va_copyi (D := X.1) (cl := vwCl) (tys := tyX X) cx.1 cx.2.1 (by rw [cx.2.2.1]; exact hl.1.symm) cx.2.2.2.1 (cx.2.2.2.2.1 _ hlink) (cx.2.2.2.2.1 _ hnat) (cx.2.2.2.2.1 _ hstat) (cx.2.2.2.2.1 _ hini) cx.2.2.2.2.2.1.1 hP hD hS q0 q1 t0 t0 ha0 ha1 ht ht hprim z0 z0 (by rw [iI_0, iI_lt (by omega) (by omega)]; omega) (by omega) (by omega) (fun i hi => ?_) hframes (by omega) hdg (fun H1 locs1 hP1 hD1 hS1 => ?_)
  · have h5 := hfit (i : Int) (by omega) (by omega)
    have e : (iI 0).toNatClampNeg + i = i := by omega
    rw [e]
    exact h5
  · rw [cpy_cpyI (by omega)] at hP1 hD1
    exact k H1 locs1 ls hP1 hD1 hS1 hl
theorem J_copyI (cx : Cx p s m args meth c X A nL cc own) {index a0 a n0 n1 : Nat} {f g : Int → Int} {n : Int} (hlink : Cond.methodLink own index arraycopyName ∈ GW) (hnat : Cond.native arraycopyName ∈ GW) (hstat : Cond.static arraycopyName ∈ GW) (hini : Cond.initialized "java/lang/System" ∈ GW) (q0 q1 : Nat) (ha0 : ws[q0]? = some (a0, .inl (X.2.1, n0, .inl (aI f)))) (ha1 : ws[q1]? = some (a, .inl (X.2.1, n1, .inl (aI g)))) (hn : 0 ≤ n ∧ n ≤ (n0 : Int) ∧ n ≤ (n1 : Int)) (h0 : (n0 : Int) < 2147483648) (h1 : (n1 : Int) < 2147483648) (_ : ∀ i : Int, 0 ≤ i → True = True) (hw : ws.set q1 (a, .inl (X.2.1, n1, .inl (aI (cpyI f g n)))) = ws') (h3 : (st.map fun v => v.category).sum ≤ 8) (hframes : 1 ≤ R.frames) (hlocals : 8 + (nativeFrameWords "java/lang/System" "arraycopy" 5 + 11) ≤ R.locals) (hdg : decode cc pc = .ok (.invokestatic index, 3)) (k : J p l e R s m args below meth c X A nL cells slots Q ws' lv (pc + 3) st) : J p l e R s m args below meth c X A nL cells slots Q ws lv pc (.int (iI n) :: .int (iI 0) :: .ref a :: .int (iI 0) :: .ref a0 :: st) :=
  J_copy_1 (t0 := 0) cx rfl rfl hlink hnat hstat hini q0 q1 ha0 ha1 hn h0 h1 (fun _ _ _ => rfl) hw h3 hframes hlocals hdg k
theorem fits8 {z : Int} (h : w8 z = z) : fits .byte (.int (iI z)) = true := by
  have h1 := pk_fb (iI z)
  rw [iI_b8, h] at h1
  exact h1
theorem J_copyB (cx : Cx p s m args meth c X A nL cc own) {index a0 a n0 n1 : Nat} {f g : Int → Int} {n : Int} (hlink : Cond.methodLink own index arraycopyName ∈ GW) (hnat : Cond.native arraycopyName ∈ GW) (hstat : Cond.static arraycopyName ∈ GW) (hini : Cond.initialized "java/lang/System" ∈ GW) (q0 q1 : Nat) (ha0 : ws[q0]? = some (a0, .inl (X.2.2, n0, .inl (aI f)))) (ha1 : ws[q1]? = some (a, .inl (X.2.2, n1, .inl (aI g)))) (hn : 0 ≤ n ∧ n ≤ (n0 : Int) ∧ n ≤ (n1 : Int)) (h0 : (n0 : Int) < 2147483648) (h1 : (n1 : Int) < 2147483648) (hf : ∀ i : Int, 0 ≤ i → i < n → w8 (f i) = f i) (hw : ws.set q1 (a, .inl (X.2.2, n1, .inl (aI (cpyI f g n)))) = ws') (h3 : (st.map fun v => v.category).sum ≤ 8) (hframes : 1 ≤ R.frames) (hlocals : 8 + (nativeFrameWords "java/lang/System" "arraycopy" 5 + 11) ≤ R.locals) (hdg : decode cc pc = .ok (.invokestatic index, 3)) (k : J p l e R s m args below meth c X A nL cells slots Q ws' lv (pc + 3) st) : J p l e R s m args below meth c X A nL cells slots Q ws lv pc (.int (iI n) :: .int (iI 0) :: .ref a :: .int (iI 0) :: .ref a0 :: st) :=
  J_copy_1 (t0 := 1) cx rfl rfl hlink hnat hstat hini q0 q1 ha0 ha1 hn h0 h1 (fun i h5 h6 => fits8 (hf i h5 h6)) hw h3 hframes hlocals hdg k
theorem J_tin (cx : Cx p s m args meth c X A nL cc own) {a k dflt lo hi off : Int} {offs : Array Int} {len tgt : Nat} (hdg : decode cc pc = .ok (.tableswitch dflt lo hi offs, len)) (ha : -2147483648 ≤ a ∧ a < 2147483648) (hk : a = k) (ho : offs[(k - lo).toNat]? = some off) (ht : (pc : Int) + off = (tgt : Int)) (h1 : ¬ k < lo) (h2 : ¬ hi < k) (kk : J p l e R s m args below meth c X A nL cells slots Q ws lv tgt st) : J p l e R s m args below meth c X A nL cells slots Q ws lv pc (.int (iI a) :: st) := by
  subst hk
  exact fun H locs ls hP hD hS hl => lv_tableIn cx.1 cx.2.1 hdg (by rw [iI_toInt ha]; exact h1) (by rw [iI_toInt ha]; exact h2) (by rw [iI_toInt ha]; exact ho) ht (kk H locs ls hP hD hS hl)
theorem J_tout (cx : Cx p s m args meth c X A nL cc own) {a dflt lo hi : Int} {offs : Array Int} {len tgt : Nat} (hdg : decode cc pc = .ok (.tableswitch dflt lo hi offs, len)) (ha : -2147483648 ≤ a ∧ a < 2147483648) (h : a < lo ∨ hi < a) (ht : (pc : Int) + dflt = (tgt : Int)) (kk : J p l e R s m args below meth c X A nL cells slots Q ws lv tgt st) : J p l e R s m args below meth c X A nL cells slots Q ws lv pc (.int (iI a) :: st) :=
  fun H locs ls hP hD hS hl => lv_tableOut cx.1 cx.2.1 hdg (by rw [iI_toInt ha]; exact h) ht (kk H locs ls hP hD hS hl)
theorem J_loop1 {T0 : Type} (fw : T0 → va_W) (fl : T0 → List (Nat × Value)) (I : T0 → Prop) (μ : T0 → Nat) (z0 : T0) (h0 : I z0) (step : ∀ (a0 : T0), I a0 → (∀ (b0 : T0), I b0 → μ b0 < μ a0 → J p l e R s m args below meth c X A nL cells slots Q (fw b0) (fl b0) pc st) → J p l e R s m args below meth c X A nL cells slots Q (fw a0) (fl a0) pc st) : J p l e R s m args below meth c X A nL cells slots Q (fw z0) (fl z0) pc st := by
  have key : ∀ (k : Nat) (a0 : T0), I a0 → μ a0 < k → J p l e R s m args below meth c X A nL cells slots Q (fw a0) (fl a0) pc st := by
    intro k
    induction k with
    | zero => intro a0 _ h; exact absurd h (Nat.not_lt_zero _)
    | succ k ih => intro a0 h1 h2; exact step a0 h1 (fun b0 h3 h4 => ih b0 h3 (by omega))
  exact key _ z0 h0 (Nat.lt_succ_self _)
theorem J_join1 {T0 : Type} (fw : T0 → va_W) (fl : T0 → List (Nat × Value)) (fs : T0 → List Value) (I : T0 → Prop) {pcj : Nat} (hj : ∀ (a0 : T0), I a0 → J p l e R s m args below meth c X A nL cells slots Q (fw a0) (fl a0) pcj (fs a0)) (k : (∀ (a0 : T0), I a0 → J p l e R s m args below meth c X A nL cells slots Q (fw a0) (fl a0) pcj (fs a0)) → J p l e R s m args below meth c X A nL cells slots Q ws lv pc st) : J p l e R s m args below meth c X A nL cells slots Q ws lv pc st := k hj
theorem J_loop2 {T0 T1 : Type} (fw : T0 → T1 → va_W) (fl : T0 → T1 → List (Nat × Value)) (I : T0 → T1 → Prop) (μ : T0 → T1 → Nat) (z0 : T0) (z1 : T1) (h0 : I z0 z1) (step : ∀ (a0 : T0) (a1 : T1), I a0 a1 → (∀ (b0 : T0) (b1 : T1), I b0 b1 → μ b0 b1 < μ a0 a1 → J p l e R s m args below meth c X A nL cells slots Q (fw b0 b1) (fl b0 b1) pc st) → J p l e R s m args below meth c X A nL cells slots Q (fw a0 a1) (fl a0 a1) pc st) : J p l e R s m args below meth c X A nL cells slots Q (fw z0 z1) (fl z0 z1) pc st := by
  have key : ∀ (k : Nat) (a0 : T0) (a1 : T1), I a0 a1 → μ a0 a1 < k → J p l e R s m args below meth c X A nL cells slots Q (fw a0 a1) (fl a0 a1) pc st := by
    intro k
    induction k with
    | zero => intro a0 a1 _ h; exact absurd h (Nat.not_lt_zero _)
    | succ k ih => intro a0 a1 h1 h2; exact step a0 a1 h1 (fun b0 b1 h3 h4 => ih b0 b1 h3 (by omega))
  exact key _ z0 z1 h0 (Nat.lt_succ_self _)
theorem J_join2 {T0 T1 : Type} (fw : T0 → T1 → va_W) (fl : T0 → T1 → List (Nat × Value)) (fs : T0 → T1 → List Value) (I : T0 → T1 → Prop) {pcj : Nat} (hj : ∀ (a0 : T0) (a1 : T1), I a0 a1 → J p l e R s m args below meth c X A nL cells slots Q (fw a0 a1) (fl a0 a1) pcj (fs a0 a1)) (k : (∀ (a0 : T0) (a1 : T1), I a0 a1 → J p l e R s m args below meth c X A nL cells slots Q (fw a0 a1) (fl a0 a1) pcj (fs a0 a1)) → J p l e R s m args below meth c X A nL cells slots Q ws lv pc st) : J p l e R s m args below meth c X A nL cells slots Q ws lv pc st := k hj
theorem J_loop3 {T0 T1 T2 : Type} (fw : T0 → T1 → T2 → va_W) (fl : T0 → T1 → T2 → List (Nat × Value)) (I : T0 → T1 → T2 → Prop) (μ : T0 → T1 → T2 → Nat) (z0 : T0) (z1 : T1) (z2 : T2) (h0 : I z0 z1 z2) (step : ∀ (a0 : T0) (a1 : T1) (a2 : T2), I a0 a1 a2 → (∀ (b0 : T0) (b1 : T1) (b2 : T2), I b0 b1 b2 → μ b0 b1 b2 < μ a0 a1 a2 → J p l e R s m args below meth c X A nL cells slots Q (fw b0 b1 b2) (fl b0 b1 b2) pc st) → J p l e R s m args below meth c X A nL cells slots Q (fw a0 a1 a2) (fl a0 a1 a2) pc st) : J p l e R s m args below meth c X A nL cells slots Q (fw z0 z1 z2) (fl z0 z1 z2) pc st := by
  have key : ∀ (k : Nat) (a0 : T0) (a1 : T1) (a2 : T2), I a0 a1 a2 → μ a0 a1 a2 < k → J p l e R s m args below meth c X A nL cells slots Q (fw a0 a1 a2) (fl a0 a1 a2) pc st := by
    intro k
    induction k with
    | zero => intro a0 a1 a2 _ h; exact absurd h (Nat.not_lt_zero _)
    | succ k ih => intro a0 a1 a2 h1 h2; exact step a0 a1 a2 h1 (fun b0 b1 b2 h3 h4 => ih b0 b1 b2 h3 (by omega))
  exact key _ z0 z1 z2 h0 (Nat.lt_succ_self _)
theorem J_join3 {T0 T1 T2 : Type} (fw : T0 → T1 → T2 → va_W) (fl : T0 → T1 → T2 → List (Nat × Value)) (fs : T0 → T1 → T2 → List Value) (I : T0 → T1 → T2 → Prop) {pcj : Nat} (hj : ∀ (a0 : T0) (a1 : T1) (a2 : T2), I a0 a1 a2 → J p l e R s m args below meth c X A nL cells slots Q (fw a0 a1 a2) (fl a0 a1 a2) pcj (fs a0 a1 a2)) (k : (∀ (a0 : T0) (a1 : T1) (a2 : T2), I a0 a1 a2 → J p l e R s m args below meth c X A nL cells slots Q (fw a0 a1 a2) (fl a0 a1 a2) pcj (fs a0 a1 a2)) → J p l e R s m args below meth c X A nL cells slots Q ws lv pc st) : J p l e R s m args below meth c X A nL cells slots Q ws lv pc st := k hj
theorem J_loop4 {T0 T1 T2 T3 : Type} (fw : T0 → T1 → T2 → T3 → va_W) (fl : T0 → T1 → T2 → T3 → List (Nat × Value)) (I : T0 → T1 → T2 → T3 → Prop) (μ : T0 → T1 → T2 → T3 → Nat) (z0 : T0) (z1 : T1) (z2 : T2) (z3 : T3) (h0 : I z0 z1 z2 z3) (step : ∀ (a0 : T0) (a1 : T1) (a2 : T2) (a3 : T3), I a0 a1 a2 a3 → (∀ (b0 : T0) (b1 : T1) (b2 : T2) (b3 : T3), I b0 b1 b2 b3 → μ b0 b1 b2 b3 < μ a0 a1 a2 a3 → J p l e R s m args below meth c X A nL cells slots Q (fw b0 b1 b2 b3) (fl b0 b1 b2 b3) pc st) → J p l e R s m args below meth c X A nL cells slots Q (fw a0 a1 a2 a3) (fl a0 a1 a2 a3) pc st) : J p l e R s m args below meth c X A nL cells slots Q (fw z0 z1 z2 z3) (fl z0 z1 z2 z3) pc st := by
  have key : ∀ (k : Nat) (a0 : T0) (a1 : T1) (a2 : T2) (a3 : T3), I a0 a1 a2 a3 → μ a0 a1 a2 a3 < k → J p l e R s m args below meth c X A nL cells slots Q (fw a0 a1 a2 a3) (fl a0 a1 a2 a3) pc st := by
    intro k
    induction k with
    | zero => intro a0 a1 a2 a3 _ h; exact absurd h (Nat.not_lt_zero _)
    | succ k ih => intro a0 a1 a2 a3 h1 h2; exact step a0 a1 a2 a3 h1 (fun b0 b1 b2 b3 h3 h4 => ih b0 b1 b2 b3 h3 (by omega))
  exact key _ z0 z1 z2 z3 h0 (Nat.lt_succ_self _)
theorem J_join4 {T0 T1 T2 T3 : Type} (fw : T0 → T1 → T2 → T3 → va_W) (fl : T0 → T1 → T2 → T3 → List (Nat × Value)) (fs : T0 → T1 → T2 → T3 → List Value) (I : T0 → T1 → T2 → T3 → Prop) {pcj : Nat} (hj : ∀ (a0 : T0) (a1 : T1) (a2 : T2) (a3 : T3), I a0 a1 a2 a3 → J p l e R s m args below meth c X A nL cells slots Q (fw a0 a1 a2 a3) (fl a0 a1 a2 a3) pcj (fs a0 a1 a2 a3)) (k : (∀ (a0 : T0) (a1 : T1) (a2 : T2) (a3 : T3), I a0 a1 a2 a3 → J p l e R s m args below meth c X A nL cells slots Q (fw a0 a1 a2 a3) (fl a0 a1 a2 a3) pcj (fs a0 a1 a2 a3)) → J p l e R s m args below meth c X A nL cells slots Q ws lv pc st) : J p l e R s m args below meth c X A nL cells slots Q ws lv pc st := k hj
theorem J_loop5 {T0 T1 T2 T3 T4 : Type} (fw : T0 → T1 → T2 → T3 → T4 → va_W) (fl : T0 → T1 → T2 → T3 → T4 → List (Nat × Value)) (I : T0 → T1 → T2 → T3 → T4 → Prop) (μ : T0 → T1 → T2 → T3 → T4 → Nat) (z0 : T0) (z1 : T1) (z2 : T2) (z3 : T3) (z4 : T4) (h0 : I z0 z1 z2 z3 z4) (step : ∀ (a0 : T0) (a1 : T1) (a2 : T2) (a3 : T3) (a4 : T4), I a0 a1 a2 a3 a4 → (∀ (b0 : T0) (b1 : T1) (b2 : T2) (b3 : T3) (b4 : T4), I b0 b1 b2 b3 b4 → μ b0 b1 b2 b3 b4 < μ a0 a1 a2 a3 a4 → J p l e R s m args below meth c X A nL cells slots Q (fw b0 b1 b2 b3 b4) (fl b0 b1 b2 b3 b4) pc st) → J p l e R s m args below meth c X A nL cells slots Q (fw a0 a1 a2 a3 a4) (fl a0 a1 a2 a3 a4) pc st) : J p l e R s m args below meth c X A nL cells slots Q (fw z0 z1 z2 z3 z4) (fl z0 z1 z2 z3 z4) pc st := by
  have key : ∀ (k : Nat) (a0 : T0) (a1 : T1) (a2 : T2) (a3 : T3) (a4 : T4), I a0 a1 a2 a3 a4 → μ a0 a1 a2 a3 a4 < k → J p l e R s m args below meth c X A nL cells slots Q (fw a0 a1 a2 a3 a4) (fl a0 a1 a2 a3 a4) pc st := by
    intro k
    induction k with
    | zero => intro a0 a1 a2 a3 a4 _ h; exact absurd h (Nat.not_lt_zero _)
    | succ k ih => intro a0 a1 a2 a3 a4 h1 h2; exact step a0 a1 a2 a3 a4 h1 (fun b0 b1 b2 b3 b4 h3 h4 => ih b0 b1 b2 b3 b4 h3 (by omega))
  exact key _ z0 z1 z2 z3 z4 h0 (Nat.lt_succ_self _)
theorem J_join5 {T0 T1 T2 T3 T4 : Type} (fw : T0 → T1 → T2 → T3 → T4 → va_W) (fl : T0 → T1 → T2 → T3 → T4 → List (Nat × Value)) (fs : T0 → T1 → T2 → T3 → T4 → List Value) (I : T0 → T1 → T2 → T3 → T4 → Prop) {pcj : Nat} (hj : ∀ (a0 : T0) (a1 : T1) (a2 : T2) (a3 : T3) (a4 : T4), I a0 a1 a2 a3 a4 → J p l e R s m args below meth c X A nL cells slots Q (fw a0 a1 a2 a3 a4) (fl a0 a1 a2 a3 a4) pcj (fs a0 a1 a2 a3 a4)) (k : (∀ (a0 : T0) (a1 : T1) (a2 : T2) (a3 : T3) (a4 : T4), I a0 a1 a2 a3 a4 → J p l e R s m args below meth c X A nL cells slots Q (fw a0 a1 a2 a3 a4) (fl a0 a1 a2 a3 a4) pcj (fs a0 a1 a2 a3 a4)) → J p l e R s m args below meth c X A nL cells slots Q ws lv pc st) : J p l e R s m args below meth c X A nL cells slots Q ws lv pc st := k hj
theorem J_loop6 {T0 T1 T2 T3 T4 T5 : Type} (fw : T0 → T1 → T2 → T3 → T4 → T5 → va_W) (fl : T0 → T1 → T2 → T3 → T4 → T5 → List (Nat × Value)) (I : T0 → T1 → T2 → T3 → T4 → T5 → Prop) (μ : T0 → T1 → T2 → T3 → T4 → T5 → Nat) (z0 : T0) (z1 : T1) (z2 : T2) (z3 : T3) (z4 : T4) (z5 : T5) (h0 : I z0 z1 z2 z3 z4 z5) (step : ∀ (a0 : T0) (a1 : T1) (a2 : T2) (a3 : T3) (a4 : T4) (a5 : T5), I a0 a1 a2 a3 a4 a5 → (∀ (b0 : T0) (b1 : T1) (b2 : T2) (b3 : T3) (b4 : T4) (b5 : T5), I b0 b1 b2 b3 b4 b5 → μ b0 b1 b2 b3 b4 b5 < μ a0 a1 a2 a3 a4 a5 → J p l e R s m args below meth c X A nL cells slots Q (fw b0 b1 b2 b3 b4 b5) (fl b0 b1 b2 b3 b4 b5) pc st) → J p l e R s m args below meth c X A nL cells slots Q (fw a0 a1 a2 a3 a4 a5) (fl a0 a1 a2 a3 a4 a5) pc st) : J p l e R s m args below meth c X A nL cells slots Q (fw z0 z1 z2 z3 z4 z5) (fl z0 z1 z2 z3 z4 z5) pc st := by
  have key : ∀ (k : Nat) (a0 : T0) (a1 : T1) (a2 : T2) (a3 : T3) (a4 : T4) (a5 : T5), I a0 a1 a2 a3 a4 a5 → μ a0 a1 a2 a3 a4 a5 < k → J p l e R s m args below meth c X A nL cells slots Q (fw a0 a1 a2 a3 a4 a5) (fl a0 a1 a2 a3 a4 a5) pc st := by
    intro k
    induction k with
    | zero => intro a0 a1 a2 a3 a4 a5 _ h; exact absurd h (Nat.not_lt_zero _)
    | succ k ih => intro a0 a1 a2 a3 a4 a5 h1 h2; exact step a0 a1 a2 a3 a4 a5 h1 (fun b0 b1 b2 b3 b4 b5 h3 h4 => ih b0 b1 b2 b3 b4 b5 h3 (by omega))
  exact key _ z0 z1 z2 z3 z4 z5 h0 (Nat.lt_succ_self _)
theorem J_join6 {T0 T1 T2 T3 T4 T5 : Type} (fw : T0 → T1 → T2 → T3 → T4 → T5 → va_W) (fl : T0 → T1 → T2 → T3 → T4 → T5 → List (Nat × Value)) (fs : T0 → T1 → T2 → T3 → T4 → T5 → List Value) (I : T0 → T1 → T2 → T3 → T4 → T5 → Prop) {pcj : Nat} (hj : ∀ (a0 : T0) (a1 : T1) (a2 : T2) (a3 : T3) (a4 : T4) (a5 : T5), I a0 a1 a2 a3 a4 a5 → J p l e R s m args below meth c X A nL cells slots Q (fw a0 a1 a2 a3 a4 a5) (fl a0 a1 a2 a3 a4 a5) pcj (fs a0 a1 a2 a3 a4 a5)) (k : (∀ (a0 : T0) (a1 : T1) (a2 : T2) (a3 : T3) (a4 : T4) (a5 : T5), I a0 a1 a2 a3 a4 a5 → J p l e R s m args below meth c X A nL cells slots Q (fw a0 a1 a2 a3 a4 a5) (fl a0 a1 a2 a3 a4 a5) pcj (fs a0 a1 a2 a3 a4 a5)) → J p l e R s m args below meth c X A nL cells slots Q ws lv pc st) : J p l e R s m args below meth c X A nL cells slots Q ws lv pc st := k hj
theorem J_loop7 {T0 T1 T2 T3 T4 T5 T6 : Type} (fw : T0 → T1 → T2 → T3 → T4 → T5 → T6 → va_W) (fl : T0 → T1 → T2 → T3 → T4 → T5 → T6 → List (Nat × Value)) (I : T0 → T1 → T2 → T3 → T4 → T5 → T6 → Prop) (μ : T0 → T1 → T2 → T3 → T4 → T5 → T6 → Nat) (z0 : T0) (z1 : T1) (z2 : T2) (z3 : T3) (z4 : T4) (z5 : T5) (z6 : T6) (h0 : I z0 z1 z2 z3 z4 z5 z6) (step : ∀ (a0 : T0) (a1 : T1) (a2 : T2) (a3 : T3) (a4 : T4) (a5 : T5) (a6 : T6), I a0 a1 a2 a3 a4 a5 a6 → (∀ (b0 : T0) (b1 : T1) (b2 : T2) (b3 : T3) (b4 : T4) (b5 : T5) (b6 : T6), I b0 b1 b2 b3 b4 b5 b6 → μ b0 b1 b2 b3 b4 b5 b6 < μ a0 a1 a2 a3 a4 a5 a6 → J p l e R s m args below meth c X A nL cells slots Q (fw b0 b1 b2 b3 b4 b5 b6) (fl b0 b1 b2 b3 b4 b5 b6) pc st) → J p l e R s m args below meth c X A nL cells slots Q (fw a0 a1 a2 a3 a4 a5 a6) (fl a0 a1 a2 a3 a4 a5 a6) pc st) : J p l e R s m args below meth c X A nL cells slots Q (fw z0 z1 z2 z3 z4 z5 z6) (fl z0 z1 z2 z3 z4 z5 z6) pc st := by
  have key : ∀ (k : Nat) (a0 : T0) (a1 : T1) (a2 : T2) (a3 : T3) (a4 : T4) (a5 : T5) (a6 : T6), I a0 a1 a2 a3 a4 a5 a6 → μ a0 a1 a2 a3 a4 a5 a6 < k → J p l e R s m args below meth c X A nL cells slots Q (fw a0 a1 a2 a3 a4 a5 a6) (fl a0 a1 a2 a3 a4 a5 a6) pc st := by
    intro k
    induction k with
    | zero => intro a0 a1 a2 a3 a4 a5 a6 _ h; exact absurd h (Nat.not_lt_zero _)
    | succ k ih => intro a0 a1 a2 a3 a4 a5 a6 h1 h2; exact step a0 a1 a2 a3 a4 a5 a6 h1 (fun b0 b1 b2 b3 b4 b5 b6 h3 h4 => ih b0 b1 b2 b3 b4 b5 b6 h3 (by omega))
  exact key _ z0 z1 z2 z3 z4 z5 z6 h0 (Nat.lt_succ_self _)
theorem J_join7 {T0 T1 T2 T3 T4 T5 T6 : Type} (fw : T0 → T1 → T2 → T3 → T4 → T5 → T6 → va_W) (fl : T0 → T1 → T2 → T3 → T4 → T5 → T6 → List (Nat × Value)) (fs : T0 → T1 → T2 → T3 → T4 → T5 → T6 → List Value) (I : T0 → T1 → T2 → T3 → T4 → T5 → T6 → Prop) {pcj : Nat} (hj : ∀ (a0 : T0) (a1 : T1) (a2 : T2) (a3 : T3) (a4 : T4) (a5 : T5) (a6 : T6), I a0 a1 a2 a3 a4 a5 a6 → J p l e R s m args below meth c X A nL cells slots Q (fw a0 a1 a2 a3 a4 a5 a6) (fl a0 a1 a2 a3 a4 a5 a6) pcj (fs a0 a1 a2 a3 a4 a5 a6)) (k : (∀ (a0 : T0) (a1 : T1) (a2 : T2) (a3 : T3) (a4 : T4) (a5 : T5) (a6 : T6), I a0 a1 a2 a3 a4 a5 a6 → J p l e R s m args below meth c X A nL cells slots Q (fw a0 a1 a2 a3 a4 a5 a6) (fl a0 a1 a2 a3 a4 a5 a6) pcj (fs a0 a1 a2 a3 a4 a5 a6)) → J p l e R s m args below meth c X A nL cells slots Q ws lv pc st) : J p l e R s m args below meth c X A nL cells slots Q ws lv pc st := k hj
end JM
end
section
/-! more of numbers -/
def xorI (a b : Int) : Int := (iI a ^^^ iI b).toInt
theorem xorI_eq (a b : Int) : iI a ^^^ iI b = iI (xorI a b) := iI_of _
theorem xorI_rng (a b : Int) : -2147483648 ≤ xorI a b ∧ xorI a b < 2147483648 := iI_rng _
theorem i32_neg (x : Int32) : x.toInt < 0 ↔ x.toBitVec.msb = true := by
  show x.toBitVec.toInt < 0 ↔ _
  rw [BitVec.msb_eq_toInt]
  simp
theorem xorI_neg {a b : Int} (ha : -2147483648 ≤ a ∧ a < 2147483648) (hb : 0 ≤ b ∧ b < 2147483648) : xorI a b < 0 ↔ a < 0 := by
  unfold xorI
  have hb1 : (iI b).toBitVec.msb = false := by
    have h := i32_neg (iI b)
    rw [iI_toInt (by omega)] at h
    cases e : (iI b).toBitVec.msb with
    | false => rfl
    | true => exact absurd (h.mpr e) (by omega)
  have ha1 := i32_neg (iI a)
  rw [iI_toInt ha] at ha1
  rw [i32_neg, ha1]
  show ((iI a).toBitVec ^^^ (iI b).toBitVec).msb = true ↔ _
  rw [BitVec.msb_xor, hb1]
  simp
theorem tdiv_neg {a b : Int} (ha : a < 0) (hb : 0 < b) : a ≤ Int.tdiv a b * b ∧ Int.tdiv a b * b ≤ 0 := by
  by_cases hd : b ∣ a
  · have e : Int.tdiv a b = a / b := by rw [Int.tdiv_eq_ediv, if_pos (Or.inr hd), Int.add_zero]
    rw [e, Int.ediv_mul_cancel hd]
    omega
  · have h3 : ¬ (0 ≤ a ∨ b ∣ a) := fun h3 => h3.elim (by omega) hd
    have e : Int.tdiv a b = a / b + 1 := by rw [Int.tdiv_eq_ediv, if_neg h3, Int.sign_eq_one_of_pos hb]
    have h2 := Int.lt_ediv_add_one_mul_self a hb
    have h4 : a / b < 0 := Int.ediv_neg_of_neg_of_pos ha hb
    have h5 : (a / b + 1) * b ≤ 0 * b := Int.mul_le_mul_of_nonneg_right (by omega) (by omega)
    rw [e]
    omega
theorem tdiv_le {a b : Int} (ha : -2147483648 ≤ a ∧ a < 2147483648) (hb : 0 < b) : -2147483648 ≤ Int.tdiv a b * b ∧ Int.tdiv a b * b < 2147483648 := by
  rcases Int.lt_or_le a 0 with h | h
  · have := tdiv_neg h hb
    omega
  · rw [Int.tdiv_eq_ediv_of_nonneg h]
    have h1 := Int.ediv_mul_le a (Int.ne_of_gt hb)
    have h2 : 0 ≤ a / b * b := Int.mul_nonneg (Int.ediv_nonneg h (by omega)) (by omega)
    omega
theorem iI_divT {a b : Int} (ha : -2147483648 ≤ a ∧ a < 2147483648) (hb : 0 < b ∧ b < 2147483648) : iI a / iI b = iI (Int.tdiv a b) := by
  unfold iI
  rw [Int32.ofInt_tdiv (by show (-2147483648 : Int) ≤ a; omega) (by show a ≤ (2147483647 : Int); omega) (by show (-2147483648 : Int) ≤ b; omega) (by show b ≤ (2147483647 : Int); omega)]
section JN
variable {p : Program} {l : Launch} {e : Env} {R : Room} {s : State} {m : MethodId} {args : Array Value} {below : List Frame} {meth : Method} {c : Code} {X : GX} {A : Nat → Prop} {nL cells slots : Nat} {Q : State → Prop} {ws ws' : va_W} {lv lv' : List (Nat × Value)} {pc : Nat} {st : List Value} {cc : ByteArray} {own : String}
theorem J_idivT (cx : Cx p s m args meth c X A nL cc own) {a b : Int} (hdg : decode cc pc = .ok (.idiv, 1)) (ha : -2147483648 ≤ a ∧ a < 2147483648) (hb : 0 < b ∧ b < 2147483648) (k : J p l e R s m args below meth c X A nL cells slots Q ws lv (pc + 1) (.int (iI (Int.tdiv a b)) :: st)) : J p l e R s m args below meth c X A nL cells slots Q ws lv pc (.int (iI b) :: .int (iI a) :: st) :=
  fun H locs ls hP hD hS hl => lv_idiv cx.1 cx.2.1 hdg (iI_ne0 hb) (by rw [iI_divT ha hb]; exact k H locs ls hP hD hS hl)
theorem J_ixor (cx : Cx p s m args meth c X A nL cc own) {a b : Int} (hdg : decode cc pc = .ok (.ixor, 1)) (k : J p l e R s m args below meth c X A nL cells slots Q ws lv (pc + 1) (.int (iI (xorI a b)) :: st)) : J p l e R s m args below meth c X A nL cells slots Q ws lv pc (.int (iI b) :: .int (iI a) :: st) :=
  fun H locs ls hP hD hS hl => lv_ixor cx.1 cx.2.1 hdg (by rw [xorI_eq]; exact k H locs ls hP hD hS hl)
end JN
theorem smpA_bef {f : Int → Int} {n pl : Int} (h : pl < n) : smpA f n pl = bef f pl := by
  unfold smpA bef
  by_cases h1 : pl < 0
  · rw [if_pos (Or.inl h1), if_pos h1]
  · rw [if_neg (by omega), if_neg h1]
def eqU (f g : Int → Int) : Nat → Bool
  | 0 => true
  | n + 1 => eqU f g n && decide (f n = g n)
theorem eqU_s {f g : Int → Int} {j : Int} (h : 0 ≤ j) (h1 : eqU f g j.toNat = true) (h2 : f j = g j) : eqU f g (j + 1).toNat = true := by
  have e : (j + 1).toNat = j.toNat + 1 := by omega
  rw [e, eqU, h1, Int.toNat_of_nonneg h]
  simp [h2]
theorem eqU_iff {f g : Int → Int} (n : Nat) : eqU f g n = true ↔ ∀ j : Int, 0 ≤ j → j < n → f j = g j := by
  induction n with
  | zero => exact ⟨fun _ j h1 h2 => by omega, fun _ => rfl⟩
  | succ n ih =>
    rw [eqU, Bool.and_eq_true, ih, decide_eq_true_eq]
    constructor
    · intro ⟨h1, h2⟩ j h3 h4
      by_cases hj : j = n
      · rw [hj]; exact h2
      · exact h1 j h3 (by omega)
    · intro h
      exact ⟨fun j h1 h2 => h j h1 (by omega), h n (by omega) (by omega)⟩
def sameV (f : Int → Int) (ch n : Int) (g : Int → Int) (ch2 n2 : Int) : Int := if ch = ch2 ∧ n / ch * ch = n2 ∧ eqU f g n2.toNat = true then 1 else 0
theorem sameV_01 (f : Int → Int) (ch n : Int) (g : Int → Int) (ch2 n2 : Int) : sameV f ch n g ch2 n2 = 0 ∨ sameV f ch n g ch2 n2 = 1 := by
  unfold sameV
  split
  · exact Or.inr rfl
  · exact Or.inl rfl
theorem sameV_no {f : Int → Int} {ch n : Int} {g : Int → Int} {ch2 n2 : Int} (h : ¬ (ch = ch2 ∧ n / ch * ch = n2)) : 0 = sameV f ch n g ch2 n2 := by
  unfold sameV
  rw [if_neg (fun h2 => h ⟨h2.1, h2.2.1⟩)]
theorem sameV_at {f : Int → Int} {ch n : Int} {g : Int → Int} {ch2 n2 j : Int} (h0 : 0 ≤ j) (h1 : j < n2) (h : ¬ f j = g j) : 0 = sameV f ch n g ch2 n2 := by
  unfold sameV
  rw [if_neg (fun h2 => h ((eqU_iff _).mp h2.2.2 j h0 (by omega)))]
theorem half_rng {n ch : Int} (hc : 1 ≤ ch ∧ ch ≤ 2) (hn : 0 ≤ n ∧ n ≤ 800) : 0 ≤ n / ch ∧ n / ch ≤ 800 ∧ 0 ≤ n / ch * ch ∧ n / ch * ch ≤ n := by
  rcases (show ch = 1 ∨ ch = 2 by omega) with e1 | e1 <;> subst e1 <;> omega
def msumN (mf : Int → Int) (ch i : Int) : Nat → Int
  | 0 => 0
  | k + 1 => msumN mf ch i k + mb mf ch i (k + 1)
def msum (mf : Int → Int) (ch i k : Int) : Int := msumN mf ch i k.toNat
theorem msum_s {mf : Int → Int} {ch i k : Int} (h : 0 ≤ k) : msum mf ch i (k + 1) = msum mf ch i k + mb mf ch i (k + 1) := by
  unfold msum
  have e : (k + 1).toNat = k.toNat + 1 := by omega
  rw [e, msumN, Int.toNat_of_nonneg h]
theorem mb_rng {mf : Int → Int} (hm : ∀ j, -32768 ≤ mf j ∧ mf j ≤ 32767) (ch i k : Int) : -32768 ≤ mb mf ch i k ∧ mb mf ch i k ≤ 32767 := by
  unfold mb
  split
  · omega
  · exact hm _
theorem msum_rng {mf : Int → Int} (hm : ∀ j, -32768 ≤ mf j ∧ mf j ≤ 32767) (ch i : Int) (k : Nat) : -32768 * (k : Int) ≤ msumN mf ch i k ∧ msumN mf ch i k ≤ 32768 * (k : Int) := by
  induction k with
  | zero => exact ⟨Int.le_refl _, Int.le_refl _⟩
  | succ k ih =>
    have := mb_rng hm ch i (k + 1)
    rw [msumN]
    omega
theorem msum_4 (mf : Int → Int) (ch i : Int) : rmean (msum mf ch i 4) 4 = mahead mf ch i := by
  unfold mahead
  congr 1
  show 0 + mb mf ch i 1 + mb mf ch i 2 + mb mf ch i 3 + mb mf ch i 4 = _
  omega
theorem rmean_rng {sm k : Int} (hk : 1 ≤ k) (h : -32768 * k ≤ sm ∧ sm ≤ 32767 * k) : -32768 ≤ rmean sm k ∧ rmean sm k ≤ 32767 := by
  unfold rmean
  have h1 : (sm + k / 2) / k < 32768 := Int.ediv_lt_of_lt_mul (by omega) (by omega)
  have h2 : -32768 ≤ (sm + k / 2) / k := Int.le_ediv_of_mul_le (by omega) (by omega)
  omega
theorem bsum_rng {f : Int → Int} (hf : ∀ j, -32768 ≤ f j ∧ f j ≤ 32767) (ch pl : Int) (k : Nat) : -32768 * (k : Int) ≤ bsumN f ch pl k ∧ bsumN f ch pl k ≤ 32767 * (k : Int) := by
  induction k with
  | zero => exact ⟨Int.le_refl _, Int.le_refl _⟩
  | succ k ih =>
    have := hf (pl + k * ch)
    rw [bsumN]
    omega
theorem bsum_rngI {f : Int → Int} (hf : ∀ j, -32768 ≤ f j ∧ f j ≤ 32767) (ch pl : Int) {k : Int} (hk : 0 ≤ k) : -32768 * k ≤ bsum f ch pl k ∧ bsum f ch pl k ≤ 32767 * k := by
  have h := bsum_rng hf ch pl k.toNat
  rw [Int.toNat_of_nonneg hk] at h
  exact h
end
section
/-! blocks' places; bits in bytes -/
theorem smpA_in {f : Int → Int} {n pl : Int} (h : 0 ≤ pl ∧ pl < n) : smpA f n pl = f pl := by
  unfold smpA
  rw [if_neg (by omega)]
theorem blk_in {ch bl n i j : Int} (hc : 1 ≤ ch ∧ ch ≤ 2) (hn : 0 ≤ n) (hq : 0 ≤ i / ch * bl) (hi : 0 ≤ i) (h0 : 0 ≤ j) (h1 : j < bsize ch bl (n / ch) i) : 0 ≤ bfirst ch bl i + j * ch ∧ bfirst ch bl i + j * ch < n := by
  unfold bfirst
  unfold bsize mnI at h1
  rcases (show ch = 1 ∨ ch = 2 by omega) with e1 | e1 <;> subst e1 <;> split at h1 <;> omega
theorem bsize_rng {ch bl many i : Int} (hb : 1 ≤ bl ∧ bl ≤ 64) (h : i / ch * bl < many) : 1 ≤ bsize ch bl many i ∧ bsize ch bl many i ≤ 64 := by
  unfold bsize mnI
  split <;> omega
theorem w8_w8 (z : Int) : w8 (w8 z) = w8 z := by unfold w8; omega
theorem pbit_2 (b : Int) (x : BB) : (pbit b x).2 = x.2 + 1 := rfl
theorem pk_up {w : Int → Int} {t k n b : Int} (h : t + k ≤ n) : pk (upI w n b) t k = pk w t k := by
  unfold pk
  apply pk_cg
  intro j h1 h2
  exact upI_n (by omega)
theorem bw_p1 {x : BB} (b : Int) (h0 : 0 ≤ x.2) (h : x.2 % 8 + 1 ≠ 8) : pk x.1 (8 * (x.2 / 8)) (x.2 % 8) * 2 + b = pk (pbit b x).1 (8 * ((pbit b x).2 / 8)) ((pbit b x).2 % 8) := by
  rw [pbit_2, show (x.2 + 1) / 8 = x.2 / 8 by omega, show (x.2 + 1) % 8 = x.2 % 8 + 1 by omega, pk_s (by omega)]
  show _ = 2 * pk (upI x.1 x.2 b) _ _ + upI x.1 x.2 b _
  rw [pk_up (by omega), show 8 * (x.2 / 8) + x.2 % 8 = x.2 by omega, upI_s]
  omega
theorem rowOf_1 {x : BB} (o : Int → Int) (b : Int) (h0 : 0 ≤ x.2) (h : x.2 % 8 + 1 ≠ 8) : rowOf o x.1 x.2 = rowOf o (pbit b x).1 (pbit b x).2 := by
  funext j
  unfold rowOf
  rw [pbit_2, show (x.2 + 1) / 8 = x.2 / 8 by omega]
  by_cases hj : 0 ≤ j ∧ j < x.2 / 8
  · rw [if_pos hj, if_pos hj]
    show _ = w8 (pk (upI x.1 x.2 b) _ _)
    rw [pk_up (by omega)]
  · rw [if_neg hj, if_neg hj]
theorem bw_p2 {x : BB} (b : Int) (h0 : 0 ≤ x.2) (h : x.2 % 8 + 1 = 8) : (0 : Int) = pk (pbit b x).1 (8 * ((pbit b x).2 / 8)) ((pbit b x).2 % 8) := by
  rw [pbit_2, show (x.2 + 1) % 8 = 0 by omega, pk_0]
theorem rowOf_2 {x : BB} (o : Int → Int) (b : Int) (h0 : 0 ≤ x.2) (h : x.2 % 8 + 1 = 8) : upI (rowOf o x.1 x.2) (x.2 / 8) (w8 (pk x.1 (8 * (x.2 / 8)) (x.2 % 8) * 2 + b)) = rowOf o (pbit b x).1 (pbit b x).2 := by
  funext j
  by_cases hj : j = x.2 / 8
  · subst hj
    rw [upI_s]
    unfold rowOf
    rw [pbit_2, if_pos (by omega)]
    congr 1
    rw [show (8 : Int) = 7 + 1 by decide, pk_s (by decide), show (7 + 1 : Int) = 8 by decide, show x.2 % 8 = 7 by omega]
    show _ = 2 * pk (upI x.1 x.2 b) _ _ + upI x.1 x.2 b _
    rw [pk_up (by omega), show 8 * (x.2 / 8) + 7 = x.2 by omega, upI_s]
    omega
  · rw [upI_n hj]
    unfold rowOf
    rw [pbit_2]
    by_cases hk : 0 ≤ j ∧ j < x.2 / 8
    · rw [if_pos hk, if_pos (by omega)]
      show _ = w8 (pk (upI x.1 x.2 b) _ _)
      rw [pk_up (by omega)]
    · rw [if_neg hk, if_neg (by omega)]
theorem plow_step {v sh : Int} {y : BB} (h : 0 ≤ sh) : plow v (sh + 1).toNat y = plow v sh.toNat (pbit (v / p2 sh % 2) y) := by
  have e : (sh + 1).toNat = sh.toNat + 1 := by omega
  rw [e, plow, Int.toNat_of_nonneg h]
theorem pzer_step {x : BB} {j : Int} (h : 0 ≤ j) : pbit 0 (pzer j.toNat x) = pzer (j + 1).toNat x := by
  have e : (j + 1).toNat = j.toNat + 1 := by omega
  rw [e, pzer]
theorem plow_nI {v k : Int} (hk : 0 ≤ k) (x : BB) : (plow v k.toNat x).2 = x.2 + k := by rw [plow_n, Int.toNat_of_nonneg hk]
theorem pzer_nI {k : Int} (hk : 0 ≤ k) (x : BB) : (pzer k.toNat x).2 = x.2 + k := by rw [pzer_n, Int.toNat_of_nonneg hk]
theorem cbit_01 (r : Int → Int) : b01 (cbit r) := by
  intro t
  unfold cbit
  omega
theorem p2_15 {k : Int} (h : 0 ≤ k ∧ k ≤ 15) : 1 ≤ p2 k ∧ p2 k ≤ 32768 := by
  have h1 : ∀ n : Nat, n < 16 → (1 : Int) ≤ 2 ^ n ∧ (2 : Int) ^ n ≤ 32768 := by decide
  exact h1 k.toNat (by omega)
theorem pkc_rng (r : Int → Int) (t : Int) {k : Int} (h : 0 ≤ k ∧ k ≤ 15) : 0 ≤ pk (cbit r) t k ∧ pk (cbit r) t k < 32768 := by
  have h1 := pk_rng (cbit_01 r) t k.toNat
  have h2 := p2_15 h
  unfold p2 at h2
  unfold pk
  omega
theorem mul_p2 {a k : Int} (ha : 0 ≤ a ∧ a ≤ 24000) (hk : 0 ≤ k ∧ k ≤ 15) : 0 ≤ a * p2 k ∧ a * p2 k ≤ 786432000 := by
  have h := p2_15 hk
  have h1 : a * p2 k ≤ 24000 * 32768 := Int.mul_le_mul ha.2 h.2 (by omega) (by decide)
  have h2 : 0 ≤ a * p2 k := Int.mul_nonneg ha.1 (by omega)
  omega
theorem fz_end {r : Int → Int} {E q : Int} (h : E ≤ q) : fz r E q = q := by
  unfold fz
  rw [show (E - q).toNat = 0 by omega]
  rfl
theorem fz_one {r : Int → Int} {E q : Int} (h : ¬ cbit r q = 0) : fz r E q = q := by
  unfold fz
  cases (E - q).toNat with
  | zero => rfl
  | succ n => rw [fzN, if_neg h]
theorem fz_zero {r : Int → Int} {E q : Int} (hq : q < E) (h : cbit r q = 0) : fz r E q = fz r E (q + 1) := by
  unfold fz
  rw [show (E - q).toNat = (E - (q + 1)).toNat + 1 by omega, fzN, if_pos h]
theorem fzN_rng (r : Int → Int) : ∀ (n : Nat) (q : Int), q ≤ fzN r n q ∧ fzN r n q ≤ q + n
  | 0, q => ⟨Int.le_refl _, by show q ≤ q + 0; omega⟩
  | n + 1, q => by
    rw [fzN]
    have := fzN_rng r n (q + 1)
    split <;> omega
theorem fz_rng (r : Int → Int) {E q : Int} (h : q ≤ E) : q ≤ fz r E q ∧ fz r E q ≤ E := by
  have := fzN_rng r (E - q).toNat q
  unfold fz
  omega
theorem p2_3 : p2 3 = 8 := rfl
end
section
theorem hd_X0_init : yX0_init.cls ≠ "java/lang/invoke/MethodHandle" ∧ yX0_init.cls ≠ "java/lang/invoke/VarHandle" ∧ (parseMethodDescriptor yX0_init.desc).map (fun d => d.parameters.length) = some 0 := by decide +kernel
theorem hd_X0_restart : yX0_restart.cls ≠ "java/lang/invoke/MethodHandle" ∧ yX0_restart.cls ≠ "java/lang/invoke/VarHandle" ∧ (parseMethodDescriptor yX0_restart.desc).map (fun d => d.parameters.length) = some 0 := by decide +kernel
theorem hd_X0_bitHere : yX0_bitHere.cls ≠ "java/lang/invoke/MethodHandle" ∧ yX0_bitHere.cls ≠ "java/lang/invoke/VarHandle" ∧ (parseMethodDescriptor yX0_bitHere.desc).map (fun d => d.parameters.length) = some 0 := by decide +kernel
theorem hd_X0_nextLowBits : yX0_nextLowBits.cls ≠ "java/lang/invoke/MethodHandle" ∧ yX0_nextLowBits.cls ≠ "java/lang/invoke/VarHandle" ∧ (parseMethodDescriptor yX0_nextLowBits.desc).map (fun d => d.parameters.length) = some 1 := by decide +kernel
theorem hd_X0_nextNumber : yX0_nextNumber.cls ≠ "java/lang/invoke/MethodHandle" ∧ yX0_nextNumber.cls ≠ "java/lang/invoke/VarHandle" ∧ (parseMethodDescriptor yX0_nextNumber.desc).map (fun d => d.parameters.length) = some 1 := by decide +kernel
theorem hd_X1_init : yX1_init.cls ≠ "java/lang/invoke/MethodHandle" ∧ yX1_init.cls ≠ "java/lang/invoke/VarHandle" ∧ (parseMethodDescriptor yX1_init.desc).map (fun d => d.parameters.length) = some 0 := by decide +kernel
theorem hd_X1_restart : yX1_restart.cls ≠ "java/lang/invoke/MethodHandle" ∧ yX1_restart.cls ≠ "java/lang/invoke/VarHandle" ∧ (parseMethodDescriptor yX1_restart.desc).map (fun d => d.parameters.length) = some 0 := by decide +kernel
theorem hd_X1_putBit : yX1_putBit.cls ≠ "java/lang/invoke/MethodHandle" ∧ yX1_putBit.cls ≠ "java/lang/invoke/VarHandle" ∧ (parseMethodDescriptor yX1_putBit.desc).map (fun d => d.parameters.length) = some 1 := by decide +kernel
theorem hd_X1_putLowBits : yX1_putLowBits.cls ≠ "java/lang/invoke/MethodHandle" ∧ yX1_putLowBits.cls ≠ "java/lang/invoke/VarHandle" ∧ (parseMethodDescriptor yX1_putLowBits.desc).map (fun d => d.parameters.length) = some 2 := by decide +kernel
theorem hd_X1_putNumber : yX1_putNumber.cls ≠ "java/lang/invoke/MethodHandle" ∧ yX1_putNumber.cls ≠ "java/lang/invoke/VarHandle" ∧ (parseMethodDescriptor yX1_putNumber.desc).map (fun d => d.parameters.length) = some 2 := by decide +kernel
theorem hd_X1_fillByte : yX1_fillByte.cls ≠ "java/lang/invoke/MethodHandle" ∧ yX1_fillByte.cls ≠ "java/lang/invoke/VarHandle" ∧ (parseMethodDescriptor yX1_fillByte.desc).map (fun d => d.parameters.length) = some 0 := by decide +kernel
theorem hd_X2_init : yX2_init.cls ≠ "java/lang/invoke/MethodHandle" ∧ yX2_init.cls ≠ "java/lang/invoke/VarHandle" ∧ (parseMethodDescriptor yX2_init.desc).map (fun d => d.parameters.length) = some 0 := by decide +kernel
theorem hd_X2_clear : yX2_clear.cls ≠ "java/lang/invoke/MethodHandle" ∧ yX2_clear.cls ≠ "java/lang/invoke/VarHandle" ∧ (parseMethodDescriptor yX2_clear.desc).map (fun d => d.parameters.length) = some 0 := by decide +kernel
theorem hd_X2_append : yX2_append.cls ≠ "java/lang/invoke/MethodHandle" ∧ yX2_append.cls ≠ "java/lang/invoke/VarHandle" ∧ (parseMethodDescriptor yX2_append.desc).map (fun d => d.parameters.length) = some 1 := by decide +kernel
theorem hd_X2_byteAt : yX2_byteAt.cls ≠ "java/lang/invoke/MethodHandle" ∧ yX2_byteAt.cls ≠ "java/lang/invoke/VarHandle" ∧ (parseMethodDescriptor yX2_byteAt.desc).map (fun d => d.parameters.length) = some 1 := by decide +kernel
theorem hd_X2_copy : yX2_copy.cls ≠ "java/lang/invoke/MethodHandle" ∧ yX2_copy.cls ≠ "java/lang/invoke/VarHandle" ∧ (parseMethodDescriptor yX2_copy.desc).map (fun d => d.parameters.length) = some 1 := by decide +kernel
theorem hd_X3_init : yX3_init.cls ≠ "java/lang/invoke/MethodHandle" ∧ yX3_init.cls ≠ "java/lang/invoke/VarHandle" ∧ (parseMethodDescriptor yX3_init.desc).map (fun d => d.parameters.length) = some 0 := by decide +kernel
theorem hd_X3_ahead : yX3_ahead.cls ≠ "java/lang/invoke/MethodHandle" ∧ yX3_ahead.cls ≠ "java/lang/invoke/VarHandle" ∧ (parseMethodDescriptor yX3_ahead.desc).map (fun d => d.parameters.length) = some 2 := by decide +kernel
theorem hd_X3_settle : yX3_settle.cls ≠ "java/lang/invoke/MethodHandle" ∧ yX3_settle.cls ≠ "java/lang/invoke/VarHandle" ∧ (parseMethodDescriptor yX3_settle.desc).map (fun d => d.parameters.length) = some 2 := by decide +kernel
theorem hd_X4_init : yX4_init.cls ≠ "java/lang/invoke/MethodHandle" ∧ yX4_init.cls ≠ "java/lang/invoke/VarHandle" ∧ (parseMethodDescriptor yX4_init.desc).map (fun d => d.parameters.length) = some 2 := by decide +kernel
theorem hd_X4_restart : yX4_restart.cls ≠ "java/lang/invoke/MethodHandle" ∧ yX4_restart.cls ≠ "java/lang/invoke/VarHandle" ∧ (parseMethodDescriptor yX4_restart.desc).map (fun d => d.parameters.length) = some 2 := by decide +kernel
theorem hd_X4_lay : yX4_lay.cls ≠ "java/lang/invoke/MethodHandle" ∧ yX4_lay.cls ≠ "java/lang/invoke/VarHandle" ∧ (parseMethodDescriptor yX4_lay.desc).map (fun d => d.parameters.length) = some 3 := by decide +kernel
theorem hd_X4_append : yX4_append.cls ≠ "java/lang/invoke/MethodHandle" ∧ yX4_append.cls ≠ "java/lang/invoke/VarHandle" ∧ (parseMethodDescriptor yX4_append.desc).map (fun d => d.parameters.length) = some 1 := by decide +kernel
theorem hd_X4_copyWhole : yX4_copyWhole.cls ≠ "java/lang/invoke/MethodHandle" ∧ yX4_copyWhole.cls ≠ "java/lang/invoke/VarHandle" ∧ (parseMethodDescriptor yX4_copyWhole.desc).map (fun d => d.parameters.length) = some 1 := by decide +kernel
theorem hd_X4_each : yX4_each.cls ≠ "java/lang/invoke/MethodHandle" ∧ yX4_each.cls ≠ "java/lang/invoke/VarHandle" ∧ (parseMethodDescriptor yX4_each.desc).map (fun d => d.parameters.length) = some 0 := by decide +kernel
theorem hd_X4_wholeSize : yX4_wholeSize.cls ≠ "java/lang/invoke/MethodHandle" ∧ yX4_wholeSize.cls ≠ "java/lang/invoke/VarHandle" ∧ (parseMethodDescriptor yX4_wholeSize.desc).map (fun d => d.parameters.length) = some 0 := by decide +kernel
theorem hd_X4_hasSameWhole : yX4_hasSameWhole.cls ≠ "java/lang/invoke/MethodHandle" ∧ yX4_hasSameWhole.cls ≠ "java/lang/invoke/VarHandle" ∧ (parseMethodDescriptor yX4_hasSameWhole.desc).map (fun d => d.parameters.length) = some 1 := by decide +kernel
theorem hd_X4_blockCount : yX4_blockCount.cls ≠ "java/lang/invoke/MethodHandle" ∧ yX4_blockCount.cls ≠ "java/lang/invoke/VarHandle" ∧ (parseMethodDescriptor yX4_blockCount.desc).map (fun d => d.parameters.length) = some 0 := by decide +kernel
theorem hd_X4_channelOf : yX4_channelOf.cls ≠ "java/lang/invoke/MethodHandle" ∧ yX4_channelOf.cls ≠ "java/lang/invoke/VarHandle" ∧ (parseMethodDescriptor yX4_channelOf.desc).map (fun d => d.parameters.length) = some 1 := by decide +kernel
theorem hd_X4_samplesBefore : yX4_samplesBefore.cls ≠ "java/lang/invoke/MethodHandle" ∧ yX4_samplesBefore.cls ≠ "java/lang/invoke/VarHandle" ∧ (parseMethodDescriptor yX4_samplesBefore.desc).map (fun d => d.parameters.length) = some 1 := by decide +kernel
theorem hd_X4_firstPlace : yX4_firstPlace.cls ≠ "java/lang/invoke/MethodHandle" ∧ yX4_firstPlace.cls ≠ "java/lang/invoke/VarHandle" ∧ (parseMethodDescriptor yX4_firstPlace.desc).map (fun d => d.parameters.length) = some 1 := by decide +kernel
theorem hd_X4_blockSize : yX4_blockSize.cls ≠ "java/lang/invoke/MethodHandle" ∧ yX4_blockSize.cls ≠ "java/lang/invoke/VarHandle" ∧ (parseMethodDescriptor yX4_blockSize.desc).map (fun d => d.parameters.length) = some 1 := by decide +kernel
theorem hd_X4_sampleAt : yX4_sampleAt.cls ≠ "java/lang/invoke/MethodHandle" ∧ yX4_sampleAt.cls ≠ "java/lang/invoke/VarHandle" ∧ (parseMethodDescriptor yX4_sampleAt.desc).map (fun d => d.parameters.length) = some 1 := by decide +kernel
theorem hd_X4_setAt : yX4_setAt.cls ≠ "java/lang/invoke/MethodHandle" ∧ yX4_setAt.cls ≠ "java/lang/invoke/VarHandle" ∧ (parseMethodDescriptor yX4_setAt.desc).map (fun d => d.parameters.length) = some 2 := by decide +kernel
theorem hd_X4_toldAhead : yX4_toldAhead.cls ≠ "java/lang/invoke/MethodHandle" ∧ yX4_toldAhead.cls ≠ "java/lang/invoke/VarHandle" ∧ (parseMethodDescriptor yX4_toldAhead.desc).map (fun d => d.parameters.length) = some 3 := by decide +kernel
theorem hd_X5_init : yX5_init.cls ≠ "java/lang/invoke/MethodHandle" ∧ yX5_init.cls ≠ "java/lang/invoke/VarHandle" ∧ (parseMethodDescriptor yX5_init.desc).map (fun d => d.parameters.length) = some 0 := by decide +kernel
theorem hd_X5_parse : yX5_parse.cls ≠ "java/lang/invoke/MethodHandle" ∧ yX5_parse.cls ≠ "java/lang/invoke/VarHandle" ∧ (parseMethodDescriptor yX5_parse.desc).map (fun d => d.parameters.length) = some 0 := by decide +kernel
theorem hd_X5_isRight : yX5_isRight.cls ≠ "java/lang/invoke/MethodHandle" ∧ yX5_isRight.cls ≠ "java/lang/invoke/VarHandle" ∧ (parseMethodDescriptor yX5_isRight.desc).map (fun d => d.parameters.length) = some 0 := by decide +kernel
theorem hd_X5_parseHead : yX5_parseHead.cls ≠ "java/lang/invoke/MethodHandle" ∧ yX5_parseHead.cls ≠ "java/lang/invoke/VarHandle" ∧ (parseMethodDescriptor yX5_parseHead.desc).map (fun d => d.parameters.length) = some 0 := by decide +kernel
theorem hd_X5_parseBlock : yX5_parseBlock.cls ≠ "java/lang/invoke/MethodHandle" ∧ yX5_parseBlock.cls ≠ "java/lang/invoke/VarHandle" ∧ (parseMethodDescriptor yX5_parseBlock.desc).map (fun d => d.parameters.length) = some 1 := by decide +kernel
theorem hd_X5_parseFilling : yX5_parseFilling.cls ≠ "java/lang/invoke/MethodHandle" ∧ yX5_parseFilling.cls ≠ "java/lang/invoke/VarHandle" ∧ (parseMethodDescriptor yX5_parseFilling.desc).map (fun d => d.parameters.length) = some 0 := by decide +kernel
theorem hd_X5_nextByte : yX5_nextByte.cls ≠ "java/lang/invoke/MethodHandle" ∧ yX5_nextByte.cls ≠ "java/lang/invoke/VarHandle" ∧ (parseMethodDescriptor yX5_nextByte.desc).map (fun d => d.parameters.length) = some 1 := by decide +kernel
theorem hd_X5_nextWithin : yX5_nextWithin.cls ≠ "java/lang/invoke/MethodHandle" ∧ yX5_nextWithin.cls ≠ "java/lang/invoke/VarHandle" ∧ (parseMethodDescriptor yX5_nextWithin.desc).map (fun d => d.parameters.length) = some 3 := by decide +kernel
theorem hd_X5_judge : yX5_judge.cls ≠ "java/lang/invoke/MethodHandle" ∧ yX5_judge.cls ≠ "java/lang/invoke/VarHandle" ∧ (parseMethodDescriptor yX5_judge.desc).map (fun d => d.parameters.length) = some 4 := by decide +kernel
theorem hd_X6_init : yX6_init.cls ≠ "java/lang/invoke/MethodHandle" ∧ yX6_init.cls ≠ "java/lang/invoke/VarHandle" ∧ (parseMethodDescriptor yX6_init.desc).map (fun d => d.parameters.length) = some 0 := by decide +kernel
theorem hd_X6_compose : yX6_compose.cls ≠ "java/lang/invoke/MethodHandle" ∧ yX6_compose.cls ≠ "java/lang/invoke/VarHandle" ∧ (parseMethodDescriptor yX6_compose.desc).map (fun d => d.parameters.length) = some 1 := by decide +kernel
theorem hd_X6_choose : yX6_choose.cls ≠ "java/lang/invoke/MethodHandle" ∧ yX6_choose.cls ≠ "java/lang/invoke/VarHandle" ∧ (parseMethodDescriptor yX6_choose.desc).map (fun d => d.parameters.length) = some 1 := by decide +kernel
theorem hd_X6_putBlock : yX6_putBlock.cls ≠ "java/lang/invoke/MethodHandle" ∧ yX6_putBlock.cls ≠ "java/lang/invoke/VarHandle" ∧ (parseMethodDescriptor yX6_putBlock.desc).map (fun d => d.parameters.length) = some 1 := by decide +kernel
theorem hd_X6_findRests : yX6_findRests.cls ≠ "java/lang/invoke/MethodHandle" ∧ yX6_findRests.cls ≠ "java/lang/invoke/VarHandle" ∧ (parseMethodDescriptor yX6_findRests.desc).map (fun d => d.parameters.length) = some 2 := by decide +kernel
theorem hd_X6_zerosFor : yX6_zerosFor.cls ≠ "java/lang/invoke/MethodHandle" ∧ yX6_zerosFor.cls ≠ "java/lang/invoke/VarHandle" ∧ (parseMethodDescriptor yX6_zerosFor.desc).map (fun d => d.parameters.length) = some 1 := by decide +kernel
theorem hd_X6_bitsWith : yX6_bitsWith.cls ≠ "java/lang/invoke/MethodHandle" ∧ yX6_bitsWith.cls ≠ "java/lang/invoke/VarHandle" ∧ (parseMethodDescriptor yX6_bitsWith.desc).map (fun d => d.parameters.length) = some 3 := by decide +kernel
theorem hd_X6_bitsFor : yX6_bitsFor.cls ≠ "java/lang/invoke/MethodHandle" ∧ yX6_bitsFor.cls ≠ "java/lang/invoke/VarHandle" ∧ (parseMethodDescriptor yX6_bitsFor.desc).map (fun d => d.parameters.length) = some 3 := by decide +kernel
theorem hd_X6_bitsTaken : yX6_bitsTaken.cls ≠ "java/lang/invoke/MethodHandle" ∧ yX6_bitsTaken.cls ≠ "java/lang/invoke/VarHandle" ∧ (parseMethodDescriptor yX6_bitsTaken.desc).map (fun d => d.parameters.length) = some 1 := by decide +kernel
theorem hd_X7_init : yX7_init.cls ≠ "java/lang/invoke/MethodHandle" ∧ yX7_init.cls ≠ "java/lang/invoke/VarHandle" ∧ (parseMethodDescriptor yX7_init.desc).map (fun d => d.parameters.length) = some 0 := by decide +kernel
theorem hd_X7_settings : yX7_settings.cls ≠ "java/lang/invoke/MethodHandle" ∧ yX7_settings.cls ≠ "java/lang/invoke/VarHandle" ∧ (parseMethodDescriptor yX7_settings.desc).map (fun d => d.parameters.length) = some 2 := by decide +kernel
theorem hd_X7_sample : yX7_sample.cls ≠ "java/lang/invoke/MethodHandle" ∧ yX7_sample.cls ≠ "java/lang/invoke/VarHandle" ∧ (parseMethodDescriptor yX7_sample.desc).map (fun d => d.parameters.length) = some 1 := by decide +kernel
theorem hd_X7_write : yX7_write.cls ≠ "java/lang/invoke/MethodHandle" ∧ yX7_write.cls ≠ "java/lang/invoke/VarHandle" ∧ (parseMethodDescriptor yX7_write.desc).map (fun d => d.parameters.length) = some 0 := by decide +kernel
theorem hd_X7_at : yX7_at.cls ≠ "java/lang/invoke/MethodHandle" ∧ yX7_at.cls ≠ "java/lang/invoke/VarHandle" ∧ (parseMethodDescriptor yX7_at.desc).map (fun d => d.parameters.length) = some 1 := by decide +kernel
theorem hd_X7_block : yX7_block.cls ≠ "java/lang/invoke/MethodHandle" ∧ yX7_block.cls ≠ "java/lang/invoke/VarHandle" ∧ (parseMethodDescriptor yX7_block.desc).map (fun d => d.parameters.length) = some 2 := by decide +kernel
theorem hd_X7_cost : yX7_cost.cls ≠ "java/lang/invoke/MethodHandle" ∧ yX7_cost.cls ≠ "java/lang/invoke/VarHandle" ∧ (parseMethodDescriptor yX7_cost.desc).map (fun d => d.parameters.length) = some 3 := by decide +kernel
theorem hd_X7_feed : yX7_feed.cls ≠ "java/lang/invoke/MethodHandle" ∧ yX7_feed.cls ≠ "java/lang/invoke/VarHandle" ∧ (parseMethodDescriptor yX7_feed.desc).map (fun d => d.parameters.length) = some 1 := by decide +kernel
theorem hd_X7_take : yX7_take.cls ≠ "java/lang/invoke/MethodHandle" ∧ yX7_take.cls ≠ "java/lang/invoke/VarHandle" ∧ (parseMethodDescriptor yX7_take.desc).map (fun d => d.parameters.length) = some 0 := by decide +kernel
theorem hd_X7_read : yX7_read.cls ≠ "java/lang/invoke/MethodHandle" ∧ yX7_read.cls ≠ "java/lang/invoke/VarHandle" ∧ (parseMethodDescriptor yX7_read.desc).map (fun d => d.parameters.length) = some 0 := by decide +kernel
theorem hd_X7_value : yX7_value.cls ≠ "java/lang/invoke/MethodHandle" ∧ yX7_value.cls ≠ "java/lang/invoke/VarHandle" ∧ (parseMethodDescriptor yX7_value.desc).map (fun d => d.parameters.length) = some 1 := by decide +kernel
theorem hd_X7_same : yX7_same.cls ≠ "java/lang/invoke/MethodHandle" ∧ yX7_same.cls ≠ "java/lang/invoke/VarHandle" ∧ (parseMethodDescriptor yX7_same.desc).map (fun d => d.parameters.length) = some 0 := by decide +kernel
theorem hd_X7_count : yX7_count.cls ≠ "java/lang/invoke/MethodHandle" ∧ yX7_count.cls ≠ "java/lang/invoke/VarHandle" ∧ (parseMethodDescriptor yX7_count.desc).map (fun d => d.parameters.length) = some 1 := by decide +kernel
theorem hd_X7_isSample : yX7_isSample.cls ≠ "java/lang/invoke/MethodHandle" ∧ yX7_isSample.cls ≠ "java/lang/invoke/VarHandle" ∧ (parseMethodDescriptor yX7_isSample.desc).map (fun d => d.parameters.length) = some 1 := by decide +kernel
theorem hd_X7_numberBits : yX7_numberBits.cls ≠ "java/lang/invoke/MethodHandle" ∧ yX7_numberBits.cls ≠ "java/lang/invoke/VarHandle" ∧ (parseMethodDescriptor yX7_numberBits.desc).map (fun d => d.parameters.length) = some 2 := by decide +kernel
theorem hd_X7_fold : yX7_fold.cls ≠ "java/lang/invoke/MethodHandle" ∧ yX7_fold.cls ≠ "java/lang/invoke/VarHandle" ∧ (parseMethodDescriptor yX7_fold.desc).map (fun d => d.parameters.length) = some 1 := by decide +kernel
theorem hd_X7_unfold : yX7_unfold.cls ≠ "java/lang/invoke/MethodHandle" ∧ yX7_unfold.cls ≠ "java/lang/invoke/VarHandle" ∧ (parseMethodDescriptor yX7_unfold.desc).map (fun d => d.parameters.length) = some 1 := by decide +kernel
theorem hd_X7_roundedMean : yX7_roundedMean.cls ≠ "java/lang/invoke/MethodHandle" ∧ yX7_roundedMean.cls ≠ "java/lang/invoke/VarHandle" ∧ (parseMethodDescriptor yX7_roundedMean.desc).map (fun d => d.parameters.length) = some 2 := by decide +kernel
theorem hd_X8_init : yX8_init.cls ≠ "java/lang/invoke/MethodHandle" ∧ yX8_init.cls ≠ "java/lang/invoke/VarHandle" ∧ (parseMethodDescriptor yX8_init.desc).map (fun d => d.parameters.length) = some 0 := by decide +kernel
theorem hd_X8_settings : yX8_settings.cls ≠ "java/lang/invoke/MethodHandle" ∧ yX8_settings.cls ≠ "java/lang/invoke/VarHandle" ∧ (parseMethodDescriptor yX8_settings.desc).map (fun d => d.parameters.length) = some 2 := by decide +kernel
theorem hd_X8_sample : yX8_sample.cls ≠ "java/lang/invoke/MethodHandle" ∧ yX8_sample.cls ≠ "java/lang/invoke/VarHandle" ∧ (parseMethodDescriptor yX8_sample.desc).map (fun d => d.parameters.length) = some 1 := by decide +kernel
theorem hd_X8_forgetMeans : yX8_forgetMeans.cls ≠ "java/lang/invoke/MethodHandle" ∧ yX8_forgetMeans.cls ≠ "java/lang/invoke/VarHandle" ∧ (parseMethodDescriptor yX8_forgetMeans.desc).map (fun d => d.parameters.length) = some 0 := by decide +kernel
theorem hd_X8_rounded : yX8_rounded.cls ≠ "java/lang/invoke/MethodHandle" ∧ yX8_rounded.cls ≠ "java/lang/invoke/VarHandle" ∧ (parseMethodDescriptor yX8_rounded.desc).map (fun d => d.parameters.length) = some 2 := by decide +kernel
theorem hd_X8_meanOf : yX8_meanOf.cls ≠ "java/lang/invoke/MethodHandle" ∧ yX8_meanOf.cls ≠ "java/lang/invoke/VarHandle" ∧ (parseMethodDescriptor yX8_meanOf.desc).map (fun d => d.parameters.length) = some 1 := by decide +kernel
theorem hd_X8_noteMean : yX8_noteMean.cls ≠ "java/lang/invoke/MethodHandle" ∧ yX8_noteMean.cls ≠ "java/lang/invoke/VarHandle" ∧ (parseMethodDescriptor yX8_noteMean.desc).map (fun d => d.parameters.length) = some 3 := by decide +kernel
theorem hd_X8_before : yX8_before.cls ≠ "java/lang/invoke/MethodHandle" ∧ yX8_before.cls ≠ "java/lang/invoke/VarHandle" ∧ (parseMethodDescriptor yX8_before.desc).map (fun d => d.parameters.length) = some 4 := by decide +kernel
theorem hd_X8_ahead : yX8_ahead.cls ≠ "java/lang/invoke/MethodHandle" ∧ yX8_ahead.cls ≠ "java/lang/invoke/VarHandle" ∧ (parseMethodDescriptor yX8_ahead.desc).map (fun d => d.parameters.length) = some 5 := by decide +kernel
theorem hd_X8_putBit : yX8_putBit.cls ≠ "java/lang/invoke/MethodHandle" ∧ yX8_putBit.cls ≠ "java/lang/invoke/VarHandle" ∧ (parseMethodDescriptor yX8_putBit.desc).map (fun d => d.parameters.length) = some 1 := by decide +kernel
theorem hd_X8_putNumber : yX8_putNumber.cls ≠ "java/lang/invoke/MethodHandle" ∧ yX8_putNumber.cls ≠ "java/lang/invoke/VarHandle" ∧ (parseMethodDescriptor yX8_putNumber.desc).map (fun d => d.parameters.length) = some 2 := by decide +kernel
theorem hd_X8_folded : yX8_folded.cls ≠ "java/lang/invoke/MethodHandle" ∧ yX8_folded.cls ≠ "java/lang/invoke/VarHandle" ∧ (parseMethodDescriptor yX8_folded.desc).map (fun d => d.parameters.length) = some 1 := by decide +kernel
theorem hd_X8_lengthOf : yX8_lengthOf.cls ≠ "java/lang/invoke/MethodHandle" ∧ yX8_lengthOf.cls ≠ "java/lang/invoke/VarHandle" ∧ (parseMethodDescriptor yX8_lengthOf.desc).map (fun d => d.parameters.length) = some 2 := by decide +kernel
theorem hd_X8_firstOf : yX8_firstOf.cls ≠ "java/lang/invoke/MethodHandle" ∧ yX8_firstOf.cls ≠ "java/lang/invoke/VarHandle" ∧ (parseMethodDescriptor yX8_firstOf.desc).map (fun d => d.parameters.length) = some 2 := by decide +kernel
theorem hd_X8_sizeOf : yX8_sizeOf.cls ≠ "java/lang/invoke/MethodHandle" ∧ yX8_sizeOf.cls ≠ "java/lang/invoke/VarHandle" ∧ (parseMethodDescriptor yX8_sizeOf.desc).map (fun d => d.parameters.length) = some 1 := by decide +kernel
theorem hd_X8_costOf : yX8_costOf.cls ≠ "java/lang/invoke/MethodHandle" ∧ yX8_costOf.cls ≠ "java/lang/invoke/VarHandle" ∧ (parseMethodDescriptor yX8_costOf.desc).map (fun d => d.parameters.length) = some 5 := by decide +kernel
theorem hd_X8_isMean : yX8_isMean.cls ≠ "java/lang/invoke/MethodHandle" ∧ yX8_isMean.cls ≠ "java/lang/invoke/VarHandle" ∧ (parseMethodDescriptor yX8_isMean.desc).map (fun d => d.parameters.length) = some 3 := by decide +kernel
theorem hd_X8_writeBlock : yX8_writeBlock.cls ≠ "java/lang/invoke/MethodHandle" ∧ yX8_writeBlock.cls ≠ "java/lang/invoke/VarHandle" ∧ (parseMethodDescriptor yX8_writeBlock.desc).map (fun d => d.parameters.length) = some 2 := by decide +kernel
theorem hd_X8_write : yX8_write.cls ≠ "java/lang/invoke/MethodHandle" ∧ yX8_write.cls ≠ "java/lang/invoke/VarHandle" ∧ (parseMethodDescriptor yX8_write.desc).map (fun d => d.parameters.length) = some 0 := by decide +kernel
theorem hd_X8_at : yX8_at.cls ≠ "java/lang/invoke/MethodHandle" ∧ yX8_at.cls ≠ "java/lang/invoke/VarHandle" ∧ (parseMethodDescriptor yX8_at.desc).map (fun d => d.parameters.length) = some 1 := by decide +kernel
theorem hd_X8_block : yX8_block.cls ≠ "java/lang/invoke/MethodHandle" ∧ yX8_block.cls ≠ "java/lang/invoke/VarHandle" ∧ (parseMethodDescriptor yX8_block.desc).map (fun d => d.parameters.length) = some 2 := by decide +kernel
theorem hd_X8_cost : yX8_cost.cls ≠ "java/lang/invoke/MethodHandle" ∧ yX8_cost.cls ≠ "java/lang/invoke/VarHandle" ∧ (parseMethodDescriptor yX8_cost.desc).map (fun d => d.parameters.length) = some 3 := by decide +kernel
theorem hd_X8_feed : yX8_feed.cls ≠ "java/lang/invoke/MethodHandle" ∧ yX8_feed.cls ≠ "java/lang/invoke/VarHandle" ∧ (parseMethodDescriptor yX8_feed.desc).map (fun d => d.parameters.length) = some 1 := by decide +kernel
theorem hd_X8_take : yX8_take.cls ≠ "java/lang/invoke/MethodHandle" ∧ yX8_take.cls ≠ "java/lang/invoke/VarHandle" ∧ (parseMethodDescriptor yX8_take.desc).map (fun d => d.parameters.length) = some 0 := by decide +kernel
theorem hd_X8_nextBit : yX8_nextBit.cls ≠ "java/lang/invoke/MethodHandle" ∧ yX8_nextBit.cls ≠ "java/lang/invoke/VarHandle" ∧ (parseMethodDescriptor yX8_nextBit.desc).map (fun d => d.parameters.length) = some 0 := by decide +kernel
theorem hd_X8_nextNumber : yX8_nextNumber.cls ≠ "java/lang/invoke/MethodHandle" ∧ yX8_nextNumber.cls ≠ "java/lang/invoke/VarHandle" ∧ (parseMethodDescriptor yX8_nextNumber.desc).map (fun d => d.parameters.length) = some 1 := by decide +kernel
theorem hd_X8_isGood : yX8_isGood.cls ≠ "java/lang/invoke/MethodHandle" ∧ yX8_isGood.cls ≠ "java/lang/invoke/VarHandle" ∧ (parseMethodDescriptor yX8_isGood.desc).map (fun d => d.parameters.length) = some 1 := by decide +kernel
theorem hd_X8_hasByte : yX8_hasByte.cls ≠ "java/lang/invoke/MethodHandle" ∧ yX8_hasByte.cls ≠ "java/lang/invoke/VarHandle" ∧ (parseMethodDescriptor yX8_hasByte.desc).map (fun d => d.parameters.length) = some 1 := by decide +kernel
theorem hd_X8_readBlock : yX8_readBlock.cls ≠ "java/lang/invoke/MethodHandle" ∧ yX8_readBlock.cls ≠ "java/lang/invoke/VarHandle" ∧ (parseMethodDescriptor yX8_readBlock.desc).map (fun d => d.parameters.length) = some 4 := by decide +kernel
theorem hd_X8_stream : yX8_stream.cls ≠ "java/lang/invoke/MethodHandle" ∧ yX8_stream.cls ≠ "java/lang/invoke/VarHandle" ∧ (parseMethodDescriptor yX8_stream.desc).map (fun d => d.parameters.length) = some 0 := by decide +kernel
theorem hd_X8_read : yX8_read.cls ≠ "java/lang/invoke/MethodHandle" ∧ yX8_read.cls ≠ "java/lang/invoke/VarHandle" ∧ (parseMethodDescriptor yX8_read.desc).map (fun d => d.parameters.length) = some 0 := by decide +kernel
theorem hd_X8_value : yX8_value.cls ≠ "java/lang/invoke/MethodHandle" ∧ yX8_value.cls ≠ "java/lang/invoke/VarHandle" ∧ (parseMethodDescriptor yX8_value.desc).map (fun d => d.parameters.length) = some 1 := by decide +kernel
theorem hd_X8_same : yX8_same.cls ≠ "java/lang/invoke/MethodHandle" ∧ yX8_same.cls ≠ "java/lang/invoke/VarHandle" ∧ (parseMethodDescriptor yX8_same.desc).map (fun d => d.parameters.length) = some 0 := by decide +kernel
theorem hd_X8_count : yX8_count.cls ≠ "java/lang/invoke/MethodHandle" ∧ yX8_count.cls ≠ "java/lang/invoke/VarHandle" ∧ (parseMethodDescriptor yX8_count.desc).map (fun d => d.parameters.length) = some 1 := by decide +kernel
theorem hd_J9_floorDiv_7cf53 : yJ9_floorDiv_7cf53.cls ≠ "java/lang/invoke/MethodHandle" ∧ yJ9_floorDiv_7cf53.cls ≠ "java/lang/invoke/VarHandle" ∧ (parseMethodDescriptor yJ9_floorDiv_7cf53.desc).map (fun d => d.parameters.length) = some 2 := by decide +kernel
theorem hd_J9_min_7cf53 : yJ9_min_7cf53.cls ≠ "java/lang/invoke/MethodHandle" ∧ yJ9_min_7cf53.cls ≠ "java/lang/invoke/VarHandle" ∧ (parseMethodDescriptor yJ9_min_7cf53.desc).map (fun d => d.parameters.length) = some 2 := by decide +kernel
end
section
/-! the writer's numbers: rests, costs, the choice, and how long it all is -/
theorem upI_upI (f : Int → Int) (i a b : Int) : upI (upI f i a) i b = upI f i b := by
  funext j
  unfold upI
  split <;> rfl
theorem bef_rng {f : Int → Int} (hf : ∀ j, -32768 ≤ f j ∧ f j ≤ 32767) (q : Int) : -32768 ≤ bef f q ∧ bef f q ≤ 32767 := by
  unfold bef
  split
  · omega
  · exact hf _
theorem tah_rng {f : Int → Int} (hf : ∀ j, -32768 ≤ f j ∧ f j ≤ 32767) {mu : Int} (hmu : -32768 ≤ mu ∧ mu ≤ 32767) (ch fn q : Int) : -230000 ≤ tah f ch fn q mu ∧ tah f ch fn q mu ≤ 230000 := by
  have h1 := bef_rng hf (q - ch)
  have h2 := bef_rng hf (q - 2 * ch)
  have h3 := bef_rng hf (q - 3 * ch)
  unfold tah
  split
  · omega
  · split
    · omega
    · split <;> omega
theorem mahead_rng {mf : Int → Int} (hm : ∀ j, -32768 ≤ mf j ∧ mf j ≤ 32767) (ch i : Int) : -32768 ≤ mahead mf ch i ∧ mahead mf ch i ≤ 32767 := by
  have h1 := mb_rng hm ch i 1
  have h2 := mb_rng hm ch i 2
  have h3 := mb_rng hm ch i 3
  have h4 := mb_rng hm ch i 4
  exact rmean_rng (by decide) (by omega)
theorem foldI_rng {v B : Int} (h : -B ≤ v ∧ v ≤ B) : 0 ≤ foldI v ∧ foldI v ≤ 2 * B := by
  unfold foldI
  split <;> omega
theorem rst_rng {f : Int → Int} (hf : ∀ j, -32768 ≤ f j ∧ f j ≤ 32767) {mu : Int} (hmu : -32768 ≤ mu ∧ mu ≤ 32767) (ch fn q : Int) : 0 ≤ rst f ch fn q mu ∧ rst f ch fn q mu ≤ 600000 := by
  have h1 := tah_rng hf hmu ch fn q
  have h2 := hf q
  unfold rst
  have h3 := foldI_rng (v := f q - tah f ch fn q mu) (B := 300000) (by omega)
  omega
theorem rests_0 (o f : Int → Int) (ch fn q mu : Int) : rests o f ch fn q mu 0 = o := by
  funext j
  unfold rests
  rw [if_neg (by omega)]
theorem rests_s {o f : Int → Int} {ch fn q mu j : Int} (h : 0 ≤ j) : upI (rests o f ch fn q mu j) j (foldI (f (q + j * ch) - tah f ch fn (q + j * ch) mu)) = rests o f ch fn q mu (j + 1) := by
  funext t
  by_cases ht : t = j
  · subst ht
    rw [upI_s]
    unfold rests
    rw [if_pos (by omega)]
    rfl
  · rw [upI_n ht]
    unfold rests
    by_cases h2 : 0 ≤ t ∧ t < j
    · rw [if_pos h2, if_pos (by omega)]
    · rw [if_neg h2, if_neg (by omega)]
theorem rests_at {o f : Int → Int} {ch fn q mu m j : Int} (h : 0 ≤ j ∧ j < m) : rests o f ch fn q mu m j = rst f ch fn (q + j * ch) mu := by
  unfold rests
  rw [if_pos h]
theorem zsum_cg {r r' : Int → Int} {k : Int} : ∀ (m : Nat), (∀ j : Int, 0 ≤ j → j < m → r j = r' j) → zsumN r k m = zsumN r' k m
  | 0, _ => rfl
  | m + 1, h => by rw [zsumN, zsumN, zsum_cg m (fun j h1 h2 => h j h1 (by omega)), h m (by omega) (by omega)]
theorem zsum_rests {o f : Int → Int} {ch fn q mu k m : Int} : zsum (rests o f ch fn q mu m) k m = zsum (fun j => rst f ch fn (q + j * ch) mu) k m := by
  unfold zsum
  apply zsum_cg
  intro j h1 h2
  exact rests_at ⟨h1, by omega⟩
theorem ediv_p2 {a k : Int} (ha : 0 ≤ a) : 0 ≤ a / p2 k ∧ a / p2 k ≤ a :=
  ⟨Int.ediv_nonneg ha (Int.le_of_lt (p2_pos k)), Int.ediv_le_self _ ha⟩
theorem zsumN_rng {r : Int → Int} {k B : Int} : ∀ (m : Nat), (∀ j : Int, 0 ≤ j → j < m → 0 ≤ r j / p2 k ∧ r j / p2 k ≤ B) → 0 ≤ zsumN r k m ∧ zsumN r k m ≤ B * m
  | 0, _ => ⟨Int.le_refl _, by show (0 : Int) ≤ B * 0; omega⟩
  | m + 1, h => by
    have h1 := zsumN_rng m (fun j h1 h2 => h j h1 (by omega))
    have h2 := h m (by omega) (by omega)
    rw [zsumN, show ((m + 1 : Nat) : Int) = (m : Int) + 1 by omega, Int.mul_add]
    omega
theorem zsum_rng {r : Int → Int} {k B m : Int} (hm : 0 ≤ m) (h : ∀ j : Int, 0 ≤ j → j < m → 0 ≤ r j / p2 k ∧ r j / p2 k ≤ B) : 0 ≤ zsum r k m ∧ zsum r k m ≤ B * m := by
  have h1 := zsumN_rng (r := r) (k := k) (B := B) m.toNat (fun j h2 h3 => h j h2 (by omega))
  rw [Int.toNat_of_nonneg hm] at h1
  exact h1
/-- a stretch of the sum is no more than the whole -/
theorem zsumN_mono {r : Int → Int} {k : Int} (m : Nat) (h : ∀ j : Int, 0 ≤ j → 0 ≤ r j / p2 k) : ∀ d : Nat, zsumN r k m ≤ zsumN r k (m + d)
  | 0 => Int.le_refl _
  | d + 1 => by
    have h1 := zsumN_mono m h d
    have h2 := h ((m + d : Nat) : Int) (by omega)
    show _ ≤ zsumN r k (m + d) + r ((m + d : Nat) : Int) / p2 k
    omega
theorem zsum_mono {r : Int → Int} {k j m : Int} (hj : 0 ≤ j) (hm : j ≤ m) (h : ∀ j : Int, 0 ≤ j → 0 ≤ r j / p2 k) : zsum r k j ≤ zsum r k m := by
  have h1 := zsumN_mono (r := r) (k := k) j.toNat h (m.toNat - j.toNat)
  unfold zsum
  rw [show j.toNat + (m.toNat - j.toNat) = m.toNat by omega] at h1
  exact h1
theorem cost_rng {f : Int → Int} (hf : ∀ j, -32768 ≤ f j ∧ f j ≤ 32767) {mu : Int} (hmu : -32768 ≤ mu ∧ mu ≤ 32767) {ch bl many i fn k : Int} (hs : 1 ≤ bsize ch bl many i ∧ bsize ch bl many i ≤ 64) (hfn : 0 ≤ fn ∧ fn ≤ 3) (hk : 0 ≤ k ∧ k ≤ 15) : 0 ≤ cost f ch bl many mu i fn k ∧ cost f ch bl many mu i fn k < 100000000 := by
  have h1 := zsum_rng (r := fun j => rst f ch fn (bfirst ch bl i + j * ch) mu) (k := k) (B := 600000) (m := bsize ch bl many i) (by omega) (fun j _ _ => by
    have h2 := rst_rng hf hmu ch fn (bfirst ch bl i + j * ch)
    have h3 := ediv_p2 (k := k) h2.1
    omega)
  unfold cost bcost nbits
  have e2 : p2 2 = 4 := rfl
  have e3 : p2 3 = 8 := rfl
  have h4 : bsize ch bl many i * (1 + k) ≤ 64 * 16 := Int.mul_le_mul hs.2 (by omega) (by omega) (by decide)
  have h5 : 0 ≤ bsize ch bl many i * (1 + k) := Int.mul_nonneg (by omega) (by omega)
  rw [e2, e3]
  omega
/-! the choice -/
theorem cb_le (C : Int → Int → Int) (n : Nat) : (cbestN C (n + 1)).2.2 ≤ C ((n / 16 : Nat) : Int) ((n % 16 : Nat) : Int) ∧ (cbestN C (n + 1)).2.2 ≤ (cbestN C n).2.2 := by
  rw [cbestN, cstep]
  split
  · exact ⟨Int.le_refl _, by dsimp only; omega⟩
  · omega
theorem cb_stay (C : Int → Int → Int) (n : Nat) : ∀ d : Nat, (∀ t : Nat, n ≤ t → t < n + d → (cbestN C n).2.2 ≤ C ((t / 16 : Nat) : Int) ((t % 16 : Nat) : Int)) → cbestN C (n + d) = cbestN C n
  | 0, _ => rfl
  | d + 1, h => by
    have h1 := cb_stay C n d (fun t h1 h2 => h t h1 (by omega))
    show cstep C (((n + d) / 16 : Nat) : Int) (((n + d) % 16 : Nat) : Int) (cbestN C (n + d)) = _
    rw [h1, cstep, if_neg]
    have := h (n + d) (by omega) (by omega)
    omega
theorem cb_min (C : Int → Int → Int) (n : Nat) : ∀ d : Nat, (cbestN C (n + 1 + d)).2.2 ≤ C ((n / 16 : Nat) : Int) ((n % 16 : Nat) : Int)
  | 0 => (cb_le C n).1
  | d + 1 => Int.le_trans (cb_le C (n + 1 + d)).2 (cb_min C n d)
theorem cb_val (C : Int → Int → Int) (h0 : C 0 0 < 2147483647) : ∀ n : Nat, n < 64 → (cbestN C (n + 1)).2.2 = C (cbestN C (n + 1)).1 (cbestN C (n + 1)).2.1 ∧ (0 ≤ (cbestN C (n + 1)).1 ∧ (cbestN C (n + 1)).1 ≤ 3) ∧ (0 ≤ (cbestN C (n + 1)).2.1 ∧ (cbestN C (n + 1)).2.1 ≤ 15)
  | 0, _ => by
    show (cstep C 0 0 (4, -1, 2147483647)).2.2 = _ ∧ _
    have e : cbestN C (0 + 1) = (0, 0, C 0 0) := by
      show cstep C 0 0 (4, -1, 2147483647) = _
      rw [cstep, if_pos h0]
    have e2 : cstep C 0 0 (4, -1, 2147483647) = (0, 0, C 0 0) := by rw [cstep, if_pos h0]
    rw [e, e2]
    exact ⟨rfl, ⟨Int.le_refl _, by show (0 : Int) ≤ 3; decide⟩, ⟨Int.le_refl _, by show (0 : Int) ≤ 15; decide⟩⟩
  | n + 1, hn => by
    have ih := cb_val C h0 n (by omega)
    rw [cbestN, cstep]
    split
    · exact ⟨rfl, by dsimp only; omega, by dsimp only; omega⟩
    · exact ih
def chS (C : Int → Int → Int) (ff kk : Int → Int) (i N : Int) (ff2 kk2 : Int → Int) (fe : Int) : Prop :=
  (N = 0 ∧ ff2 = ff ∧ kk2 = kk ∧ fe = 2147483647) ∨ (0 < N ∧ ff2 = upI ff i (cbestN C N.toNat).1 ∧ kk2 = upI kk i (cbestN C N.toNat).2.1 ∧ fe = (cbestN C N.toNat).2.2)
theorem chS_fe {C : Int → Int → Int} {ff kk ff2 kk2 : Int → Int} {i N fe : Int} (h : chS C ff kk i N ff2 kk2 fe) : (cbestN C N.toNat).2.2 = fe := by
  rcases h with ⟨rfl, -, -, h⟩ | ⟨-, -, -, h⟩
  · rw [h]; rfl
  · exact h.symm
theorem cb_idx {N fn k : Int} (hfn : 0 ≤ fn) (hk : 0 ≤ k ∧ k ≤ 15) (hN : N = 16 * fn + k) : ((N.toNat / 16 : Nat) : Int) = fn ∧ ((N.toNat % 16 : Nat) : Int) = k := by omega
theorem chS_lt {C : Int → Int → Int} {ff kk ff2 kk2 : Int → Int} {i N fe fn k : Int} (h : chS C ff kk i N ff2 kk2 fe) (hfn : 0 ≤ fn) (hk : 0 ≤ k ∧ k ≤ 15) (hN : N = 16 * fn + k) (hc : C fn k < fe) : chS C ff kk i (N + 1) (upI ff2 i fn) (upI kk2 i k) (C fn k) := by
  have e := chS_fe h
  obtain ⟨e1, e2⟩ := cb_idx hfn hk hN
  have e3 : cbestN C (N + 1).toNat = (fn, k, C fn k) := by
    rw [show (N + 1).toNat = N.toNat + 1 by omega, cbestN, cstep, e1, e2, e, if_pos hc]
  refine Or.inr ⟨by omega, ?_, ?_, ?_⟩
  · rw [e3]
    rcases h with ⟨-, h, -⟩ | ⟨-, h, -⟩ <;> rw [h]
    rw [upI_upI]
  · rw [e3]
    rcases h with ⟨-, -, h, -⟩ | ⟨-, -, h, -⟩ <;> rw [h]
    rw [upI_upI]
  · rw [e3]
theorem chS_ge {C : Int → Int → Int} {ff kk ff2 kk2 : Int → Int} {i N fe fn k : Int} (h : chS C ff kk i N ff2 kk2 fe) (hfn : 0 ≤ fn) (hk : 0 ≤ k ∧ k ≤ 15) (hN : N = 16 * fn + k) (hc : fe ≤ C fn k) (hm : C fn k < 2147483647) : chS C ff kk i (N + 1) ff2 kk2 fe := by
  have e := chS_fe h
  obtain ⟨e1, e2⟩ := cb_idx hfn hk hN
  have e3 : cbestN C (N + 1).toNat = cbestN C N.toNat := by
    rw [show (N + 1).toNat = N.toNat + 1 by omega, cbestN, cstep, e1, e2, e, if_neg (by omega)]
  rcases h with ⟨-, -, -, h⟩ | ⟨h0, h⟩
  · omega
  · refine Or.inr ⟨by omega, ?_⟩
    rw [e3]
    exact h
theorem chS_skip {C : Int → Int → Int} {ff kk ff2 kk2 : Int → Int} {i N fe fn k : Int} (h : chS C ff kk i (N + 1) ff2 kk2 fe) (hfn : 0 ≤ fn) (hk : 0 ≤ k ∧ k ≤ 15) (hN : N = 16 * fn + k) (hc : ∀ t, k < t → t ≤ 15 → C fn k ≤ C fn t) : chS C ff kk i (16 * (fn + 1)) ff2 kk2 fe := by
  obtain ⟨e1, e2⟩ := cb_idx hfn hk hN
  have h1 := (cb_le C N.toNat).1
  rw [e1, e2] at h1
  have e3 : cbestN C (16 * (fn + 1)).toNat = cbestN C (N + 1).toNat := by
    rw [show (16 * (fn + 1)).toNat = N.toNat + 1 + (15 - k).toNat by omega, show (N + 1).toNat = N.toNat + 1 by omega]
    apply cb_stay
    intro t h2 h3
    have e5 : ((t / 16 : Nat) : Int) = fn := by omega
    rw [e5]
    exact Int.le_trans h1 (hc _ (by omega) (by omega))
  rcases h with ⟨h0, -⟩ | ⟨-, h⟩
  · omega
  · refine Or.inr ⟨by omega, ?_⟩
    rw [e3]
    exact h
/-- what a block is written with -/
def chZ (f : Int → Int) (ch bl many mu i : Int) : Int := zsum (fun j => rst f ch 0 (bfirst ch bl i + j * ch) mu) 0 (bsize ch bl many i)
def chF (f : Int → Int) (ch bl many mu i : Int) : Int := if chZ f ch bl many mu i = 0 then 4 else (cbestN (cost f ch bl many mu i) 64).1
def chK (f : Int → Int) (ch bl many mu i : Int) : Int := if chZ f ch bl many mu i = 0 then -1 else (cbestN (cost f ch bl many mu i) 64).2.1
def chB (f : Int → Int) (ch bl many mu i : Int) : Int := if chF f ch bl many mu i = 4 then 4 else cost f ch bl many mu i (chF f ch bl many mu i) (chK f ch bl many mu i)
theorem cost_up {f : Int → Int} (hf : ∀ j, -32768 ≤ f j ∧ f j ≤ 32767) {mu : Int} (hmu : -32768 ≤ mu ∧ mu ≤ 32767) {ch bl many i fn k t : Int} (hs : 1 ≤ bsize ch bl many i ∧ bsize ch bl many i ≤ 64) (hk : 0 ≤ k) (hkt : k < t) (hz : zsum (fun j => rst f ch fn (bfirst ch bl i + j * ch) mu) k (bsize ch bl many i) = 0) : cost f ch bl many mu i fn k ≤ cost f ch bl many mu i fn t := by
  have h1 := zsum_rng (r := fun j => rst f ch fn (bfirst ch bl i + j * ch) mu) (k := t) (B := 600000) (m := bsize ch bl many i) (by omega) (fun j _ _ => by
    have h2 := rst_rng hf hmu ch fn (bfirst ch bl i + j * ch)
    have h3 := ediv_p2 (k := t) h2.1
    omega)
  unfold cost bcost nbits
  have e3 : p2 3 = 8 := rfl
  have h4 : bsize ch bl many i * (1 + k) ≤ bsize ch bl many i * (1 + t) := Int.mul_le_mul_of_nonneg_left (by omega) (by omega)
  rw [e3, hz]
  omega
theorem ch_ok {f : Int → Int} (hf : ∀ j, -32768 ≤ f j ∧ f j ≤ 32767) {mu : Int} (hmu : -32768 ≤ mu ∧ mu ≤ 32767) {ch bl many i : Int} (hs : 1 ≤ bsize ch bl many i ∧ bsize ch bl many i ≤ 64) :
    (chF f ch bl many mu i = 4 ∧ chK f ch bl many mu i = -1) ∨ ((0 ≤ chF f ch bl many mu i ∧ chF f ch bl many mu i ≤ 3) ∧ (0 ≤ chK f ch bl many mu i ∧ chK f ch bl many mu i ≤ 15)) := by
  unfold chF chK
  by_cases hz : chZ f ch bl many mu i = 0
  · rw [if_pos hz, if_pos hz]
    exact Or.inl ⟨rfl, rfl⟩
  · rw [if_neg hz, if_neg hz]
    have h0 := (cost_rng hf hmu (ch := ch) (bl := bl) (many := many) (i := i) (fn := 0) (k := 0) hs (by decide) (by decide)).2
    have hv := cb_val (cost f ch bl many mu i) (by omega) 63 (by decide)
    rw [show (63 + 1 : Nat) = 64 from rfl] at hv
    exact Or.inr hv.2
theorem chB_le {f : Int → Int} (hf : ∀ j, -32768 ≤ f j ∧ f j ≤ 32767) {mu : Int} (hmu : -32768 ≤ mu ∧ mu ≤ 32767) {ch bl many i : Int} (hs : 1 ≤ bsize ch bl many i ∧ bsize ch bl many i ≤ 64) : 0 ≤ chB f ch bl many mu i ∧ chB f ch bl many mu i ≤ 27 * bsize ch bl many i := by
  unfold chB
  by_cases h4 : chF f ch bl many mu i = 4
  · rw [if_pos h4]
    omega
  · rw [if_neg h4]
    have hz : ¬ chZ f ch bl many mu i = 0 := fun hz => h4 (by unfold chF; rw [if_pos hz])
    have h0 := (cost_rng hf hmu (ch := ch) (bl := bl) (many := many) (i := i) (fn := 0) (k := 0) hs (by decide) (by decide)).2
    have hv := cb_val (cost f ch bl many mu i) (by omega) 63 (by decide)
    rw [show (63 + 1 : Nat) = 64 from rfl] at hv
    have hm := cb_min (cost f ch bl many mu i) 15 48
    rw [show (15 + 1 + 48 : Nat) = 64 from rfl, show ((15 / 16 : Nat) : Int) = 0 from rfl, show ((15 % 16 : Nat) : Int) = 15 from rfl] at hm
    have eF : chF f ch bl many mu i = (cbestN (cost f ch bl many mu i) 64).1 := by unfold chF; rw [if_neg hz]
    have eK : chK f ch bl many mu i = (cbestN (cost f ch bl many mu i) 64).2.1 := by unfold chK; rw [if_neg hz]
    have h1 := zsum_rng (r := fun j => rst f ch 0 (bfirst ch bl i + j * ch) mu) (k := 15) (B := 3) (m := bsize ch bl many i) (by omega) (fun j _ _ => by
      have h2 := hf (bfirst ch bl i + j * ch)
      have h3 : 0 ≤ rst f ch 0 (bfirst ch bl i + j * ch) mu ∧ rst f ch 0 (bfirst ch bl i + j * ch) mu ≤ 2 * 65535 := by
        unfold rst tah
        rw [if_neg (by decide), if_neg (by decide), if_neg (by decide)]
        exact foldI_rng (by omega)
      have e : p2 15 = 32768 := rfl
      rw [e]
      omega)
    have hc : cost f ch bl many mu i 0 15 ≤ 27 * bsize ch bl many i := by
      unfold cost bcost nbits
      have e2 : p2 2 = 4 := rfl
      have e3 : p2 3 = 8 := rfl
      rw [e2, e3]
      omega
    have hr := cost_rng hf hmu (ch := ch) (bl := bl) (many := many) (i := i) hs hv.2.1 hv.2.2
    rw [eF, eK]
    have hv1 := hv.1
    omega
theorem nnv_bad {r : Int → Int} {E q k : Int} (h : (if E - (fz r E q + 1) < k then -1 else pk (cbit r) (fz r E q + 1) k) = -1) (hp : 0 ≤ pk (cbit r) (fz r E q + 1) k) : -1 = nnv r E q k := by
  unfold nnv
  split
  · rfl
  · rename_i h1
    rw [if_neg h1] at h
    omega
theorem nnv_good {r : Int → Int} {E q k : Int} (h : ¬ (if E - (fz r E q + 1) < k then -1 else pk (cbit r) (fz r E q + 1) k) = -1) : (fz r E q - q) * p2 k + (if E - (fz r E q + 1) < k then -1 else pk (cbit r) (fz r E q + 1) k) = nnv r E q k := by
  unfold nnv
  by_cases h1 : E - (fz r E q + 1) < k
  · rw [if_pos h1] at h
    exact absurd rfl h
  · rw [if_neg h1, if_neg h1]
end
section
/-! a block's bits, all blocks, the whole stream -/
def pblkB (f : Int → Int) (ch bl many mu i fn k : Int) (x : BB) : BB :=
  if fn = 4 then pnum 2 fn x else prest (fun j => rst f ch fn (bfirst ch bl i + j * ch) mu) k (bsize ch bl many i) (pnum 3 k (pnum 2 fn x))
def muOf (f : Int → Int) (ch bl many i : Int) : Int := mahead (bmean f ch bl many) ch i
def cF (f : Int → Int) (ch bl many i : Int) : Int := chF f ch bl many (muOf f ch bl many i) i
def cK (f : Int → Int) (ch bl many i : Int) : Int := chK f ch bl many (muOf f ch bl many i) i
def cB (f : Int → Int) (ch bl many i : Int) : Int := chB f ch bl many (muOf f ch bl many i) i
def pblk (f : Int → Int) (ch bl many i : Int) (x : BB) : BB := pblkB f ch bl many (muOf f ch bl many i) i (cF f ch bl many i) (cK f ch bl many i) x
def pallN (f : Int → Int) (ch bl many : Int) : Nat → BB → BB
  | 0, x => x
  | i + 1, x => pblk f ch bl many i (pallN f ch bl many i x)
def phead (ch bl many : Int) (w : Int → Int) : BB := pnum 6 many (pnum 4 bl (pnum 2 ch (plow 66 (8 : Int).toNat (plow 83 (8 : Int).toNat (w, 0)))))
def pfill (x : BB) : BB := pzer ((8 - x.2 % 8) % 8).toNat x
def pwrite (f : Int → Int) (ch bl many : Int) (w : Int → Int) : BB := pfill (pnum 2 5 (pallN f ch bl many (nblk ch bl many).toNat (phead ch bl many w)))
def ovr (g o : Int → Int) (N : Int) : Int → Int := fun j => if 0 ≤ j ∧ j < N then g j else o j
theorem ovr_0 (g o : Int → Int) : ovr g o 0 = o := by
  funext j
  unfold ovr
  rw [if_neg (by omega)]
theorem ovr_s {g o : Int → Int} {i : Int} (h : 0 ≤ i) : upI (ovr g o i) i (g i) = ovr g o (i + 1) := by
  funext t
  by_cases ht : t = i
  · subst ht
    rw [upI_s]
    unfold ovr
    rw [if_pos (by omega)]
  · rw [upI_n ht]
    unfold ovr
    by_cases h2 : 0 ≤ t ∧ t < i
    · rw [if_pos h2, if_pos (by omega)]
    · rw [if_neg h2, if_neg (by omega)]
theorem ovr_in {g o : Int → Int} {N j : Int} (h : 0 ≤ j ∧ j < N) : ovr g o N j = g j := by
  unfold ovr
  rw [if_pos h]
theorem ovr_rng {g o : Int → Int} {N : Int} (hg : ∀ j, 0 ≤ j → j < N → -32768 ≤ g j ∧ g j ≤ 32767) (ho : ∀ j, -32768 ≤ o j ∧ o j ≤ 32767) : ∀ j, -32768 ≤ ovr g o N j ∧ ovr g o N j ≤ 32767 := by
  intro j
  unfold ovr
  split
  · rename_i h
    exact hg j h.1 h.2
  · exact ho j
theorem mb_cg {mf mf' : Int → Int} {ch i k : Int} (h : ∀ j, 0 ≤ j → j < i → mf j = mf' j) (hk : 1 ≤ k) (hc : 1 ≤ ch) : mb mf ch i k = mb mf' ch i k := by
  unfold mb
  have hp : 1 * 1 ≤ k * ch := Int.mul_le_mul hk hc (by decide) (by omega)
  split
  · rfl
  · exact h _ (by omega) (by omega)
theorem mahead_cg {mf mf' : Int → Int} {ch i : Int} (hc : 1 ≤ ch) (h : ∀ j, 0 ≤ j → j < i → mf j = mf' j) : mahead mf ch i = mahead mf' ch i := by
  unfold mahead
  rw [mb_cg h (by decide) hc, mb_cg h (by decide) hc, mb_cg h (by decide) hc, mb_cg h (by decide) hc]
theorem nblk_in {ch bl many i : Int} (hc : 1 ≤ ch ∧ ch ≤ 2) (hb : 1 ≤ bl) (hm : 0 ≤ many) (h0 : 0 ≤ i) (h1 : i < nblk ch bl many) : 0 ≤ i / ch * bl ∧ i / ch * bl < many := by
  unfold nblk at h1
  have hq := Int.ediv_mul_le (many + bl - 1) (Int.ne_of_gt (show 0 < bl by omega))
  have h2 : 0 ≤ i / ch := Int.ediv_nonneg h0 (by omega)
  have h3 : i / ch < (many + bl - 1) / bl := Int.ediv_lt_of_lt_mul (by omega) h1
  have h4 : (i / ch + 1) * bl ≤ (many + bl - 1) / bl * bl := Int.mul_le_mul_of_nonneg_right (by omega) (by omega)
  rw [Int.add_mul] at h4
  exact ⟨Int.mul_nonneg h2 (by omega), by omega⟩
theorem nblk_rng {ch bl many : Int} (hc : 1 ≤ ch ∧ ch ≤ 2) (hb : 1 ≤ bl) (hm : 0 ≤ many ∧ many ≤ 400) : 0 ≤ nblk ch bl many ∧ nblk ch bl many ≤ 800 := by
  unfold nblk
  have h1 : 0 ≤ (many + bl - 1) / bl := Int.ediv_nonneg (by omega) (by omega)
  have h3 : (many + bl - 1) / bl < many + 1 := Int.ediv_lt_of_lt_mul (by omega) (by
    have h5 : many * 1 ≤ many * bl := Int.mul_le_mul_of_nonneg_left hb hm.1
    rw [Int.add_mul]
    omega)
  have h4 : (many + bl - 1) / bl * ch ≤ 400 * 2 := Int.mul_le_mul (by omega) hc.2 (by omega) (by decide)
  have h5 : 0 ≤ (many + bl - 1) / bl * ch := Int.mul_nonneg h1 (by omega)
  omega
def ssN (ch bl many : Int) : Nat → Int
  | 0 => 0
  | i + 1 => ssN ch bl many i + bsize ch bl many i
theorem ss_at {ch bl many : Int} (hc : 1 ≤ ch ∧ ch ≤ 2) (hb : 1 ≤ bl) : ∀ i : Nat, (i : Int) / ch * bl < many → 0 ≤ (i : Int) / ch * bl → ssN ch bl many i = (i : Int) / ch * bl * ch + (i : Int) % ch * bsize ch bl many i
  | 0, _, _ => by
    show (0 : Int) = ((0 : Nat) : Int) / ch * bl * ch + ((0 : Nat) : Int) % ch * _
    simp
  | i + 1, h1, h2 => by
    have hle : (i : Int) / ch * bl ≤ ((i + 1 : Nat) : Int) / ch * bl := by
      rcases (show ch = 1 ∨ ch = 2 by omega) with e | e <;> subst e
      · exact Int.mul_le_mul_of_nonneg_right (by omega) (by omega)
      · exact Int.mul_le_mul_of_nonneg_right (by omega) (by omega)
    have h0 : 0 ≤ (i : Int) / ch * bl := Int.mul_nonneg (Int.ediv_nonneg (by omega) (by omega)) (by omega)
    have ih := ss_at (many := many) hc hb i (by omega) h0
    rw [ssN, ih]
    rcases (show ch = 1 ∨ ch = 2 by omega) with e | e <;> subst e
    · have e1 : ((i + 1 : Nat) : Int) / 1 * bl = (i : Int) / 1 * bl + bl := by
        rw [show ((i + 1 : Nat) : Int) / 1 = (i : Int) / 1 + 1 by omega, Int.add_mul, Int.one_mul]
      have e2 : bsize 1 bl many i = bl := by
        unfold bsize mnI
        rw [if_neg (by omega)]
      rw [e1, e2, show (i : Int) % 1 = 0 by omega, show ((i + 1 : Nat) : Int) % 1 = 0 by omega]
      omega
    · rcases (show i % 2 = 0 ∨ i % 2 = 1 by omega) with hp | hp
      · have e1 : ((i + 1 : Nat) : Int) / 2 = (i : Int) / 2 := by omega
        have e2 : bsize 2 bl many ((i + 1 : Nat) : Int) = bsize 2 bl many i := by
          unfold bsize
          rw [e1]
        rw [e2, e1, show (i : Int) % 2 = 0 by omega, show ((i + 1 : Nat) : Int) % 2 = 1 by omega]
        omega
      · have e1 : ((i + 1 : Nat) : Int) / 2 * bl = (i : Int) / 2 * bl + bl := by
          rw [show ((i + 1 : Nat) : Int) / 2 = (i : Int) / 2 + 1 by omega, Int.add_mul, Int.one_mul]
        have e2 : bsize 2 bl many i = bl := by
          unfold bsize mnI
          rw [if_neg (by omega)]
        rw [e1, e2, show (i : Int) % 2 = 1 by omega, show ((i + 1 : Nat) : Int) % 2 = 0 by omega]
        omega
theorem ss_le {ch bl many : Int} (hc : 1 ≤ ch ∧ ch ≤ 2) (hb : 1 ≤ bl) {i : Int} (h0 : 0 ≤ i) (h1 : i / ch * bl < many) (h2 : 0 ≤ i / ch * bl) : 0 ≤ ssN ch bl many i.toNat ∧ ssN ch bl many i.toNat + bsize ch bl many i ≤ many * ch := by
  have h := ss_at hc hb i.toNat (many := many) (by rw [Int.toNat_of_nonneg h0]; exact h1) (by rw [Int.toNat_of_nonneg h0]; exact h2)
  rw [Int.toNat_of_nonneg h0] at h
  rw [h]
  have h3 : 0 ≤ bsize ch bl many i ∧ bsize ch bl many i ≤ many - i / ch * bl := by
    unfold bsize mnI
    split <;> omega
  rcases (show ch = 1 ∨ ch = 2 by omega) with e | e <;> subst e
  · rw [show i % 1 = 0 by omega]
    omega
  · rcases (show i % 2 = 0 ∨ i % 2 = 1 by omega) with hp | hp <;> rw [hp] <;> omega
theorem ss_s {ch bl many i : Int} (h : 0 ≤ i) : ssN ch bl many (i + 1).toNat = ssN ch bl many i.toNat + bsize ch bl many i := by
  rw [show (i + 1).toNat = i.toNat + 1 by omega, ssN, Int.toNat_of_nonneg h]
theorem pall_s {f : Int → Int} {ch bl many i : Int} {x : BB} (h : 0 ≤ i) : pblk f ch bl many i (pallN f ch bl many i.toNat x) = pallN f ch bl many (i + 1).toNat x := by
  rw [show (i + 1).toNat = i.toNat + 1 by omega, pallN, Int.toNat_of_nonneg h]
theorem prest_n {r : Int → Int} {k : Int} (hk : 0 ≤ k) (hr : ∀ j, 0 ≤ j → 0 ≤ r j) (x : BB) : ∀ m : Nat, (prestN r k m x).2 = x.2 + zsumN r k m + m * (1 + k)
  | 0 => by show x.2 = x.2 + 0 + 0 * (1 + k); omega
  | m + 1 => by
    rw [prestN, pnum_n hk (hr m (by omega)), prest_n hk hr x m, zsumN, nbits, show ((m + 1 : Nat) : Int) = (m : Int) + 1 by omega, Int.add_mul]
    omega
theorem prest_nI {r : Int → Int} {k m : Int} (hk : 0 ≤ k) (hm : 0 ≤ m) (hr : ∀ j, 0 ≤ j → 0 ≤ r j) (x : BB) : (prest r k m x).2 = x.2 + zsum r k m + m * (1 + k) := by
  have h := prest_n hk hr x m.toNat
  rw [Int.toNat_of_nonneg hm] at h
  exact h
theorem pblkB_n {f : Int → Int} (hf : ∀ j, -32768 ≤ f j ∧ f j ≤ 32767) {mu : Int} (hmu : -32768 ≤ mu ∧ mu ≤ 32767) {ch bl many i fn k : Int} (hs : 1 ≤ bsize ch bl many i) (h : fn = 4 ∨ ((0 ≤ fn ∧ fn ≤ 3) ∧ (0 ≤ k ∧ k ≤ 15))) (x : BB) : (pblkB f ch bl many mu i fn k x).2 = x.2 + (if fn = 4 then 4 else cost f ch bl many mu i fn k) := by
  unfold pblkB
  rcases h with rfl | h
  · rw [if_pos rfl, if_pos rfl, pnum_n (by decide) (by decide)]
    rfl
  · rw [if_neg (by omega), if_neg (by omega), prest_nI h.2.1 (by omega) (fun j _ => (rst_rng hf hmu ch fn _).1), pnum_n (by decide) h.2.1, pnum_n (by decide) h.1.1]
    unfold cost bcost
    omega
theorem prest_01 {r : Int → Int} {k : Int} {x : BB} (h : b01 x.1) : ∀ m : Nat, b01 (prestN r k m x).1
  | 0 => h
  | m + 1 => pnum_01 _ _ (prest_01 h m)
theorem pblkB_01 {f : Int → Int} {ch bl many mu i fn k : Int} {x : BB} (h : b01 x.1) : b01 (pblkB f ch bl many mu i fn k x).1 := by
  unfold pblkB
  split
  · exact pnum_01 _ _ h
  · exact prest_01 (pnum_01 _ _ (pnum_01 _ _ h)) _
theorem phead_n {ch bl many : Int} (hc : 1 ≤ ch ∧ ch ≤ 2) (hb : 1 ≤ bl ∧ bl ≤ 64) (hm : 0 ≤ many ∧ many ≤ 400) (w : Int → Int) : 0 ≤ (phead ch bl many w).2 ∧ (phead ch bl many w).2 ≤ 41 := by
  unfold phead
  rw [pnum_n (by decide) (by omega), pnum_n (by decide) (by omega), pnum_n (by decide) (by omega), plow_nI (by decide), plow_nI (by decide)]
  unfold nbits
  have e2 : p2 2 = 4 := rfl
  have e4 : p2 4 = 16 := rfl
  have e6 : p2 6 = 64 := rfl
  rw [e2, e4, e6]
  show 0 ≤ (0 : Int) + 8 + 8 + _ + _ + _ ∧ (0 : Int) + 8 + 8 + _ + _ + _ ≤ 41
  omega
theorem bmean_rng {f : Int → Int} (hf : ∀ j, -32768 ≤ f j ∧ f j ≤ 32767) {ch bl many i : Int} (hs : 1 ≤ bsize ch bl many i) : -32768 ≤ bmean f ch bl many i ∧ bmean f ch bl many i ≤ 32767 := by
  unfold bmean
  have h := bsum_rngI hf ch (bfirst ch bl i) (k := bsize ch bl many i) (by omega)
  exact rmean_rng hs h
theorem pblk_n {f : Int → Int} (hf : ∀ j, -32768 ≤ f j ∧ f j ≤ 32767) {ch bl many i : Int} (hmu : -32768 ≤ muOf f ch bl many i ∧ muOf f ch bl many i ≤ 32767) (hs : 1 ≤ bsize ch bl many i ∧ bsize ch bl many i ≤ 64) (x : BB) : (pblk f ch bl many i x).2 = x.2 + cB f ch bl many i := by
  unfold pblk cF cK
  have h := ch_ok hf hmu hs
  rw [pblkB_n hf hmu hs.1 (h.imp (fun h => h.1) id)]
  rfl
theorem cB_le {f : Int → Int} (hf : ∀ j, -32768 ≤ f j ∧ f j ≤ 32767) {ch bl many i : Int} (hmu : -32768 ≤ muOf f ch bl many i ∧ muOf f ch bl many i ≤ 32767) (hs : 1 ≤ bsize ch bl many i ∧ bsize ch bl many i ≤ 64) : 0 ≤ cB f ch bl many i ∧ cB f ch bl many i ≤ 27 * bsize ch bl many i := chB_le hf hmu hs
end
section
set_option maxHeartbeats 4000000 in
set_option maxRecDepth 100000 in
theorem mJ9_min_7cf53 (l : Launch) (X : GX) (a : Int) (b : Int) (ha : -2147483648 ≤ a ∧ a < 2147483648) (hb : -2147483648 ≤ b ∧ b < 2147483648) : Ct l yJ9_min_7cf53 cJ9_min_7cf53 2 (some .int) 0 0 0 0 X [.int (iI a), .int (iI b)] [] (fun1 (some (.int (iI (mnI a b)))) []) := by
  refine Ct_of (own := RJ9) (lv := [(0, .int (iI a)), (1, .int (iI b))]) (by decide +kernel) rfl (Nat.le_of_ble_eq_true rfl) rfl ?_
  intro p e s m args below meth c A cx hr hin
  refine J_iload_n cx dJ9_min_7cf53_0 rfl 0 rfl ?_
  refine J_iload_n cx dJ9_min_7cf53_1 rfl 1 rfl ?_
  refine J_icmp_gt (tgt := 9) cx dJ9_min_7cf53_2 (by decide) (by omega) (by omega) (fun h_2 => ?_) (fun h_2 => ?_)
  · skip
    refine J_iload_n cx dJ9_min_7cf53_9 rfl 1 rfl ?_
    refine J_top (b := (mnI a b)) (by unfold mnI; split <;> omega) ?_
    exact J_iret cx hr dJ9_min_7cf53_10 ⟨rfl, rfl⟩
  · skip
    refine J_iload_n cx dJ9_min_7cf53_5 rfl 0 rfl ?_
    refine J_goto (tgt := 10) cx dJ9_min_7cf53_6 (by decide) ?_
    refine J_top (b := (mnI a b)) (by unfold mnI; split <;> omega) ?_
    exact J_iret cx hr dJ9_min_7cf53_10 ⟨rfl, rfl⟩
set_option maxHeartbeats 4000000 in
set_option maxRecDepth 100000 in
theorem mJ9_floorDiv_7cf53 (l : Launch) (X : GX) (a : Int) (b : Int) (ha : -2147483648 ≤ a ∧ a < 2147483648) (hb : 0 < b ∧ b < 2147483648) : Ct l yJ9_floorDiv_7cf53 cJ9_floorDiv_7cf53 3 (some .int) 0 0 0 0 X [.int (iI a), .int (iI b)] [] (fun1 (some (.int (iI (a / b)))) []) := by
  refine Ct_of (own := RJ9) (lv := [(0, .int (iI a)), (1, .int (iI b))]) (by decide +kernel) rfl (Nat.le_of_ble_eq_true rfl) rfl ?_
  intro p e s m args below meth c A cx hr hin
  refine J_iload_n cx dJ9_floorDiv_7cf53_0 rfl 0 rfl ?_
  refine J_iload_n cx dJ9_floorDiv_7cf53_1 rfl 1 rfl ?_
  refine J_idivT cx dJ9_floorDiv_7cf53_2 (by omega) (by omega) ?_
  refine J_istore_n (lv' := [(2, .int (iI (Int.tdiv a b))), (0, .int (iI a)), (1, .int (iI b))]) cx dJ9_floorDiv_7cf53_3 rfl (by decide) rfl ?_
  refine J_iload_n cx dJ9_floorDiv_7cf53_4 rfl 1 rfl ?_
  refine J_iload_n cx dJ9_floorDiv_7cf53_5 rfl 2 rfl ?_
  refine J_ixor cx dJ9_floorDiv_7cf53_6 ?_
  refine J_if_ge (tgt := 21) cx dJ9_floorDiv_7cf53_7 (by decide) (xorI_rng _ _) (fun h_7 => ?_) (fun h_7 => ?_)
  · skip
    have h7 := (xorI_neg (a := a) (b := b) ha (by omega))
    refine J_iload_n cx dJ9_floorDiv_7cf53_21 rfl 0 rfl ?_
    refine J_top (b := (a / b)) (by first | (rw [Int.tdiv_eq_ediv_of_nonneg (by omega)]; done) | rw [← fdiv_of hb.1, if_neg (by omega)]) ?_
    exact J_iret cx hr dJ9_floorDiv_7cf53_22 ⟨rfl, rfl⟩
  · skip
    have h7 := (xorI_neg (a := a) (b := b) ha (by omega))
    have h8 : a < 0 := by omega
    have h9 := tdiv_neg h8 hb.1
    refine J_iload_n cx dJ9_floorDiv_7cf53_10 rfl 0 rfl ?_
    refine J_iload_n cx dJ9_floorDiv_7cf53_11 rfl 2 rfl ?_
    refine J_imul cx dJ9_floorDiv_7cf53_12 ?_
    refine J_iload_n cx dJ9_floorDiv_7cf53_13 rfl 1 rfl ?_
    refine J_icmp_eq (tgt := 21) cx dJ9_floorDiv_7cf53_14 (by decide) (tdiv_le ha hb.1) (by omega) (fun h_14 => ?_) (fun h_14 => ?_)
    · skip
      refine J_iload_n cx dJ9_floorDiv_7cf53_21 rfl 0 rfl ?_
      refine J_top (b := (a / b)) (by first | (rw [Int.tdiv_eq_ediv_of_nonneg (by omega)]; done) | rw [← fdiv_of hb.1, if_neg (by omega)]) ?_
      exact J_iret cx hr dJ9_floorDiv_7cf53_22 ⟨rfl, rfl⟩
    · skip
      refine J_iload_n cx dJ9_floorDiv_7cf53_17 rfl 0 rfl ?_
      refine J_iconst cx dJ9_floorDiv_7cf53_18 ?_
      refine J_isub cx dJ9_floorDiv_7cf53_19 ?_
      refine J_top (b := (a / b)) (by rw [← fdiv_of hb.1, if_pos (by omega)]) ?_
      exact J_iret cx hr dJ9_floorDiv_7cf53_20 ⟨rfl, rfl⟩
set_option maxHeartbeats 4000000 in
set_option maxRecDepth 100000 in
theorem mX7_roundedMean (l : Launch) (X : GX) (sm : Int) (k : Int) (hs : -1000000000 ≤ sm ∧ sm < 1000000000) (hk : 1 ≤ k ∧ k < 1000000) : Ct l yX7_roundedMean cX7_roundedMean 2 (some .int) 1 22 0 0 X [.int (iI sm), .int (iI k)] [] (fun1 (some (.int (iI (rmean sm k)))) []) := by
  refine Ct_of (own := RX7) (lv := [(0, .int (iI sm)), (1, .int (iI k))]) (by decide +kernel) rfl (Nat.le_of_ble_eq_true rfl) rfl ?_
  intro p e s m args below meth c A cx hr hin
  refine J_iload_n cx dX7_roundedMean_0 rfl 1 rfl ?_
  refine J_iconst cx dX7_roundedMean_1 ?_
  refine J_icmp_ge (tgt := 9) cx dX7_roundedMean_2 (by decide) (by omega) (by omega) (fun h_2 => ?_) (fun h_2 => ?_)
  · skip
    refine J_iload_n cx dX7_roundedMean_9 rfl 0 rfl ?_
    refine J_iload_n cx dX7_roundedMean_10 rfl 1 rfl ?_
    refine J_iconst cx dX7_roundedMean_11 ?_
    refine J_idiv cx dX7_roundedMean_12 (by omega) (by omega) ?_
    refine J_iadd cx dX7_roundedMean_13 ?_
    refine J_iload_n cx dX7_roundedMean_14 rfl 1 rfl ?_
    refine J_callS cx (As := [.int (iI (sm + (k / 2))), .int (iI k)]) (rest := []) (mJ9_floorDiv_7cf53 l X (sm + (k / 2)) k (by omega) (by omega)) T299 T297 T298 T11 hd_J9_floorDiv_7cf53 rfl ⟨Nat.le_of_ble_eq_true rfl, Nat.le_of_ble_eq_true rfl⟩ (Nat.le_of_ble_eq_true rfl) ⟨Nat.le_of_ble_eq_true rfl, Nat.le_of_ble_eq_true rfl⟩ [] [] rfl rfl rfl rfl rfl (by decide) dX7_roundedMean_15 rfl (J_f (ws' := []) (st' := [.int (iI ((sm + (k / 2)) / k))]) [] rfl rfl rfl rfl ?_)
    refine J_top (b := (rmean sm k)) (rfl) ?_
    exact J_iret cx hr dX7_roundedMean_18 ⟨rfl, rfl⟩
  · exfalso; omega
set_option maxHeartbeats 4000000 in
set_option maxRecDepth 100000 in
theorem mX7_isSample (l : Launch) (X : GX) (v : Int) (hv : -2147483648 ≤ v ∧ v < 2147483648) : Ct l yX7_isSample cX7_isSample 1 (some .boolean) 0 0 0 0 X [.int (iI v)] [] (fun1 (some (.int (iI (smpB v)))) []) := by
  refine Ct_of (own := RX7) (lv := [(0, .int (iI v))]) (by decide +kernel) rfl (Nat.le_of_ble_eq_true rfl) rfl ?_
  intro p e s m args below meth c A cx hr hin
  refine J_iload_n cx dX7_isSample_0 rfl 0 rfl ?_
  refine J_sipush cx dX7_isSample_1 (by decide) ?_
  refine J_icmp_lt (tgt := 18) cx dX7_isSample_4 (by decide) (by omega) (by omega) (fun h_4 => ?_) (fun h_4 => ?_)
  · skip
    refine J_iconst cx dX7_isSample_18 ?_
    refine J_top (b := (smpB v)) (by unfold smpB; split <;> omega) ?_
    exact J_zret cx hr (by unfold smpB; split <;> omega) dX7_isSample_19 ⟨rfl, rfl⟩
  · skip
    refine J_iload_n cx dX7_isSample_7 rfl 0 rfl ?_
    refine J_sipush cx dX7_isSample_8 (by decide) ?_
    refine J_icmp_gt (tgt := 18) cx dX7_isSample_11 (by decide) (by omega) (by omega) (fun h_11 => ?_) (fun h_11 => ?_)
    · skip
      refine J_iconst cx dX7_isSample_18 ?_
      refine J_top (b := (smpB v)) (by unfold smpB; split <;> omega) ?_
      exact J_zret cx hr (by unfold smpB; split <;> omega) dX7_isSample_19 ⟨rfl, rfl⟩
    · skip
      refine J_iconst cx dX7_isSample_14 ?_
      refine J_goto (tgt := 19) cx dX7_isSample_15 (by decide) ?_
      refine J_top (b := (smpB v)) (by unfold smpB; split <;> omega) ?_
      exact J_zret cx hr (by unfold smpB; split <;> omega) dX7_isSample_19 ⟨rfl, rfl⟩
set_option maxHeartbeats 4000000 in
set_option maxRecDepth 100000 in
theorem mX7_numberBits (l : Launch) (X : GX) (k : Int) (v : Int) (hk : 0 ≤ k ∧ k < 32) (hv : -2147483648 ≤ v ∧ v < 2147483648) : Ct l yX7_numberBits cX7_numberBits 2 (some .int) 0 0 0 0 X [.int (iI k), .int (iI v)] [] (fun1 (some (.int (iI (nbits k v)))) []) := by
  refine Ct_of (own := RX7) (lv := [(0, .int (iI k)), (1, .int (iI v))]) (by decide +kernel) rfl (Nat.le_of_ble_eq_true rfl) rfl ?_
  intro p e s m args below meth c A cx hr hin
  refine J_iload_n cx dX7_numberBits_0 rfl 1 rfl ?_
  refine J_iload_n cx dX7_numberBits_1 rfl 0 rfl ?_
  refine J_ishr cx dX7_numberBits_2 (by omega) (by omega) ?_
  refine J_iconst cx dX7_numberBits_3 ?_
  refine J_iadd cx dX7_numberBits_4 ?_
  refine J_iload_n cx dX7_numberBits_5 rfl 0 rfl ?_
  refine J_iadd cx dX7_numberBits_6 ?_
  refine J_top (b := (nbits k v)) (rfl) ?_
  exact J_iret cx hr dX7_numberBits_7 ⟨rfl, rfl⟩
set_option maxHeartbeats 4000000 in
set_option maxRecDepth 100000 in
theorem mX7_fold (l : Launch) (X : GX) (v : Int) (hv : -2147483648 ≤ v ∧ v < 2147483648) : Ct l yX7_fold cX7_fold 1 (some .int) 0 0 0 0 X [.int (iI v)] [] (fun1 (some (.int (iI (foldI v)))) []) := by
  refine Ct_of (own := RX7) (lv := [(0, .int (iI v))]) (by decide +kernel) rfl (Nat.le_of_ble_eq_true rfl) rfl ?_
  intro p e s m args below meth c A cx hr hin
  refine J_iload_n cx dX7_fold_0 rfl 0 rfl ?_
  refine J_if_ge (tgt := 13) cx dX7_fold_1 (by decide) (by omega) (fun h_1 => ?_) (fun h_1 => ?_)
  · skip
    refine J_iconst cx dX7_fold_13 ?_
    refine J_iload_n cx dX7_fold_14 rfl 0 rfl ?_
    refine J_imul cx dX7_fold_15 ?_
    refine J_top (b := (foldI v)) (by unfold foldI; split <;> omega) ?_
    exact J_iret cx hr dX7_fold_16 ⟨rfl, rfl⟩
  · skip
    refine J_bipush cx dX7_fold_4 (by decide) ?_
    refine J_iload_n cx dX7_fold_6 rfl 0 rfl ?_
    refine J_imul cx dX7_fold_7 ?_
    refine J_iconst cx dX7_fold_8 ?_
    refine J_isub cx dX7_fold_9 ?_
    refine J_goto (tgt := 16) cx dX7_fold_10 (by decide) ?_
    refine J_top (b := (foldI v)) (by unfold foldI; split <;> omega) ?_
    exact J_iret cx hr dX7_fold_16 ⟨rfl, rfl⟩
set_option maxHeartbeats 4000000 in
set_option maxRecDepth 100000 in
theorem mX7_unfold (l : Launch) (X : GX) (u : Int) (hu : 0 ≤ u ∧ u < 2147483648) : Ct l yX7_unfold cX7_unfold 1 (some .int) 0 0 0 0 X [.int (iI u)] [] (fun1 (some (.int (iI (unfI u)))) []) := by
  refine Ct_of (own := RX7) (lv := [(0, .int (iI u))]) (by decide +kernel) rfl (Nat.le_of_ble_eq_true rfl) rfl ?_
  intro p e s m args below meth c A cx hr hin
  refine J_iload_n cx dX7_unfold_0 rfl 0 rfl ?_
  refine J_iconst cx dX7_unfold_1 ?_
  refine J_irem cx dX7_unfold_2 (by omega) (by omega) ?_
  refine J_if_ne (tgt := 12) cx dX7_unfold_3 (by decide) (by omega) (fun h_3 => ?_) (fun h_3 => ?_)
  · skip
    refine J_iload_n cx dX7_unfold_12 rfl 0 rfl ?_
    refine J_iconst cx dX7_unfold_13 ?_
    refine J_idiv cx dX7_unfold_14 (by omega) (by omega) ?_
    refine J_ineg cx dX7_unfold_15 ?_
    refine J_iconst cx dX7_unfold_16 ?_
    refine J_isub cx dX7_unfold_17 ?_
    refine J_top (b := (unfI u)) (by unfold unfI; split <;> omega) ?_
    exact J_iret cx hr dX7_unfold_18 ⟨rfl, rfl⟩
  · skip
    refine J_iload_n cx dX7_unfold_6 rfl 0 rfl ?_
    refine J_iconst cx dX7_unfold_7 ?_
    refine J_idiv cx dX7_unfold_8 (by omega) (by omega) ?_
    refine J_goto (tgt := 18) cx dX7_unfold_9 (by decide) ?_
    refine J_top (b := (unfI u)) (by unfold unfI; split <;> omega) ?_
    exact J_iret cx hr dX7_unfold_18 ⟨rfl, rfl⟩
end
section
set_option maxHeartbeats 4000000 in
set_option maxRecDepth 100000 in
theorem mX4_restart (l : Launch) (X : GX) (h : Nat) (a : Nat) (f : Int → Int) (ch : Int) (bl : Int) (n : Int) (ch2 : Int) (bl2 : Int) : Ct l yX4_restart cX4_restart 3 none 0 0 0 0 X [.ref h, .int (iI ch2), .int (iI bl2)] [(h, .inr (4, [.ref a, .int (iI ch), .int (iI bl), .int (iI n)])), (a, .inl (X.2.1, 800, .inl (aI f)))] (fun1 none [(h, .inr (4, [.ref a, .int (iI ch2), .int (iI bl2), .int (iI 0)])), (a, .inl (X.2.1, 800, .inl (aI f)))]) := by
  refine Ct_of (own := RX4) (lv := [(0, .ref h), (1, .int (iI ch2)), (2, .int (iI bl2))]) (by decide +kernel) rfl (Nat.le_of_ble_eq_true rfl) rfl ?_
  intro p e s m args below meth c A cx hr hin
  refine J_aload_n cx dX4_restart_0 rfl 0 rfl ?_
  refine J_iload_n cx dX4_restart_1 rfl 1 rfl ?_
  refine J_put (ty := .int) (ws' := [(h, .inr (4, [.ref a, .int (iI ch2), .int (iI bl), .int (iI n)])), (a, .inl (X.2.1, 800, .inl (aI f)))]) cx inC4 tyX4_ok nmX4 0 rfl rfl 1 (by decide) T27 rfl rfl (by decide +kernel) (rfl) (rfl) (Nat.le_of_ble_eq_true rfl) rfl dX4_restart_2 ?_
  refine J_aload_n cx dX4_restart_5 rfl 0 rfl ?_
  refine J_iload_n cx dX4_restart_6 rfl 2 rfl ?_
  refine J_put (ty := .int) (ws' := [(h, .inr (4, [.ref a, .int (iI ch2), .int (iI bl2), .int (iI n)])), (a, .inl (X.2.1, 800, .inl (aI f)))]) cx inC4 tyX4_ok nmX4 0 rfl rfl 2 (by decide) T32 rfl rfl (by decide +kernel) (rfl) (rfl) (Nat.le_of_ble_eq_true rfl) rfl dX4_restart_7 ?_
  refine J_aload_n cx dX4_restart_10 rfl 0 rfl ?_
  refine J_iconst cx dX4_restart_11 ?_
  refine J_put (ty := .int) (ws' := [(h, .inr (4, [.ref a, .int (iI ch2), .int (iI bl2), .int (iI 0)])), (a, .inl (X.2.1, 800, .inl (aI f)))]) cx inC4 tyX4_ok nmX4 0 rfl rfl 3 (by decide) T34 rfl rfl (by decide +kernel) (rfl) (rfl) (Nat.le_of_ble_eq_true rfl) rfl dX4_restart_12 ?_
  exact J_vret cx hr dX4_restart_15 ⟨rfl, rfl⟩
set_option maxHeartbeats 4000000 in
set_option maxRecDepth 100000 in
theorem mX4_each (l : Launch) (X : GX) (h : Nat) (a : Nat) (f : Int → Int) (ch : Int) (bl : Int) (n : Int) (hc : 1 ≤ ch ∧ ch ≤ 2) (hn : 0 ≤ n ∧ n ≤ 800) : Ct l yX4_each cX4_each 1 (some .int) 0 0 0 0 X [.ref h] [(h, .inr (4, [.ref a, .int (iI ch), .int (iI bl), .int (iI n)])), (a, .inl (X.2.1, 800, .inl (aI f)))] (fun1 (some (.int (iI (n / ch)))) [(h, .inr (4, [.ref a, .int (iI ch), .int (iI bl), .int (iI n)])), (a, .inl (X.2.1, 800, .inl (aI f)))]) := by
  refine Ct_of (own := RX4) (lv := [(0, .ref h)]) (by decide +kernel) rfl (Nat.le_of_ble_eq_true rfl) rfl ?_
  intro p e s m args below meth c A cx hr hin
  refine J_aload_n cx dX4_each_0 rfl 0 rfl ?_
  refine J_get cx inC4 0 rfl rfl 1 (by decide) T27 rfl rfl dX4_each_1 ?_
  refine J_iconst cx dX4_each_4 ?_
  refine J_icmp_ge (tgt := 12) cx dX4_each_5 (by decide) (by omega) (by omega) (fun h_5 => ?_) (fun h_5 => ?_)
  · skip
    refine J_aload_n cx dX4_each_12 rfl 0 rfl ?_
    refine J_get cx inC4 0 rfl rfl 3 (by decide) T34 rfl rfl dX4_each_13 ?_
    refine J_aload_n cx dX4_each_16 rfl 0 rfl ?_
    refine J_get cx inC4 0 rfl rfl 1 (by decide) T27 rfl rfl dX4_each_17 ?_
    refine J_idiv cx dX4_each_20 (by omega) (by omega) ?_
    exact J_iret cx hr dX4_each_21 ⟨rfl, rfl⟩
  · exfalso; omega
set_option maxHeartbeats 4000000 in
set_option maxRecDepth 100000 in
theorem mX4_wholeSize (l : Launch) (X : GX) (h : Nat) (a : Nat) (f : Int → Int) (ch : Int) (bl : Int) (n : Int) (hc : 1 ≤ ch ∧ ch ≤ 2) (hn : 0 ≤ n ∧ n ≤ 800) : Ct l yX4_wholeSize cX4_wholeSize 1 (some .int) 1 20 0 0 X [.ref h] [(h, .inr (4, [.ref a, .int (iI ch), .int (iI bl), .int (iI n)])), (a, .inl (X.2.1, 800, .inl (aI f)))] (fun1 (some (.int (iI (n / ch * ch)))) [(h, .inr (4, [.ref a, .int (iI ch), .int (iI bl), .int (iI n)])), (a, .inl (X.2.1, 800, .inl (aI f)))]) := by
  refine Ct_of (own := RX4) (lv := [(0, .ref h)]) (by decide +kernel) rfl (Nat.le_of_ble_eq_true rfl) rfl ?_
  intro p e s m args below meth c A cx hr hin
  refine J_aload_n cx dX4_wholeSize_0 rfl 0 rfl ?_
  refine J_callV (C := RX4) (T := TX4) (N := 4) cx (As := []) (rest := []) (mX4_each l X h a f ch bl n (by omega) (by omega)) T232 T229 T230 T231 T2 ⟨rfl, hd_X4_each⟩ rfl ⟨Nat.le_of_ble_eq_true rfl, Nat.le_of_ble_eq_true rfl⟩ (Nat.le_of_ble_eq_true rfl) ⟨Nat.le_of_ble_eq_true rfl, Nat.le_of_ble_eq_true rfl⟩ [0, 1] [] rfl rfl rfl rfl rfl (by decide) 0 rfl rfl dX4_wholeSize_1 rfl (J_f (ws' := [(h, .inr (4, [.ref a, .int (iI ch), .int (iI bl), .int (iI n)])), (a, .inl (X.2.1, 800, .inl (aI f)))]) (st' := [.int (iI (n / ch))]) [0, 1] rfl rfl rfl rfl ?_)
  refine J_aload_n cx dX4_wholeSize_4 rfl 0 rfl ?_
  refine J_get cx inC4 0 rfl rfl 1 (by decide) T27 rfl rfl dX4_wholeSize_5 ?_
  refine J_imul cx dX4_wholeSize_8 ?_
  refine J_top (b := (n / ch * ch)) (by omega) ?_
  exact J_iret cx hr dX4_wholeSize_9 ⟨rfl, rfl⟩
set_option maxHeartbeats 4000000 in
set_option maxRecDepth 100000 in
theorem mX4_lay (l : Launch) (X : GX) (h : Nat) (a : Nat) (f : Int → Int) (ch : Int) (bl : Int) (n : Int) (ch2 : Int) (bl2 : Int) (ea : Int) (h2 : 0 ≤ ea * ch2 ∧ ea * ch2 ≤ 800) : Ct l yX4_lay cX4_lay 4 none 1 22 0 0 X [.ref h, .int (iI ch2), .int (iI bl2), .int (iI ea)] [(h, .inr (4, [.ref a, .int (iI ch), .int (iI bl), .int (iI n)])), (a, .inl (X.2.1, 800, .inl (aI f)))] (fun1 none [(h, .inr (4, [.ref a, .int (iI ch2), .int (iI bl2), .int (iI (ea * ch2))])), (a, .inl (X.2.1, 800, .inl (aI f)))]) := by
  refine Ct_of (own := RX4) (lv := [(0, .ref h), (1, .int (iI ch2)), (2, .int (iI bl2)), (3, .int (iI ea))]) (by decide +kernel) rfl (Nat.le_of_ble_eq_true rfl) rfl ?_
  intro p e s m args below meth c A cx hr hin
  refine J_aload_n cx dX4_lay_0 rfl 0 rfl ?_
  refine J_iload_n cx dX4_lay_1 rfl 1 rfl ?_
  refine J_iload_n cx dX4_lay_2 rfl 2 rfl ?_
  refine J_callV (C := RX4) (T := TX4) (N := 4) cx (As := [.int (iI ch2), .int (iI bl2)]) (rest := []) (mX4_restart l X h a f ch bl n ch2 bl2 ) T200 T224 T198 T199 T2 ⟨rfl, hd_X4_restart⟩ rfl ⟨Nat.le_of_ble_eq_true rfl, Nat.le_of_ble_eq_true rfl⟩ (Nat.le_of_ble_eq_true rfl) ⟨Nat.le_of_ble_eq_true rfl, Nat.le_of_ble_eq_true rfl⟩ [0, 1] [] rfl rfl rfl rfl rfl (by decide) 0 rfl rfl dX4_lay_3 rfl (J_f (ws' := [(h, .inr (4, [.ref a, .int (iI ch2), .int (iI bl2), .int (iI 0)])), (a, .inl (X.2.1, 800, .inl (aI f)))]) (st' := []) [0, 1] rfl rfl rfl rfl ?_)
  refine J_aload_n cx dX4_lay_6 rfl 0 rfl ?_
  refine J_iload_n cx dX4_lay_7 rfl 3 rfl ?_
  refine J_iload_n cx dX4_lay_8 rfl 1 rfl ?_
  refine J_imul cx dX4_lay_9 ?_
  refine J_sipush cx dX4_lay_10 (by decide) ?_
  refine J_callS cx (As := [.int (iI (ea * ch2)), .int (iI 800)]) (rest := [.ref h]) (mJ9_min_7cf53 l X (ea * ch2) 800 (by omega) (by omega)) T242 T281 T241 T11 hd_J9_min_7cf53 rfl ⟨Nat.le_of_ble_eq_true rfl, Nat.le_of_ble_eq_true rfl⟩ (Nat.le_of_ble_eq_true rfl) ⟨Nat.le_of_ble_eq_true rfl, Nat.le_of_ble_eq_true rfl⟩ [] [0, 1] rfl rfl rfl rfl rfl (by decide) dX4_lay_13 rfl (J_f (ws' := [(h, .inr (4, [.ref a, .int (iI ch2), .int (iI bl2), .int (iI 0)])), (a, .inl (X.2.1, 800, .inl (aI f)))]) (st' := [.int (iI (mnI (ea * ch2) 800)), .ref h]) [0, 1] rfl rfl rfl rfl ?_)
  refine J_put (ty := .int) (ws' := [(h, .inr (4, [.ref a, .int (iI ch2), .int (iI bl2), .int (iI (mnI (ea * ch2) 800))])), (a, .inl (X.2.1, 800, .inl (aI f)))]) cx inC4 tyX4_ok nmX4 0 rfl rfl 3 (by decide) T34 rfl rfl (by decide +kernel) (rfl) (rfl) (Nat.le_of_ble_eq_true rfl) rfl dX4_lay_16 ?_
  refine J_ws (ws' := [(h, .inr (4, [.ref a, .int (iI ch2), .int (iI bl2), .int (iI (ea * ch2))])), (a, .inl (X.2.1, 800, .inl (aI f)))]) (by rw [show (mnI (ea * ch2) 800) = ea * ch2 from by unfold mnI; split <;> omega]) ?_
  exact J_vret cx hr dX4_lay_19 ⟨rfl, rfl⟩
set_option maxHeartbeats 4000000 in
set_option maxRecDepth 100000 in
theorem mX4_append (l : Launch) (X : GX) (h : Nat) (a : Nat) (f : Int → Int) (ch : Int) (bl : Int) (n : Int) (v : Int) (hc : 1 ≤ ch ∧ ch ≤ 2) (hn : 0 ≤ n ∧ n ≤ 800) : Ct l yX4_append cX4_append 2 (some .boolean) 0 0 0 0 X [.ref h, .int (iI v)] [(h, .inr (4, [.ref a, .int (iI ch), .int (iI bl), .int (iI n)])), (a, .inl (X.2.1, 800, .inl (aI f)))] (fun1 (some (.int (iI (if n < ch * 400 then 1 else 0)))) [(h, .inr (4, [.ref a, .int (iI ch), .int (iI bl), .int (iI (if n < ch * 400 then n + 1 else n))])), (a, .inl (X.2.1, 800, .inl (aI (if n < ch * 400 then upI f n v else f))))]) := by
  refine Ct_of (own := RX4) (lv := [(0, .ref h), (1, .int (iI v))]) (by decide +kernel) rfl (Nat.le_of_ble_eq_true rfl) rfl ?_
  intro p e s m args below meth c A cx hr hin
  refine J_aload_n cx dX4_append_0 rfl 0 rfl ?_
  refine J_get cx inC4 0 rfl rfl 3 (by decide) T34 rfl rfl dX4_append_1 ?_
  refine J_aload_n cx dX4_append_4 rfl 0 rfl ?_
  refine J_get cx inC4 0 rfl rfl 1 (by decide) T27 rfl rfl dX4_append_5 ?_
  refine J_sipush cx dX4_append_8 (by decide) ?_
  refine J_imul cx dX4_append_11 ?_
  refine J_icmp_ge (tgt := 25) cx dX4_append_12 (by decide) (by omega) (by omega) (fun h_12 => ?_) (fun h_12 => ?_)
  · skip
    refine J_iconst cx dX4_append_25 ?_
    refine J_ws (ws' := [(h, .inr (4, [.ref a, .int (iI ch), .int (iI bl), .int (iI (if n < ch * 400 then n + 1 else n))])), (a, .inl (X.2.1, 800, .inl (aI (if n < ch * 400 then upI f n v else f))))]) (by rw [← show (n) = if n < ch * 400 then n + 1 else n from by split <;> first | rfl | omega, ← show (f) = if n < ch * 400 then upI f n v else f from by split <;> first | rfl | omega]) ?_
    refine J_top (b := (if n < ch * 400 then 1 else 0)) (by split <;> first | rfl | omega) ?_
    exact J_zret cx hr (by split <;> omega) dX4_append_26 ⟨rfl, rfl⟩
  · skip
    refine J_aload_n cx dX4_append_15 rfl 0 rfl ?_
    refine J_get cx inC4 0 rfl rfl 3 (by decide) T34 rfl rfl dX4_append_16 ?_
    refine J_sipush cx dX4_append_19 (by decide) ?_
    refine J_icmp_lt (tgt := 27) cx dX4_append_22 (by decide) (by omega) (by omega) (fun h_22 => ?_) (fun h_22 => ?_)
    · skip
      refine J_aload_n cx dX4_append_27 rfl 0 rfl ?_
      refine J_get cx inC4 0 rfl rfl 0 (by decide) T26 rfl rfl dX4_append_28 ?_
      refine J_aload_n cx dX4_append_31 rfl 0 rfl ?_
      refine J_get cx inC4 0 rfl rfl 3 (by decide) T34 rfl rfl dX4_append_32 ?_
      refine J_iload_n cx dX4_append_35 rfl 1 rfl ?_
      refine J_iast (ws' := [(h, .inr (4, [.ref a, .int (iI ch), .int (iI bl), .int (iI n)])), (a, .inl (X.2.1, 800, .inl (aI (upI f n v))))]) cx 1 rfl (by omega) (by decide) rfl dX4_append_36 ?_
      refine J_aload_n cx dX4_append_37 rfl 0 rfl ?_
      refine J_dup cx dX4_append_38 rfl ?_
      refine J_get cx inC4 0 rfl rfl 3 (by decide) T34 rfl rfl dX4_append_39 ?_
      refine J_iconst cx dX4_append_42 ?_
      refine J_iadd cx dX4_append_43 ?_
      refine J_put (ty := .int) (ws' := [(h, .inr (4, [.ref a, .int (iI ch), .int (iI bl), .int (iI (n + 1))])), (a, .inl (X.2.1, 800, .inl (aI (upI f n v))))]) cx inC4 tyX4_ok nmX4 0 rfl rfl 3 (by decide) T34 rfl rfl (by decide +kernel) (rfl) (rfl) (Nat.le_of_ble_eq_true rfl) rfl dX4_append_44 ?_
      refine J_iconst cx dX4_append_47 ?_
      refine J_ws (ws' := [(h, .inr (4, [.ref a, .int (iI ch), .int (iI bl), .int (iI (if n < ch * 400 then n + 1 else n))])), (a, .inl (X.2.1, 800, .inl (aI (if n < ch * 400 then upI f n v else f))))]) (by rw [← show (n + 1) = if n < ch * 400 then n + 1 else n from by split <;> first | rfl | omega, ← show (upI f n v) = if n < ch * 400 then upI f n v else f from by split <;> first | rfl | omega]) ?_
      refine J_top (b := (if n < ch * 400 then 1 else 0)) (by split <;> first | rfl | omega) ?_
      exact J_zret cx hr (by split <;> omega) dX4_append_48 ⟨rfl, rfl⟩
    · skip
      refine J_iconst cx dX4_append_25 ?_
      refine J_ws (ws' := [(h, .inr (4, [.ref a, .int (iI ch), .int (iI bl), .int (iI (if n < ch * 400 then n + 1 else n))])), (a, .inl (X.2.1, 800, .inl (aI (if n < ch * 400 then upI f n v else f))))]) (by rw [← show (n) = if n < ch * 400 then n + 1 else n from by split <;> first | rfl | omega, ← show (f) = if n < ch * 400 then upI f n v else f from by split <;> first | rfl | omega]) ?_
      refine J_top (b := (if n < ch * 400 then 1 else 0)) (by split <;> first | rfl | omega) ?_
      exact J_zret cx hr (by split <;> omega) dX4_append_26 ⟨rfl, rfl⟩
set_option maxHeartbeats 4000000 in
set_option maxRecDepth 100000 in
theorem mX4_copyWhole (l : Launch) (X : GX) (h : Nat) (a : Nat) (f : Int → Int) (ch : Int) (bl : Int) (n : Int) (h2 : Nat) (a2 : Nat) (f2 : Int → Int) (ch2 : Int) (bl2 : Int) (n2 : Int) (hc : 1 ≤ ch2 ∧ ch2 ≤ 2) (hn : 0 ≤ n2 ∧ n2 ≤ 800) : Ct l yX4_copyWhole cX4_copyWhole 2 none 2 40 0 0 X [.ref h, .ref h2] [(h, .inr (4, [.ref a, .int (iI ch), .int (iI bl), .int (iI n)])), (a, .inl (X.2.1, 800, .inl (aI f))), (h2, .inr (4, [.ref a2, .int (iI ch2), .int (iI bl2), .int (iI n2)])), (a2, .inl (X.2.1, 800, .inl (aI f2)))] (fun1 none [(h, .inr (4, [.ref a, .int (iI ch2), .int (iI bl2), .int (iI (n2 / ch2 * ch2))])), (a, .inl (X.2.1, 800, .inl (aI (cpyI f2 f (n2 / ch2 * ch2))))), (h2, .inr (4, [.ref a2, .int (iI ch2), .int (iI bl2), .int (iI n2)])), (a2, .inl (X.2.1, 800, .inl (aI f2)))]) := by
  refine Ct_of (own := RX4) (lv := [(0, .ref h), (1, .ref h2)]) (by decide +kernel) rfl (Nat.le_of_ble_eq_true rfl) rfl ?_
  intro p e s m args below meth c A cx hr hin
  refine J_aload_n cx dX4_copyWhole_0 rfl 0 rfl ?_
  refine J_aload_n cx dX4_copyWhole_1 rfl 1 rfl ?_
  refine J_get cx inC4 2 rfl rfl 1 (by decide) T27 rfl rfl dX4_copyWhole_2 ?_
  refine J_aload_n cx dX4_copyWhole_5 rfl 1 rfl ?_
  refine J_get cx inC4 2 rfl rfl 2 (by decide) T32 rfl rfl dX4_copyWhole_6 ?_
  refine J_callV (C := RX4) (T := TX4) (N := 4) cx (As := [.int (iI ch2), .int (iI bl2)]) (rest := []) (mX4_restart l X h a f ch bl n ch2 bl2 ) T200 T224 T198 T199 T2 ⟨rfl, hd_X4_restart⟩ rfl ⟨Nat.le_of_ble_eq_true rfl, Nat.le_of_ble_eq_true rfl⟩ (Nat.le_of_ble_eq_true rfl) ⟨Nat.le_of_ble_eq_true rfl, Nat.le_of_ble_eq_true rfl⟩ [0, 1] [2, 3] rfl rfl rfl rfl rfl (by decide) 0 rfl rfl dX4_copyWhole_9 rfl (J_f (ws' := [(h, .inr (4, [.ref a, .int (iI ch2), .int (iI bl2), .int (iI 0)])), (a, .inl (X.2.1, 800, .inl (aI f))), (h2, .inr (4, [.ref a2, .int (iI ch2), .int (iI bl2), .int (iI n2)])), (a2, .inl (X.2.1, 800, .inl (aI f2)))]) (st' := []) [2, 3, 0, 1] rfl rfl rfl rfl ?_)
  refine J_aload_n cx dX4_copyWhole_12 rfl 0 rfl ?_
  refine J_aload_n cx dX4_copyWhole_13 rfl 1 rfl ?_
  refine J_callV (C := RX4) (T := TX4) (N := 4) cx (As := []) (rest := [.ref h]) (mX4_wholeSize l X h2 a2 f2 ch2 bl2 n2 (by omega) (by omega)) T228 T225 T226 T227 T2 ⟨rfl, hd_X4_wholeSize⟩ rfl ⟨Nat.le_of_ble_eq_true rfl, Nat.le_of_ble_eq_true rfl⟩ (Nat.le_of_ble_eq_true rfl) ⟨Nat.le_of_ble_eq_true rfl, Nat.le_of_ble_eq_true rfl⟩ [2, 3] [0, 1] rfl rfl rfl rfl rfl (by decide) 2 rfl rfl dX4_copyWhole_14 rfl (J_f (ws' := [(h, .inr (4, [.ref a, .int (iI ch2), .int (iI bl2), .int (iI 0)])), (a, .inl (X.2.1, 800, .inl (aI f))), (h2, .inr (4, [.ref a2, .int (iI ch2), .int (iI bl2), .int (iI n2)])), (a2, .inl (X.2.1, 800, .inl (aI f2)))]) (st' := [.int (iI (n2 / ch2 * ch2)), .ref h]) [0, 1, 2, 3] rfl rfl rfl rfl ?_)
  refine J_put (ty := .int) (ws' := [(h, .inr (4, [.ref a, .int (iI ch2), .int (iI bl2), .int (iI (n2 / ch2 * ch2))])), (a, .inl (X.2.1, 800, .inl (aI f))), (h2, .inr (4, [.ref a2, .int (iI ch2), .int (iI bl2), .int (iI n2)])), (a2, .inl (X.2.1, 800, .inl (aI f2)))]) cx inC4 tyX4_ok nmX4 0 rfl rfl 3 (by decide) T34 rfl rfl (by decide +kernel) (rfl) (rfl) (Nat.le_of_ble_eq_true rfl) rfl dX4_copyWhole_17 ?_
  refine J_aload_n cx dX4_copyWhole_20 rfl 1 rfl ?_
  refine J_get cx inC4 2 rfl rfl 0 (by decide) T26 rfl rfl dX4_copyWhole_21 ?_
  refine J_iconst cx dX4_copyWhole_24 ?_
  refine J_aload_n cx dX4_copyWhole_25 rfl 0 rfl ?_
  refine J_get cx inC4 0 rfl rfl 0 (by decide) T26 rfl rfl dX4_copyWhole_26 ?_
  refine J_iconst cx dX4_copyWhole_29 ?_
  refine J_aload_n cx dX4_copyWhole_30 rfl 0 rfl ?_
  refine J_get cx inC4 0 rfl rfl 3 (by decide) T34 rfl rfl dX4_copyWhole_31 ?_
  refine J_copyI (ws' := [(h, .inr (4, [.ref a, .int (iI ch2), .int (iI bl2), .int (iI (n2 / ch2 * ch2))])), (a, .inl (X.2.1, 800, .inl (aI (cpyI f2 f (n2 / ch2 * ch2))))), (h2, .inr (4, [.ref a2, .int (iI ch2), .int (iI bl2), .int (iI n2)])), (a2, .inl (X.2.1, 800, .inl (aI f2)))]) cx T233 T235 T234 T10 3 1 rfl rfl (by rcases (show ch2 = 1 ∨ ch2 = 2 by omega) with e1 | e1 <;> subst e1 <;> omega) (by decide) (by decide) (fun _ _ => rfl) rfl (Nat.le_of_ble_eq_true rfl) (Nat.le_of_ble_eq_true rfl) (by decide) dX4_copyWhole_34 ?_
  exact J_vret cx hr dX4_copyWhole_37 ⟨rfl, rfl⟩
set_option maxHeartbeats 4000000 in
set_option maxRecDepth 100000 in
theorem mX4_channelOf (l : Launch) (X : GX) (h : Nat) (a : Nat) (f : Int → Int) (ch : Int) (bl : Int) (n : Int) (i : Int) (hc : 1 ≤ ch ∧ ch ≤ 2) (hi : 0 ≤ i ∧ i < 100000) : Ct l yX4_channelOf cX4_channelOf 2 (some .int) 0 0 0 0 X [.ref h, .int (iI i)] [(h, .inr (4, [.ref a, .int (iI ch), .int (iI bl), .int (iI n)])), (a, .inl (X.2.1, 800, .inl (aI f)))] (fun1 (some (.int (iI (i % ch)))) [(h, .inr (4, [.ref a, .int (iI ch), .int (iI bl), .int (iI n)])), (a, .inl (X.2.1, 800, .inl (aI f)))]) := by
  refine Ct_of (own := RX4) (lv := [(0, .ref h), (1, .int (iI i))]) (by decide +kernel) rfl (Nat.le_of_ble_eq_true rfl) rfl ?_
  intro p e s m args below meth c A cx hr hin
  refine J_aload_n cx dX4_channelOf_0 rfl 0 rfl ?_
  refine J_get cx inC4 0 rfl rfl 1 (by decide) T27 rfl rfl dX4_channelOf_1 ?_
  refine J_iconst cx dX4_channelOf_4 ?_
  refine J_icmp_ge (tgt := 12) cx dX4_channelOf_5 (by decide) (by omega) (by omega) (fun h_5 => ?_) (fun h_5 => ?_)
  · skip
    refine J_iload_n cx dX4_channelOf_12 rfl 1 rfl ?_
    refine J_aload_n cx dX4_channelOf_13 rfl 0 rfl ?_
    refine J_get cx inC4 0 rfl rfl 1 (by decide) T27 rfl rfl dX4_channelOf_14 ?_
    refine J_irem cx dX4_channelOf_17 (by omega) (by omega) ?_
    exact J_iret cx hr dX4_channelOf_18 ⟨rfl, rfl⟩
  · exfalso; omega
set_option maxHeartbeats 4000000 in
set_option maxRecDepth 100000 in
theorem mX4_samplesBefore (l : Launch) (X : GX) (h : Nat) (a : Nat) (f : Int → Int) (ch : Int) (bl : Int) (n : Int) (i : Int) (hc : 1 ≤ ch ∧ ch ≤ 2) (hi : 0 ≤ i ∧ i < 100000) : Ct l yX4_samplesBefore cX4_samplesBefore 2 (some .int) 0 0 0 0 X [.ref h, .int (iI i)] [(h, .inr (4, [.ref a, .int (iI ch), .int (iI bl), .int (iI n)])), (a, .inl (X.2.1, 800, .inl (aI f)))] (fun1 (some (.int (iI (i / ch * bl)))) [(h, .inr (4, [.ref a, .int (iI ch), .int (iI bl), .int (iI n)])), (a, .inl (X.2.1, 800, .inl (aI f)))]) := by
  refine Ct_of (own := RX4) (lv := [(0, .ref h), (1, .int (iI i))]) (by decide +kernel) rfl (Nat.le_of_ble_eq_true rfl) rfl ?_
  intro p e s m args below meth c A cx hr hin
  refine J_aload_n cx dX4_samplesBefore_0 rfl 0 rfl ?_
  refine J_get cx inC4 0 rfl rfl 1 (by decide) T27 rfl rfl dX4_samplesBefore_1 ?_
  refine J_iconst cx dX4_samplesBefore_4 ?_
  refine J_icmp_ge (tgt := 12) cx dX4_samplesBefore_5 (by decide) (by omega) (by omega) (fun h_5 => ?_) (fun h_5 => ?_)
  · skip
    refine J_iload_n cx dX4_samplesBefore_12 rfl 1 rfl ?_
    refine J_aload_n cx dX4_samplesBefore_13 rfl 0 rfl ?_
    refine J_get cx inC4 0 rfl rfl 1 (by decide) T27 rfl rfl dX4_samplesBefore_14 ?_
    refine J_idiv cx dX4_samplesBefore_17 (by omega) (by omega) ?_
    refine J_aload_n cx dX4_samplesBefore_18 rfl 0 rfl ?_
    refine J_get cx inC4 0 rfl rfl 2 (by decide) T32 rfl rfl dX4_samplesBefore_19 ?_
    refine J_imul cx dX4_samplesBefore_22 ?_
    refine J_top (b := (i / ch * bl)) (by omega) ?_
    exact J_iret cx hr dX4_samplesBefore_23 ⟨rfl, rfl⟩
  · exfalso; omega
set_option maxHeartbeats 4000000 in
set_option maxRecDepth 100000 in
theorem mX4_firstPlace (l : Launch) (X : GX) (h : Nat) (a : Nat) (f : Int → Int) (ch : Int) (bl : Int) (n : Int) (i : Int) (hc : 1 ≤ ch ∧ ch ≤ 2) (hi : 0 ≤ i ∧ i < 100000) : Ct l yX4_firstPlace cX4_firstPlace 2 (some .int) 1 21 0 0 X [.ref h, .int (iI i)] [(h, .inr (4, [.ref a, .int (iI ch), .int (iI bl), .int (iI n)])), (a, .inl (X.2.1, 800, .inl (aI f)))] (fun1 (some (.int (iI (bfirst ch bl i)))) [(h, .inr (4, [.ref a, .int (iI ch), .int (iI bl), .int (iI n)])), (a, .inl (X.2.1, 800, .inl (aI f)))]) := by
  refine Ct_of (own := RX4) (lv := [(0, .ref h), (1, .int (iI i))]) (by decide +kernel) rfl (Nat.le_of_ble_eq_true rfl) rfl ?_
  intro p e s m args below meth c A cx hr hin
  refine J_aload_n cx dX4_firstPlace_0 rfl 0 rfl ?_
  refine J_iload_n cx dX4_firstPlace_1 rfl 1 rfl ?_
  refine J_callV (C := RX4) (T := TX4) (N := 4) cx (As := [.int (iI i)]) (rest := []) (mX4_samplesBefore l X h a f ch bl n i (by omega) (by omega)) T280 T277 T278 T279 T2 ⟨rfl, hd_X4_samplesBefore⟩ rfl ⟨Nat.le_of_ble_eq_true rfl, Nat.le_of_ble_eq_true rfl⟩ (Nat.le_of_ble_eq_true rfl) ⟨Nat.le_of_ble_eq_true rfl, Nat.le_of_ble_eq_true rfl⟩ [0, 1] [] rfl rfl rfl rfl rfl (by decide) 0 rfl rfl dX4_firstPlace_2 rfl (J_f (ws' := [(h, .inr (4, [.ref a, .int (iI ch), .int (iI bl), .int (iI n)])), (a, .inl (X.2.1, 800, .inl (aI f)))]) (st' := [.int (iI (i / ch * bl))]) [0, 1] rfl rfl rfl rfl ?_)
  refine J_aload_n cx dX4_firstPlace_5 rfl 0 rfl ?_
  refine J_get cx inC4 0 rfl rfl 1 (by decide) T27 rfl rfl dX4_firstPlace_6 ?_
  refine J_imul cx dX4_firstPlace_9 ?_
  refine J_aload_n cx dX4_firstPlace_10 rfl 0 rfl ?_
  refine J_iload_n cx dX4_firstPlace_11 rfl 1 rfl ?_
  refine J_callV (C := RX4) (T := TX4) (N := 4) cx (As := [.int (iI i)]) (rest := [.int (iI ((i / ch * bl) * ch))]) (mX4_channelOf l X h a f ch bl n i (by omega) (by omega)) T289 T286 T287 T288 T2 ⟨rfl, hd_X4_channelOf⟩ rfl ⟨Nat.le_of_ble_eq_true rfl, Nat.le_of_ble_eq_true rfl⟩ (Nat.le_of_ble_eq_true rfl) ⟨Nat.le_of_ble_eq_true rfl, Nat.le_of_ble_eq_true rfl⟩ [0, 1] [] rfl rfl rfl rfl rfl (by decide) 0 rfl rfl dX4_firstPlace_12 rfl (J_f (ws' := [(h, .inr (4, [.ref a, .int (iI ch), .int (iI bl), .int (iI n)])), (a, .inl (X.2.1, 800, .inl (aI f)))]) (st' := [.int (iI (i % ch)), .int (iI ((i / ch * bl) * ch))]) [0, 1] rfl rfl rfl rfl ?_)
  refine J_iadd cx dX4_firstPlace_15 ?_
  refine J_top (b := (bfirst ch bl i)) (rfl) ?_
  exact J_iret cx hr dX4_firstPlace_16 ⟨rfl, rfl⟩
set_option maxHeartbeats 4000000 in
set_option maxRecDepth 100000 in
theorem mX4_blockSize (l : Launch) (X : GX) (h : Nat) (a : Nat) (f : Int → Int) (ch : Int) (bl : Int) (n : Int) (i : Int) (hc : 1 ≤ ch ∧ ch ≤ 2) (hn : 0 ≤ n ∧ n ≤ 800) (hi : 0 ≤ i ∧ i < 100000) (hb : 1 ≤ bl ∧ bl ≤ 64) (hib : 0 ≤ i / ch * bl ∧ i / ch * bl < 1000000) : Ct l yX4_blockSize cX4_blockSize 2 (some .int) 1 21 0 0 X [.ref h, .int (iI i)] [(h, .inr (4, [.ref a, .int (iI ch), .int (iI bl), .int (iI n)])), (a, .inl (X.2.1, 800, .inl (aI f)))] (fun1 (some (.int (iI (bsize ch bl (n / ch) i)))) [(h, .inr (4, [.ref a, .int (iI ch), .int (iI bl), .int (iI n)])), (a, .inl (X.2.1, 800, .inl (aI f)))]) := by
  refine Ct_of (own := RX4) (lv := [(0, .ref h), (1, .int (iI i))]) (by decide +kernel) rfl (Nat.le_of_ble_eq_true rfl) rfl ?_
  intro p e s m args below meth c A cx hr hin
  have hd1 : 0 ≤ n / ch ∧ n / ch ≤ 800 := by rcases (show ch = 1 ∨ ch = 2 by omega) with e1 | e1 <;> subst e1 <;> omega
  refine J_aload_n cx dX4_blockSize_0 rfl 0 rfl ?_
  refine J_get cx inC4 0 rfl rfl 2 (by decide) T32 rfl rfl dX4_blockSize_1 ?_
  refine J_aload_n cx dX4_blockSize_4 rfl 0 rfl ?_
  refine J_callV (C := RX4) (T := TX4) (N := 4) cx (As := []) (rest := [.int (iI bl)]) (mX4_each l X h a f ch bl n (by omega) (by omega)) T232 T229 T230 T231 T2 ⟨rfl, hd_X4_each⟩ rfl ⟨Nat.le_of_ble_eq_true rfl, Nat.le_of_ble_eq_true rfl⟩ (Nat.le_of_ble_eq_true rfl) ⟨Nat.le_of_ble_eq_true rfl, Nat.le_of_ble_eq_true rfl⟩ [0, 1] [] rfl rfl rfl rfl rfl (by decide) 0 rfl rfl dX4_blockSize_5 rfl (J_f (ws' := [(h, .inr (4, [.ref a, .int (iI ch), .int (iI bl), .int (iI n)])), (a, .inl (X.2.1, 800, .inl (aI f)))]) (st' := [.int (iI (n / ch)), .int (iI bl)]) [0, 1] rfl rfl rfl rfl ?_)
  refine J_aload_n cx dX4_blockSize_8 rfl 0 rfl ?_
  refine J_iload_n cx dX4_blockSize_9 rfl 1 rfl ?_
  refine J_callV (C := RX4) (T := TX4) (N := 4) cx (As := [.int (iI i)]) (rest := [.int (iI (n / ch)), .int (iI bl)]) (mX4_samplesBefore l X h a f ch bl n i (by omega) (by omega)) T280 T277 T278 T279 T2 ⟨rfl, hd_X4_samplesBefore⟩ rfl ⟨Nat.le_of_ble_eq_true rfl, Nat.le_of_ble_eq_true rfl⟩ (Nat.le_of_ble_eq_true rfl) ⟨Nat.le_of_ble_eq_true rfl, Nat.le_of_ble_eq_true rfl⟩ [0, 1] [] rfl rfl rfl rfl rfl (by decide) 0 rfl rfl dX4_blockSize_10 rfl (J_f (ws' := [(h, .inr (4, [.ref a, .int (iI ch), .int (iI bl), .int (iI n)])), (a, .inl (X.2.1, 800, .inl (aI f)))]) (st' := [.int (iI (i / ch * bl)), .int (iI (n / ch)), .int (iI bl)]) [0, 1] rfl rfl rfl rfl ?_)
  refine J_isub cx dX4_blockSize_13 ?_
  refine J_callS cx (As := [.int (iI bl), .int (iI ((n / ch) - (i / ch * bl)))]) (rest := []) (mJ9_min_7cf53 l X bl ((n / ch) - (i / ch * bl)) (by omega) (by omega)) T242 T281 T241 T11 hd_J9_min_7cf53 rfl ⟨Nat.le_of_ble_eq_true rfl, Nat.le_of_ble_eq_true rfl⟩ (Nat.le_of_ble_eq_true rfl) ⟨Nat.le_of_ble_eq_true rfl, Nat.le_of_ble_eq_true rfl⟩ [] [0, 1] rfl rfl rfl rfl rfl (by decide) dX4_blockSize_14 rfl (J_f (ws' := [(h, .inr (4, [.ref a, .int (iI ch), .int (iI bl), .int (iI n)])), (a, .inl (X.2.1, 800, .inl (aI f)))]) (st' := [.int (iI (mnI bl ((n / ch) - (i / ch * bl))))]) [0, 1] rfl rfl rfl rfl ?_)
  refine J_top (b := (bsize ch bl (n / ch) i)) (rfl) ?_
  exact J_iret cx hr dX4_blockSize_17 ⟨rfl, rfl⟩
set_option maxHeartbeats 4000000 in
set_option maxRecDepth 100000 in
theorem mX4_blockCount (l : Launch) (X : GX) (h : Nat) (a : Nat) (f : Int → Int) (ch : Int) (bl : Int) (n : Int) (hc : 1 ≤ ch ∧ ch ≤ 2) (hn : 0 ≤ n ∧ n ≤ 800) (hb : 1 ≤ bl ∧ bl ≤ 64) : Ct l yX4_blockCount cX4_blockCount 1 (some .int) 1 20 0 0 X [.ref h] [(h, .inr (4, [.ref a, .int (iI ch), .int (iI bl), .int (iI n)])), (a, .inl (X.2.1, 800, .inl (aI f)))] (fun1 (some (.int (iI (nblk ch bl (n / ch))))) [(h, .inr (4, [.ref a, .int (iI ch), .int (iI bl), .int (iI n)])), (a, .inl (X.2.1, 800, .inl (aI f)))]) := by
  refine Ct_of (own := RX4) (lv := [(0, .ref h)]) (by decide +kernel) rfl (Nat.le_of_ble_eq_true rfl) rfl ?_
  intro p e s m args below meth c A cx hr hin
  have hd1 : 0 ≤ n / ch ∧ n / ch ≤ 800 := by rcases (show ch = 1 ∨ ch = 2 by omega) with e1 | e1 <;> subst e1 <;> omega
  refine J_aload_n cx dX4_blockCount_0 rfl 0 rfl ?_
  refine J_get cx inC4 0 rfl rfl 2 (by decide) T32 rfl rfl dX4_blockCount_1 ?_
  refine J_iconst cx dX4_blockCount_4 ?_
  refine J_icmp_ge (tgt := 12) cx dX4_blockCount_5 (by decide) (by omega) (by omega) (fun h_5 => ?_) (fun h_5 => ?_)
  · skip
    refine J_aload_n cx dX4_blockCount_12 rfl 0 rfl ?_
    refine J_callV (C := RX4) (T := TX4) (N := 4) cx (As := []) (rest := []) (mX4_each l X h a f ch bl n (by omega) (by omega)) T232 T229 T230 T231 T2 ⟨rfl, hd_X4_each⟩ rfl ⟨Nat.le_of_ble_eq_true rfl, Nat.le_of_ble_eq_true rfl⟩ (Nat.le_of_ble_eq_true rfl) ⟨Nat.le_of_ble_eq_true rfl, Nat.le_of_ble_eq_true rfl⟩ [0, 1] [] rfl rfl rfl rfl rfl (by decide) 0 rfl rfl dX4_blockCount_13 rfl (J_f (ws' := [(h, .inr (4, [.ref a, .int (iI ch), .int (iI bl), .int (iI n)])), (a, .inl (X.2.1, 800, .inl (aI f)))]) (st' := [.int (iI (n / ch))]) [0, 1] rfl rfl rfl rfl ?_)
    refine J_aload_n cx dX4_blockCount_16 rfl 0 rfl ?_
    refine J_get cx inC4 0 rfl rfl 2 (by decide) T32 rfl rfl dX4_blockCount_17 ?_
    refine J_iadd cx dX4_blockCount_20 ?_
    refine J_iconst cx dX4_blockCount_21 ?_
    refine J_isub cx dX4_blockCount_22 ?_
    refine J_aload_n cx dX4_blockCount_23 rfl 0 rfl ?_
    refine J_get cx inC4 0 rfl rfl 2 (by decide) T32 rfl rfl dX4_blockCount_24 ?_
    refine J_idiv cx dX4_blockCount_27 (by omega) (by omega) ?_
    refine J_aload_n cx dX4_blockCount_28 rfl 0 rfl ?_
    refine J_get cx inC4 0 rfl rfl 1 (by decide) T27 rfl rfl dX4_blockCount_29 ?_
    refine J_imul cx dX4_blockCount_32 ?_
    refine J_top (b := (nblk ch bl (n / ch))) (rfl) ?_
    exact J_iret cx hr dX4_blockCount_33 ⟨rfl, rfl⟩
  · exfalso; omega
set_option maxHeartbeats 4000000 in
set_option maxRecDepth 100000 in
theorem mX4_sampleAt (l : Launch) (X : GX) (h : Nat) (a : Nat) (f : Int → Int) (ch : Int) (bl : Int) (n : Int) (pl : Int) (hp : -2147483648 ≤ pl ∧ pl < 2147483648) (hn : 0 ≤ n ∧ n ≤ 800) : Ct l yX4_sampleAt cX4_sampleAt 2 (some .int) 0 0 0 0 X [.ref h, .int (iI pl)] [(h, .inr (4, [.ref a, .int (iI ch), .int (iI bl), .int (iI n)])), (a, .inl (X.2.1, 800, .inl (aI f)))] (fun1 (some (.int (iI (smpA f n pl)))) [(h, .inr (4, [.ref a, .int (iI ch), .int (iI bl), .int (iI n)])), (a, .inl (X.2.1, 800, .inl (aI f)))]) := by
  refine Ct_of (own := RX4) (lv := [(0, .ref h), (1, .int (iI pl))]) (by decide +kernel) rfl (Nat.le_of_ble_eq_true rfl) rfl ?_
  intro p e s m args below meth c A cx hr hin
  refine J_iload_n cx dX4_sampleAt_0 rfl 1 rfl ?_
  refine J_if_lt (tgt := 12) cx dX4_sampleAt_1 (by decide) (by omega) (fun h_1 => ?_) (fun h_1 => ?_)
  · skip
    refine J_iconst cx dX4_sampleAt_12 ?_
    refine J_goto (tgt := 22) cx dX4_sampleAt_13 (by decide) ?_
    refine J_top (b := (smpA f n pl)) (by unfold smpA; split <;> first | rfl | omega) ?_
    exact J_iret cx hr dX4_sampleAt_22 ⟨rfl, rfl⟩
  · skip
    refine J_iload_n cx dX4_sampleAt_4 rfl 1 rfl ?_
    refine J_aload_n cx dX4_sampleAt_5 rfl 0 rfl ?_
    refine J_get cx inC4 0 rfl rfl 3 (by decide) T34 rfl rfl dX4_sampleAt_6 ?_
    refine J_icmp_lt (tgt := 16) cx dX4_sampleAt_9 (by decide) (by omega) (by omega) (fun h_9 => ?_) (fun h_9 => ?_)
    · skip
      refine J_aload_n cx dX4_sampleAt_16 rfl 0 rfl ?_
      refine J_get cx inC4 0 rfl rfl 0 (by decide) T26 rfl rfl dX4_sampleAt_17 ?_
      refine J_iload_n cx dX4_sampleAt_20 rfl 1 rfl ?_
      refine J_iald cx 1 rfl (by omega) (by decide) dX4_sampleAt_21 ?_
      refine J_top (b := (smpA f n pl)) (by unfold smpA; split <;> first | rfl | omega) ?_
      exact J_iret cx hr dX4_sampleAt_22 ⟨rfl, rfl⟩
    · skip
      refine J_iconst cx dX4_sampleAt_12 ?_
      refine J_goto (tgt := 22) cx dX4_sampleAt_13 (by decide) ?_
      refine J_top (b := (smpA f n pl)) (by unfold smpA; split <;> first | rfl | omega) ?_
      exact J_iret cx hr dX4_sampleAt_22 ⟨rfl, rfl⟩
set_option maxHeartbeats 4000000 in
set_option maxRecDepth 100000 in
theorem mX4_setAt (l : Launch) (X : GX) (h : Nat) (a : Nat) (f : Int → Int) (ch : Int) (bl : Int) (n : Int) (pl : Int) (v : Int) (hp : 0 ≤ pl ∧ pl < n) (hn : 0 ≤ n ∧ n ≤ 800) : Ct l yX4_setAt cX4_setAt 3 none 0 0 0 0 X [.ref h, .int (iI pl), .int (iI v)] [(h, .inr (4, [.ref a, .int (iI ch), .int (iI bl), .int (iI n)])), (a, .inl (X.2.1, 800, .inl (aI f)))] (fun1 none [(h, .inr (4, [.ref a, .int (iI ch), .int (iI bl), .int (iI n)])), (a, .inl (X.2.1, 800, .inl (aI (upI f pl v))))]) := by
  refine Ct_of (own := RX4) (lv := [(0, .ref h), (1, .int (iI pl)), (2, .int (iI v))]) (by decide +kernel) rfl (Nat.le_of_ble_eq_true rfl) rfl ?_
  intro p e s m args below meth c A cx hr hin
  refine J_iload_n cx dX4_setAt_0 rfl 1 rfl ?_
  refine J_if_lt (tgt := 19) cx dX4_setAt_1 (by decide) (by omega) (fun h_1 => ?_) (fun h_1 => ?_)
  · exfalso; omega
  · skip
    refine J_iload_n cx dX4_setAt_4 rfl 1 rfl ?_
    refine J_aload_n cx dX4_setAt_5 rfl 0 rfl ?_
    refine J_get cx inC4 0 rfl rfl 3 (by decide) T34 rfl rfl dX4_setAt_6 ?_
    refine J_icmp_ge (tgt := 19) cx dX4_setAt_9 (by decide) (by omega) (by omega) (fun h_9 => ?_) (fun h_9 => ?_)
    · skip
      refine J_ws (ws' := [(h, .inr (4, [.ref a, .int (iI ch), .int (iI bl), .int (iI n)])), (a, .inl (X.2.1, 800, .inl (aI (upI f pl v))))]) (by rw [← show (f) = upI f pl v from by omega]) ?_
      exact J_vret cx hr dX4_setAt_19 ⟨rfl, rfl⟩
    · skip
      refine J_aload_n cx dX4_setAt_12 rfl 0 rfl ?_
      refine J_get cx inC4 0 rfl rfl 0 (by decide) T26 rfl rfl dX4_setAt_13 ?_
      refine J_iload_n cx dX4_setAt_16 rfl 1 rfl ?_
      refine J_iload_n cx dX4_setAt_17 rfl 2 rfl ?_
      refine J_iast (ws' := [(h, .inr (4, [.ref a, .int (iI ch), .int (iI bl), .int (iI n)])), (a, .inl (X.2.1, 800, .inl (aI (upI f pl v))))]) cx 1 rfl (by omega) (by decide) rfl dX4_setAt_18 ?_
      exact J_vret cx hr dX4_setAt_19 ⟨rfl, rfl⟩
set_option maxHeartbeats 4000000 in
set_option maxRecDepth 100000 in
theorem mX4_toldAhead (l : Launch) (X : GX) (h : Nat) (a : Nat) (f : Int → Int) (ch : Int) (bl : Int) (n : Int) (fn : Int) (pl : Int) (mu : Int) (hc : 1 ≤ ch ∧ ch ≤ 2) (hn : 0 ≤ n ∧ n ≤ 800) (hp : 0 ≤ pl ∧ pl < n) (hf : 0 ≤ fn ∧ fn ≤ 4) : Ct l yX4_toldAhead cX4_toldAhead 7 (some .int) 1 21 0 0 X [.ref h, .int (iI fn), .int (iI pl), .int (iI mu)] [(h, .inr (4, [.ref a, .int (iI ch), .int (iI bl), .int (iI n)])), (a, .inl (X.2.1, 800, .inl (aI f)))] (fun1 (some (.int (iI (tah f ch fn pl mu)))) [(h, .inr (4, [.ref a, .int (iI ch), .int (iI bl), .int (iI n)])), (a, .inl (X.2.1, 800, .inl (aI f)))]) := by
  refine Ct_of (own := RX4) (lv := [(0, .ref h), (1, .int (iI fn)), (2, .int (iI pl)), (3, .int (iI mu))]) (by decide +kernel) rfl (Nat.le_of_ble_eq_true rfl) rfl ?_
  intro p e s m args below meth c A cx hr hin
  refine J_aload_n cx dX4_toldAhead_0 rfl 0 rfl ?_
  refine J_iload_n cx dX4_toldAhead_1 rfl 2 rfl ?_
  refine J_aload_n cx dX4_toldAhead_2 rfl 0 rfl ?_
  refine J_get cx inC4 0 rfl rfl 1 (by decide) T27 rfl rfl dX4_toldAhead_3 ?_
  refine J_isub cx dX4_toldAhead_6 ?_
  refine J_callV (C := RX4) (T := TX4) (N := 4) cx (As := [.int (iI (pl - ch))]) (rest := []) (mX4_sampleAt l X h a f ch bl n (pl - ch) (by omega) (by omega)) T293 T319 T291 T292 T2 ⟨rfl, hd_X4_sampleAt⟩ rfl ⟨Nat.le_of_ble_eq_true rfl, Nat.le_of_ble_eq_true rfl⟩ (Nat.le_of_ble_eq_true rfl) ⟨Nat.le_of_ble_eq_true rfl, Nat.le_of_ble_eq_true rfl⟩ [0, 1] [] rfl rfl rfl rfl rfl (by decide) 0 rfl rfl dX4_toldAhead_7 rfl (J_f (ws' := [(h, .inr (4, [.ref a, .int (iI ch), .int (iI bl), .int (iI n)])), (a, .inl (X.2.1, 800, .inl (aI f)))]) (st' := [.int (iI (smpA f n (pl - ch)))]) [0, 1] rfl rfl rfl rfl ?_)
  refine J_istore (lv' := [(4, .int (iI (smpA f n (pl - ch)))), (0, .ref h), (1, .int (iI fn)), (2, .int (iI pl)), (3, .int (iI mu))]) cx dX4_toldAhead_10 (by decide) rfl ?_
  refine J_aload_n cx dX4_toldAhead_12 rfl 1 rfl ?_
  refine J_iload_n cx dX4_toldAhead_13 rfl 3 rfl ?_
  refine J_iconst cx dX4_toldAhead_14 ?_
  refine J_aload_n cx dX4_toldAhead_15 rfl 1 rfl ?_
  refine J_get cx inC4 0 rfl rfl 1 (by decide) T27 rfl rfl dX4_toldAhead_16 ?_
  refine J_imul cx dX4_toldAhead_19 ?_
  refine J_isub cx dX4_toldAhead_20 ?_
  refine J_callV (C := RX4) (T := TX4) (N := 4) cx (As := [.int (iI (pl - (2 * ch)))]) (rest := []) (mX4_sampleAt l X h a f ch bl n (pl - (2 * ch)) (by omega) (by omega)) T293 T319 T291 T292 T2 ⟨rfl, hd_X4_sampleAt⟩ rfl ⟨Nat.le_of_ble_eq_true rfl, Nat.le_of_ble_eq_true rfl⟩ (Nat.le_of_ble_eq_true rfl) ⟨Nat.le_of_ble_eq_true rfl, Nat.le_of_ble_eq_true rfl⟩ [0, 1] [] rfl rfl rfl rfl rfl (by decide) 0 rfl rfl dX4_toldAhead_21 rfl (J_f (ws' := [(h, .inr (4, [.ref a, .int (iI ch), .int (iI bl), .int (iI n)])), (a, .inl (X.2.1, 800, .inl (aI f)))]) (st' := [.int (iI (smpA f n (pl - (2 * ch))))]) [0, 1] rfl rfl rfl rfl ?_)
  refine J_istore (lv' := [(5, .int (iI (smpA f n (pl - (2 * ch))))), (4, .int (iI (smpA f n (pl - ch)))), (0, .ref h), (1, .int (iI fn)), (2, .int (iI pl)), (3, .int (iI mu))]) cx dX4_toldAhead_24 (by decide) rfl ?_
  refine J_aload_n cx dX4_toldAhead_26 rfl 2 rfl ?_
  refine J_iload_n cx dX4_toldAhead_27 rfl 4 rfl ?_
  refine J_iconst cx dX4_toldAhead_28 ?_
  refine J_aload_n cx dX4_toldAhead_29 rfl 2 rfl ?_
  refine J_get cx inC4 0 rfl rfl 1 (by decide) T27 rfl rfl dX4_toldAhead_30 ?_
  refine J_imul cx dX4_toldAhead_33 ?_
  refine J_isub cx dX4_toldAhead_34 ?_
  refine J_callV (C := RX4) (T := TX4) (N := 4) cx (As := [.int (iI (pl - (3 * ch)))]) (rest := []) (mX4_sampleAt l X h a f ch bl n (pl - (3 * ch)) (by omega) (by omega)) T293 T319 T291 T292 T2 ⟨rfl, hd_X4_sampleAt⟩ rfl ⟨Nat.le_of_ble_eq_true rfl, Nat.le_of_ble_eq_true rfl⟩ (Nat.le_of_ble_eq_true rfl) ⟨Nat.le_of_ble_eq_true rfl, Nat.le_of_ble_eq_true rfl⟩ [0, 1] [] rfl rfl rfl rfl rfl (by decide) 0 rfl rfl dX4_toldAhead_35 rfl (J_f (ws' := [(h, .inr (4, [.ref a, .int (iI ch), .int (iI bl), .int (iI n)])), (a, .inl (X.2.1, 800, .inl (aI f)))]) (st' := [.int (iI (smpA f n (pl - (3 * ch))))]) [0, 1] rfl rfl rfl rfl ?_)
  refine J_istore (lv' := [(6, .int (iI (smpA f n (pl - (3 * ch))))), (5, .int (iI (smpA f n (pl - (2 * ch))))), (4, .int (iI (smpA f n (pl - ch)))), (0, .ref h), (1, .int (iI fn)), (2, .int (iI pl)), (3, .int (iI mu))]) cx dX4_toldAhead_38 (by decide) rfl ?_
  refine J_iload_n cx dX4_toldAhead_40 rfl 4 rfl ?_
  have hsw_41 : fn = 1 ∨ fn = 2 ∨ fn = 3 ∨ (fn < 1 ∨ 3 < fn) := by omega
  rcases hsw_41 with h_41 | h_41 | h_41 | h_41
  · skip
    refine J_tin (k := 1) (tgt := 68) cx dX4_toldAhead_41 (by omega) h_41 rfl (by decide) (by decide) (by decide) ?_
    refine J_iload cx dX4_toldAhead_68 2 rfl ?_
    refine J_top (b := (tah f ch fn pl mu)) (by unfold tah; rw [if_pos h_41, smpA_bef (by omega)]) ?_
    exact J_iret cx hr dX4_toldAhead_70 ⟨rfl, rfl⟩
  · skip
    refine J_tin (k := 2) (tgt := 71) cx dX4_toldAhead_41 (by omega) h_41 rfl (by decide) (by decide) (by decide) ?_
    refine J_iconst cx dX4_toldAhead_71 ?_
    refine J_iload cx dX4_toldAhead_72 2 rfl ?_
    refine J_imul cx dX4_toldAhead_74 ?_
    refine J_iload cx dX4_toldAhead_75 1 rfl ?_
    refine J_isub cx dX4_toldAhead_77 ?_
    refine J_top (b := (tah f ch fn pl mu)) (by unfold tah; rw [if_neg (by omega), if_pos h_41, smpA_bef (by omega), smpA_bef (by omega)]) ?_
    exact J_iret cx hr dX4_toldAhead_78 ⟨rfl, rfl⟩
  · skip
    refine J_tin (k := 3) (tgt := 79) cx dX4_toldAhead_41 (by omega) h_41 rfl (by decide) (by decide) (by decide) ?_
    refine J_iconst cx dX4_toldAhead_79 ?_
    refine J_iload cx dX4_toldAhead_80 2 rfl ?_
    refine J_imul cx dX4_toldAhead_82 ?_
    refine J_iconst cx dX4_toldAhead_83 ?_
    refine J_iload cx dX4_toldAhead_84 1 rfl ?_
    refine J_imul cx dX4_toldAhead_86 ?_
    refine J_isub cx dX4_toldAhead_87 ?_
    refine J_iload cx dX4_toldAhead_88 0 rfl ?_
    refine J_iadd cx dX4_toldAhead_90 ?_
    refine J_top (b := (tah f ch fn pl mu)) (by unfold tah; rw [if_neg (by omega), if_neg (by omega), if_pos h_41, smpA_bef (by omega), smpA_bef (by omega), smpA_bef (by omega)]) ?_
    exact J_iret cx hr dX4_toldAhead_91 ⟨rfl, rfl⟩
  · skip
    refine J_tout (tgt := 92) cx dX4_toldAhead_41 (by omega) h_41 (by decide) ?_
    refine J_iload_n cx dX4_toldAhead_92 rfl 6 rfl ?_
    refine J_top (b := (tah f ch fn pl mu)) (by unfold tah; rw [if_neg (by omega), if_neg (by omega), if_neg (by omega)]) ?_
    exact J_iret cx hr dX4_toldAhead_93 ⟨rfl, rfl⟩
set_option maxHeartbeats 4000000 in
set_option maxRecDepth 100000 in
theorem mX4_hasSameWhole (l : Launch) (X : GX) (h : Nat) (a : Nat) (f : Int → Int) (ch : Int) (bl : Int) (n : Int) (h2 : Nat) (a2 : Nat) (f2 : Int → Int) (ch2 : Int) (bl2 : Int) (n2 : Int) (hc : 1 ≤ ch ∧ ch ≤ 2) (hn : 0 ≤ n ∧ n ≤ 800) (hn2 : 0 ≤ n2 ∧ n2 ≤ 800) (hc2 : 0 ≤ ch2 ∧ ch2 ≤ 2) (hf : ∀ j, -32768 ≤ f j ∧ f j ≤ 32767) (hf2 : ∀ j, -32768 ≤ f2 j ∧ f2 j ≤ 32767) : Ct l yX4_hasSameWhole cX4_hasSameWhole 3 (some .boolean) 2 40 0 0 X [.ref h, .ref h2] [(h, .inr (4, [.ref a, .int (iI ch), .int (iI bl), .int (iI n)])), (a, .inl (X.2.1, 800, .inl (aI f))), (h2, .inr (4, [.ref a2, .int (iI ch2), .int (iI bl2), .int (iI n2)])), (a2, .inl (X.2.1, 800, .inl (aI f2)))] (fun1 (some (.int (iI (sameV f ch n f2 ch2 n2)))) [(h, .inr (4, [.ref a, .int (iI ch), .int (iI bl), .int (iI n)])), (a, .inl (X.2.1, 800, .inl (aI f))), (h2, .inr (4, [.ref a2, .int (iI ch2), .int (iI bl2), .int (iI n2)])), (a2, .inl (X.2.1, 800, .inl (aI f2)))]) := by
  refine Ct_of (own := RX4) (lv := [(0, .ref h), (1, .ref h2)]) (by decide +kernel) rfl (Nat.le_of_ble_eq_true rfl) rfl ?_
  intro p e s m args below meth c A cx hr hin
  have hd1 := half_rng hc hn
  refine J_aload_n cx dX4_hasSameWhole_0 rfl 0 rfl ?_
  refine J_get cx inC4 0 rfl rfl 1 (by decide) T27 rfl rfl dX4_hasSameWhole_1 ?_
  refine J_aload_n cx dX4_hasSameWhole_4 rfl 1 rfl ?_
  refine J_get cx inC4 2 rfl rfl 1 (by decide) T27 rfl rfl dX4_hasSameWhole_5 ?_
  refine J_icmp_ne (tgt := 22) cx dX4_hasSameWhole_8 (by decide) (by omega) (by omega) (fun h_8 => ?_) (fun h_8 => ?_)
  · skip
    refine J_iconst cx dX4_hasSameWhole_22 ?_
    refine J_top (b := (sameV f ch n f2 ch2 n2)) (sameV_no (by omega)) ?_
    exact J_zret cx hr (sameV_01 _ _ _ _ _ _) dX4_hasSameWhole_23 ⟨rfl, rfl⟩
  · skip
    refine J_aload_n cx dX4_hasSameWhole_11 rfl 0 rfl ?_
    refine J_callV (C := RX4) (T := TX4) (N := 4) cx (As := []) (rest := []) (mX4_wholeSize l X h a f ch bl n (by omega) (by omega)) T228 T225 T226 T227 T2 ⟨rfl, hd_X4_wholeSize⟩ rfl ⟨Nat.le_of_ble_eq_true rfl, Nat.le_of_ble_eq_true rfl⟩ (Nat.le_of_ble_eq_true rfl) ⟨Nat.le_of_ble_eq_true rfl, Nat.le_of_ble_eq_true rfl⟩ [0, 1] [2, 3] rfl rfl rfl rfl rfl (by decide) 0 rfl rfl dX4_hasSameWhole_12 rfl (J_f (ws' := [(h, .inr (4, [.ref a, .int (iI ch), .int (iI bl), .int (iI n)])), (a, .inl (X.2.1, 800, .inl (aI f))), (h2, .inr (4, [.ref a2, .int (iI ch2), .int (iI bl2), .int (iI n2)])), (a2, .inl (X.2.1, 800, .inl (aI f2)))]) (st' := [.int (iI (n / ch * ch))]) [2, 3, 0, 1] rfl rfl rfl rfl ?_)
    refine J_aload_n cx dX4_hasSameWhole_15 rfl 1 rfl ?_
    refine J_get cx inC4 2 rfl rfl 3 (by decide) T34 rfl rfl dX4_hasSameWhole_16 ?_
    refine J_icmp_eq (tgt := 24) cx dX4_hasSameWhole_19 (by decide) (by omega) (by omega) (fun h_19 => ?_) (fun h_19 => ?_)
    · skip
      refine J_iconst cx dX4_hasSameWhole_24 ?_
      refine J_istore_n (lv' := [(2, .int (iI 0)), (0, .ref h), (1, .ref h2)]) cx dX4_hasSameWhole_25 rfl (by decide) rfl ?_
      refine J_loop1 (fun (j : Int) => [(h, .inr (4, [.ref a, .int (iI ch), .int (iI bl), .int (iI n)])), (a, .inl (X.2.1, 800, .inl (aI f))), (h2, .inr (4, [.ref a2, .int (iI ch2), .int (iI bl2), .int (iI n2)])), (a2, .inl (X.2.1, 800, .inl (aI f2)))]) (fun (j : Int) => [(2, .int (iI j)), (0, .ref h), (1, .ref h2)]) (fun (j : Int) => (0 ≤ j ∧ j ≤ n2) ∧ (eqU f f2 j.toNat = true)) (fun (j : Int) => (n2 - j).toNat) 0 ⟨(by omega), (rfl)⟩ ?_
      intro j hI ih_26
      obtain ⟨hj, hj2⟩ := hI
      try dsimp only at hj hj2
      refine J_iload_n cx dX4_hasSameWhole_26 rfl 0 rfl ?_
      refine J_aload_n cx dX4_hasSameWhole_27 rfl 2 rfl ?_
      refine J_get cx inC4 2 rfl rfl 3 (by decide) T34 rfl rfl dX4_hasSameWhole_28 ?_
      refine J_icmp_ge (tgt := 57) cx dX4_hasSameWhole_31 (by decide) (by omega) (by omega) (fun h_31 => ?_) (fun h_31 => ?_)
      · skip
        refine J_iconst cx dX4_hasSameWhole_57 ?_
        refine J_top (b := (sameV f ch n f2 ch2 n2)) (by unfold sameV; rw [if_pos ⟨by omega, by omega, by rw [← show j = n2 by omega]; exact hj2⟩]) ?_
        exact J_zret cx hr (sameV_01 _ _ _ _ _ _) dX4_hasSameWhole_58 ⟨rfl, rfl⟩
      · skip
        refine J_aload_n cx dX4_hasSameWhole_34 rfl 1 rfl ?_
        refine J_get cx inC4 0 rfl rfl 0 (by decide) T26 rfl rfl dX4_hasSameWhole_35 ?_
        refine J_iload_n cx dX4_hasSameWhole_38 rfl 0 rfl ?_
        refine J_iald cx 1 rfl (by omega) (by decide) dX4_hasSameWhole_39 ?_
        refine J_aload_n cx dX4_hasSameWhole_40 rfl 2 rfl ?_
        refine J_get cx inC4 2 rfl rfl 0 (by decide) T26 rfl rfl dX4_hasSameWhole_41 ?_
        refine J_iload_n cx dX4_hasSameWhole_44 rfl 0 rfl ?_
        refine J_iald cx 3 rfl (by omega) (by decide) dX4_hasSameWhole_45 ?_
        refine J_icmp_eq (tgt := 51) cx dX4_hasSameWhole_46 (by decide) (by have := hf j; omega) (by have := hf2 j; omega) (fun h_46 => ?_) (fun h_46 => ?_)
        · skip
          refine J_iinc (q := 0) (lv' := [(2, .int (iI (j + 1))), (0, .ref h), (1, .ref h2)]) cx dX4_hasSameWhole_51 rfl (by decide) rfl ?_
          refine J_goto (tgt := 26) cx dX4_hasSameWhole_54 (by decide) ?_
          exact ih_26 (j + 1) ⟨(by omega), (eqU_s (by omega) hj2 h_46)⟩ (by omega)
        · skip
          refine J_iconst cx dX4_hasSameWhole_49 ?_
          refine J_top (b := (sameV f ch n f2 ch2 n2)) (sameV_at (j := j) (by omega) (by omega) h_46) ?_
          exact J_zret cx hr (sameV_01 _ _ _ _ _ _) dX4_hasSameWhole_50 ⟨rfl, rfl⟩
    · skip
      refine J_iconst cx dX4_hasSameWhole_22 ?_
      refine J_top (b := (sameV f ch n f2 ch2 n2)) (sameV_no (by omega)) ?_
      exact J_zret cx hr (sameV_01 _ _ _ _ _ _) dX4_hasSameWhole_23 ⟨rfl, rfl⟩
end
section
set_option maxHeartbeats 4000000 in
set_option maxRecDepth 100000 in
theorem mX3_ahead (l : Launch) (X : GX) (h : Nat) (a : Nat) (mf : Int → Int) (i : Int) (ch : Int) (hc : 1 ≤ ch ∧ ch ≤ 2) (hi : 0 ≤ i ∧ i < 800) (hm : ∀ j, -32768 ≤ mf j ∧ mf j ≤ 32767) : Ct l yX3_ahead cX3_ahead 6 (some .int) 2 43 0 0 X [.ref h, .int (iI i), .int (iI ch)] [(h, .inr (3, [.ref a])), (a, .inl (X.2.1, 800, .inl (aI mf)))] (fun1 (some (.int (iI (mahead mf ch i)))) [(h, .inr (3, [.ref a])), (a, .inl (X.2.1, 800, .inl (aI mf)))]) := by
  refine Ct_of (own := RX3) (lv := [(0, .ref h), (1, .int (iI i)), (2, .int (iI ch))]) (by decide +kernel) rfl (Nat.le_of_ble_eq_true rfl) rfl ?_
  intro p e s m args below meth c A cx hr hin
  refine J_iconst cx dX3_ahead_0 ?_
  refine J_istore_n (lv' := [(3, .int (iI 0)), (0, .ref h), (1, .int (iI i)), (2, .int (iI ch))]) cx dX3_ahead_1 rfl (by decide) rfl ?_
  refine J_iconst cx dX3_ahead_2 ?_
  refine J_istore (lv' := [(4, .int (iI 1)), (3, .int (iI 0)), (0, .ref h), (1, .int (iI i)), (2, .int (iI ch))]) cx dX3_ahead_3 (by decide) rfl ?_
  refine J_loop2 (fun (bk : Int) (sm : Int) => [(h, .inr (3, [.ref a])), (a, .inl (X.2.1, 800, .inl (aI mf)))]) (fun (bk : Int) (sm : Int) => [(4, .int (iI bk)), (3, .int (iI sm)), (0, .ref h), (1, .int (iI i)), (2, .int (iI ch))]) (fun (bk : Int) (sm : Int) => (1 ≤ bk ∧ bk ≤ 5) ∧ (sm = msum mf ch i (bk - 1))) (fun (bk : Int) (sm : Int) => (5 - bk).toNat) 1 0 ⟨(by omega), (rfl)⟩ ?_
  intro bk sm hI ih_5
  obtain ⟨hbk, hsm⟩ := hI
  try dsimp only at hbk hsm
  have hbc : 0 ≤ bk * ch := Int.mul_nonneg (by omega) (by omega)
  have hbc2 : bk * ch ≤ 5 * ch := Int.mul_le_mul_of_nonneg_right (by omega) (by omega)
  refine J_iload cx dX3_ahead_5 0 rfl ?_
  refine J_iconst cx dX3_ahead_7 ?_
  refine J_icmp_gt (tgt := 52) cx dX3_ahead_8 (by decide) (by omega) (by omega) (fun h_8 => ?_) (fun h_8 => ?_)
  · skip
    refine J_iload_n cx dX3_ahead_52 rfl 1 rfl ?_
    refine J_iconst cx dX3_ahead_53 ?_
    refine J_callSN cx (As := [.int (iI sm), .int (iI 4)]) (rest := []) (mX7_roundedMean l X sm 4 (by have h9 := msum_rng hm ch i (bk - 1).toNat; have h10 : sm = msumN mf ch i (bk - 1).toNat := hsm; omega) (by omega)) T296 T294 T295 T1 hd_X7_roundedMean rfl ⟨Nat.le_of_ble_eq_true rfl, Nat.le_of_ble_eq_true rfl⟩ (Nat.le_of_ble_eq_true rfl) ⟨Nat.le_of_ble_eq_true rfl, Nat.le_of_ble_eq_true rfl⟩ [] [0, 1] rfl rfl rfl rfl rfl (by decide) dX3_ahead_54 rfl (J_f (ws' := [(h, .inr (3, [.ref a])), (a, .inl (X.2.1, 800, .inl (aI mf)))]) (st' := [.int (iI (rmean sm 4))]) [0, 1] rfl rfl rfl rfl ?_)
    refine J_top (b := (mahead mf ch i)) (by rw [hsm, show bk - 1 = 4 by omega]; exact msum_4 mf ch i) ?_
    exact J_iret cx hr dX3_ahead_57 ⟨rfl, rfl⟩
  · skip
    refine J_iload_n cx dX3_ahead_11 rfl 3 rfl ?_
    refine J_iload cx dX3_ahead_12 0 rfl ?_
    refine J_iload_n cx dX3_ahead_14 rfl 4 rfl ?_
    refine J_imul cx dX3_ahead_15 ?_
    refine J_isub cx dX3_ahead_16 ?_
    refine J_istore (lv' := [(5, .int (iI (i - (bk * ch)))), (4, .int (iI bk)), (3, .int (iI sm)), (0, .ref h), (1, .int (iI i)), (2, .int (iI ch))]) cx dX3_ahead_17 (by decide) rfl ?_
    refine J_iload_n cx dX3_ahead_19 rfl 2 rfl ?_
    refine J_iload cx dX3_ahead_20 0 rfl ?_
    refine J_if_lt (tgt := 33) cx dX3_ahead_22 (by decide) (by omega) (fun h_22 => ?_) (fun h_22 => ?_)
    · skip
      refine J_iconst cx dX3_ahead_33 ?_
      refine J_goto (tgt := 44) cx dX3_ahead_34 (by decide) ?_
      refine J_iadd cx dX3_ahead_44 ?_
      refine J_istore_n (lv' := [(3, .int (iI (sm + 0))), (5, .int (iI (i - (bk * ch)))), (4, .int (iI bk)), (0, .ref h), (1, .int (iI i)), (2, .int (iI ch))]) cx dX3_ahead_45 rfl (by decide) rfl ?_
      refine J_iinc (q := 2) (lv' := [(4, .int (iI (bk + 1))), (3, .int (iI (sm + 0))), (5, .int (iI (i - (bk * ch)))), (0, .ref h), (1, .int (iI i)), (2, .int (iI ch))]) cx dX3_ahead_46 rfl (by decide) rfl ?_
      refine J_goto (tgt := 5) cx dX3_ahead_49 (by decide) ?_
      refine J_lv (lv' := [(4, .int (iI (bk + 1))), (3, .int (iI (sm + 0))), (0, .ref h), (1, .int (iI i)), (2, .int (iI ch))]) [0, 1, 3, 4, 5] rfl ?_
      exact ih_5 (bk + 1) (sm + 0) ⟨(by omega), (by have e := msum_s (mf := mf) (ch := ch) (i := i) (k := bk - 1) (by omega); rw [Int.sub_add_cancel] at e; rw [show bk + 1 - 1 = bk by omega, e, ← hsm, mb]; split <;> omega)⟩ (by omega)
    · skip
      refine J_iload cx dX3_ahead_25 0 rfl ?_
      refine J_sipush cx dX3_ahead_27 (by decide) ?_
      refine J_icmp_lt (tgt := 37) cx dX3_ahead_30 (by decide) (by omega) (by omega) (fun h_30 => ?_) (fun h_30 => ?_)
      · skip
        refine J_aload_n cx dX3_ahead_37 rfl 3 rfl ?_
        refine J_get cx inC3 0 rfl rfl 0 (by decide) T60 rfl rfl dX3_ahead_38 ?_
        refine J_iload cx dX3_ahead_41 0 rfl ?_
        refine J_iald cx 1 rfl (by omega) (by decide) dX3_ahead_43 ?_
        refine J_iadd cx dX3_ahead_44 ?_
        refine J_istore_n (lv' := [(3, .int (iI (sm + (mf (i - (bk * ch)))))), (5, .int (iI (i - (bk * ch)))), (4, .int (iI bk)), (0, .ref h), (1, .int (iI i)), (2, .int (iI ch))]) cx dX3_ahead_45 rfl (by decide) rfl ?_
        refine J_iinc (q := 2) (lv' := [(4, .int (iI (bk + 1))), (3, .int (iI (sm + (mf (i - (bk * ch)))))), (5, .int (iI (i - (bk * ch)))), (0, .ref h), (1, .int (iI i)), (2, .int (iI ch))]) cx dX3_ahead_46 rfl (by decide) rfl ?_
        refine J_goto (tgt := 5) cx dX3_ahead_49 (by decide) ?_
        refine J_lv (lv' := [(4, .int (iI (bk + 1))), (3, .int (iI (sm + (mf (i - (bk * ch)))))), (0, .ref h), (1, .int (iI i)), (2, .int (iI ch))]) [0, 1, 3, 4, 5] rfl ?_
        exact ih_5 (bk + 1) (sm + (mf (i - (bk * ch)))) ⟨(by omega), (by have e := msum_s (mf := mf) (ch := ch) (i := i) (k := bk - 1) (by omega); rw [Int.sub_add_cancel] at e; rw [show bk + 1 - 1 = bk by omega, e, ← hsm, mb]; split <;> omega)⟩ (by omega)
      · exfalso; omega
set_option maxHeartbeats 4000000 in
set_option maxRecDepth 100000 in
theorem mX3_settle (l : Launch) (X : GX) (h : Nat) (a : Nat) (mf : Int → Int) (h2 : Nat) (a2 : Nat) (f : Int → Int) (ch : Int) (bl : Int) (n : Int) (i : Int) (hc : 1 ≤ ch ∧ ch ≤ 2) (hn : 0 ≤ n ∧ n ≤ 800) (hb : 1 ≤ bl ∧ bl ≤ 64) (hi : 0 ≤ i ∧ i < 800) (hib : 0 ≤ i / ch * bl ∧ i / ch * bl < n / ch) (hf : ∀ j, -32768 ≤ f j ∧ f j ≤ 32767) : Ct l yX3_settle cX3_settle 7 none 2 43 0 0 X [.ref h, .int (iI i), .ref h2] [(h, .inr (3, [.ref a])), (a, .inl (X.2.1, 800, .inl (aI mf))), (h2, .inr (4, [.ref a2, .int (iI ch), .int (iI bl), .int (iI n)])), (a2, .inl (X.2.1, 800, .inl (aI f)))] (fun1 none [(h, .inr (3, [.ref a])), (a, .inl (X.2.1, 800, .inl (aI (upI mf i (bmean f ch bl (n / ch) i))))), (h2, .inr (4, [.ref a2, .int (iI ch), .int (iI bl), .int (iI n)])), (a2, .inl (X.2.1, 800, .inl (aI f)))]) := by
  refine Ct_of (own := RX3) (lv := [(0, .ref h), (1, .int (iI i)), (2, .ref h2)]) (by decide +kernel) rfl (Nat.le_of_ble_eq_true rfl) rfl ?_
  intro p e s m args below meth c A cx hr hin
  have hbs := bsize_rng (i := i) (ch := ch) (bl := bl) (many := n / ch) hb hib.2
  have hd1 := half_rng hc hn
  refine J_aload_n cx dX3_settle_0 rfl 2 rfl ?_
  refine J_iload_n cx dX3_settle_1 rfl 1 rfl ?_
  refine J_callV (C := RX4) (T := TX4) (N := 4) cx (As := [.int (iI i)]) (rest := []) (mX4_blockSize l X h2 a2 f ch bl n i (by omega) (by omega) (by omega) (by omega) (by omega)) T276 T273 T274 T275 T2 ⟨rfl, hd_X4_blockSize⟩ rfl ⟨Nat.le_of_ble_eq_true rfl, Nat.le_of_ble_eq_true rfl⟩ (Nat.le_of_ble_eq_true rfl) ⟨Nat.le_of_ble_eq_true rfl, Nat.le_of_ble_eq_true rfl⟩ [2, 3] [0, 1] rfl rfl rfl rfl rfl (by decide) 2 rfl rfl dX3_settle_2 rfl (J_f (ws' := [(h, .inr (3, [.ref a])), (a, .inl (X.2.1, 800, .inl (aI mf))), (h2, .inr (4, [.ref a2, .int (iI ch), .int (iI bl), .int (iI n)])), (a2, .inl (X.2.1, 800, .inl (aI f)))]) (st' := [.int (iI (bsize ch bl (n / ch) i))]) [0, 1, 2, 3] rfl rfl rfl rfl ?_)
  refine J_istore_n (lv' := [(3, .int (iI (bsize ch bl (n / ch) i))), (0, .ref h), (1, .int (iI i)), (2, .ref h2)]) cx dX3_settle_5 rfl (by decide) rfl ?_
  refine J_aload_n cx dX3_settle_6 rfl 3 rfl ?_
  refine J_iload_n cx dX3_settle_7 rfl 2 rfl ?_
  refine J_callV (C := RX4) (T := TX4) (N := 4) cx (As := [.int (iI i)]) (rest := []) (mX4_firstPlace l X h2 a2 f ch bl n i (by omega) (by omega)) T285 T282 T283 T284 T2 ⟨rfl, hd_X4_firstPlace⟩ rfl ⟨Nat.le_of_ble_eq_true rfl, Nat.le_of_ble_eq_true rfl⟩ (Nat.le_of_ble_eq_true rfl) ⟨Nat.le_of_ble_eq_true rfl, Nat.le_of_ble_eq_true rfl⟩ [2, 3] [0, 1] rfl rfl rfl rfl rfl (by decide) 2 rfl rfl dX3_settle_8 rfl (J_f (ws' := [(h, .inr (3, [.ref a])), (a, .inl (X.2.1, 800, .inl (aI mf))), (h2, .inr (4, [.ref a2, .int (iI ch), .int (iI bl), .int (iI n)])), (a2, .inl (X.2.1, 800, .inl (aI f)))]) (st' := [.int (iI (bfirst ch bl i))]) [0, 1, 2, 3] rfl rfl rfl rfl ?_)
  refine J_istore (lv' := [(4, .int (iI (bfirst ch bl i))), (3, .int (iI (bsize ch bl (n / ch) i))), (0, .ref h), (1, .int (iI i)), (2, .ref h2)]) cx dX3_settle_11 (by decide) rfl ?_
  refine J_iconst cx dX3_settle_13 ?_
  refine J_istore (lv' := [(5, .int (iI 0)), (4, .int (iI (bfirst ch bl i))), (3, .int (iI (bsize ch bl (n / ch) i))), (0, .ref h), (1, .int (iI i)), (2, .ref h2)]) cx dX3_settle_14 (by decide) rfl ?_
  refine J_iconst cx dX3_settle_16 ?_
  refine J_istore (lv' := [(6, .int (iI 0)), (5, .int (iI 0)), (4, .int (iI (bfirst ch bl i))), (3, .int (iI (bsize ch bl (n / ch) i))), (0, .ref h), (1, .int (iI i)), (2, .ref h2)]) cx dX3_settle_17 (by decide) rfl ?_
  refine J_loop2 (fun (j : Int) (sm : Int) => [(h, .inr (3, [.ref a])), (a, .inl (X.2.1, 800, .inl (aI mf))), (h2, .inr (4, [.ref a2, .int (iI ch), .int (iI bl), .int (iI n)])), (a2, .inl (X.2.1, 800, .inl (aI f)))]) (fun (j : Int) (sm : Int) => [(6, .int (iI j)), (5, .int (iI sm)), (4, .int (iI (bfirst ch bl i))), (3, .int (iI (bsize ch bl (n / ch) i))), (0, .ref h), (1, .int (iI i)), (2, .ref h2)]) (fun (j : Int) (sm : Int) => (0 ≤ j ∧ j ≤ bsize ch bl (n / ch) i) ∧ (sm = bsum f ch (bfirst ch bl i) j)) (fun (j : Int) (sm : Int) => (bsize ch bl (n / ch) i - j).toNat) 0 0 ⟨(by omega), (rfl)⟩ ?_
  intro j sm hI ih_19
  obtain ⟨hj, hsm⟩ := hI
  try dsimp only at hj hsm
  refine J_iload cx dX3_settle_19 0 rfl ?_
  refine J_iload_n cx dX3_settle_21 rfl 3 rfl ?_
  refine J_icmp_ge (tgt := 50) cx dX3_settle_22 (by decide) (by omega) (by omega) (fun h_22 => ?_) (fun h_22 => ?_)
  · skip
    refine J_iload_n cx dX3_settle_50 rfl 5 rfl ?_
    refine J_if_lt (tgt := 73) cx dX3_settle_51 (by decide) (by omega) (fun h_51 => ?_) (fun h_51 => ?_)
    · exfalso; omega
    · skip
      refine J_iload_n cx dX3_settle_54 rfl 5 rfl ?_
      refine J_sipush cx dX3_settle_55 (by decide) ?_
      refine J_icmp_ge (tgt := 73) cx dX3_settle_58 (by decide) (by omega) (by omega) (fun h_58 => ?_) (fun h_58 => ?_)
      · exfalso; omega
      · skip
        refine J_aload_n cx dX3_settle_61 rfl 4 rfl ?_
        refine J_get cx inC3 0 rfl rfl 0 (by decide) T60 rfl rfl dX3_settle_62 ?_
        refine J_iload_n cx dX3_settle_65 rfl 5 rfl ?_
        refine J_iload cx dX3_settle_66 1 rfl ?_
        refine J_iload_n cx dX3_settle_68 rfl 3 rfl ?_
        refine J_callSN cx (As := [.int (iI sm), .int (iI (bsize ch bl (n / ch) i))]) (rest := [.int (iI i), .ref a]) (mX7_roundedMean l X sm (bsize ch bl (n / ch) i) (by have h9 := bsum_rngI hf ch (bfirst ch bl i) (k := j) (by omega); omega) (by omega)) T296 T294 T295 T1 hd_X7_roundedMean rfl ⟨Nat.le_of_ble_eq_true rfl, Nat.le_of_ble_eq_true rfl⟩ (Nat.le_of_ble_eq_true rfl) ⟨Nat.le_of_ble_eq_true rfl, Nat.le_of_ble_eq_true rfl⟩ [] [0, 1, 2, 3] rfl rfl rfl rfl rfl (by decide) dX3_settle_69 rfl (J_f (ws' := [(h, .inr (3, [.ref a])), (a, .inl (X.2.1, 800, .inl (aI mf))), (h2, .inr (4, [.ref a2, .int (iI ch), .int (iI bl), .int (iI n)])), (a2, .inl (X.2.1, 800, .inl (aI f)))]) (st' := [.int (iI (rmean sm (bsize ch bl (n / ch) i))), .int (iI i), .ref a]) [0, 1, 2, 3] rfl rfl rfl rfl ?_)
        refine J_iast (ws' := [(h, .inr (3, [.ref a])), (a, .inl (X.2.1, 800, .inl (aI (upI mf i (rmean sm (bsize ch bl (n / ch) i)))))), (h2, .inr (4, [.ref a2, .int (iI ch), .int (iI bl), .int (iI n)])), (a2, .inl (X.2.1, 800, .inl (aI f)))]) cx 1 rfl (by omega) (by decide) rfl dX3_settle_72 ?_
        refine J_ws (ws' := [(h, .inr (3, [.ref a])), (a, .inl (X.2.1, 800, .inl (aI (upI mf i (bmean f ch bl (n / ch) i))))), (h2, .inr (4, [.ref a2, .int (iI ch), .int (iI bl), .int (iI n)])), (a2, .inl (X.2.1, 800, .inl (aI f)))]) (by rw [← show (upI mf i (rmean sm (bsize ch bl (n / ch) i))) = upI mf i (bmean f ch bl (n / ch) i) from by rw [hsm, show j = bsize ch bl (n / ch) i by omega]; rfl]) ?_
        exact J_vret cx hr dX3_settle_73 ⟨rfl, rfl⟩
  · skip
    have h_in := blk_in (ch := ch) (bl := bl) (n := n) (i := i) (j := j) hc hn.1 hib.1 hi.1 (by omega) (by omega)
    refine J_iload cx dX3_settle_25 1 rfl ?_
    refine J_aload_n cx dX3_settle_27 rfl 6 rfl ?_
    refine J_iload cx dX3_settle_28 2 rfl ?_
    refine J_iload cx dX3_settle_30 0 rfl ?_
    refine J_aload_n cx dX3_settle_32 rfl 6 rfl ?_
    refine J_getN cx inC4 2 rfl rfl 1 (by decide) T29 rfl rfl dX3_settle_33 ?_
    refine J_imul cx dX3_settle_36 ?_
    refine J_iadd cx dX3_settle_37 ?_
    refine J_callV (C := RX4) (T := TX4) (N := 4) cx (As := [.int (iI ((bfirst ch bl i) + (j * ch)))]) (rest := [.int (iI sm)]) (mX4_sampleAt l X h2 a2 f ch bl n ((bfirst ch bl i) + (j * ch)) (by omega) (by omega)) T293 T290 T291 T292 T2 ⟨rfl, hd_X4_sampleAt⟩ rfl ⟨Nat.le_of_ble_eq_true rfl, Nat.le_of_ble_eq_true rfl⟩ (Nat.le_of_ble_eq_true rfl) ⟨Nat.le_of_ble_eq_true rfl, Nat.le_of_ble_eq_true rfl⟩ [2, 3] [0, 1] rfl rfl rfl rfl rfl (by decide) 2 rfl rfl dX3_settle_38 rfl (J_f (ws' := [(h, .inr (3, [.ref a])), (a, .inl (X.2.1, 800, .inl (aI mf))), (h2, .inr (4, [.ref a2, .int (iI ch), .int (iI bl), .int (iI n)])), (a2, .inl (X.2.1, 800, .inl (aI f)))]) (st' := [.int (iI (smpA f n ((bfirst ch bl i) + (j * ch)))), .int (iI sm)]) [0, 1, 2, 3] rfl rfl rfl rfl ?_)
    refine J_iadd cx dX3_settle_41 ?_
    refine J_istore (lv' := [(5, .int (iI (sm + (smpA f n ((bfirst ch bl i) + (j * ch)))))), (6, .int (iI j)), (4, .int (iI (bfirst ch bl i))), (3, .int (iI (bsize ch bl (n / ch) i))), (0, .ref h), (1, .int (iI i)), (2, .ref h2)]) cx dX3_settle_42 (by decide) rfl ?_
    refine J_iinc (q := 1) (lv' := [(6, .int (iI (j + 1))), (5, .int (iI (sm + (smpA f n ((bfirst ch bl i) + (j * ch)))))), (4, .int (iI (bfirst ch bl i))), (3, .int (iI (bsize ch bl (n / ch) i))), (0, .ref h), (1, .int (iI i)), (2, .ref h2)]) cx dX3_settle_44 rfl (by decide) rfl ?_
    refine J_goto (tgt := 19) cx dX3_settle_47 (by decide) ?_
    exact ih_19 (j + 1) (sm + (smpA f n ((bfirst ch bl i) + (j * ch)))) ⟨(by omega), (by rw [bsum_s (by omega), hsm, smpA_in h_in])⟩ (by omega)
end
section
set_option maxHeartbeats 4000000 in
set_option maxRecDepth 100000 in
theorem mX2_clear (l : Launch) (X : GX) (h : Nat) (a : Nat) (r : Int → Int) (n : Int) : Ct l yX2_clear cX2_clear 1 none 0 0 0 0 X [.ref h] [(h, .inr (2, [.ref a, .int (iI n)])), (a, .inl (X.2.2, 3000, .inl (aI r)))] (fun1 none [(h, .inr (2, [.ref a, .int (iI 0)])), (a, .inl (X.2.2, 3000, .inl (aI r)))]) := by
  refine Ct_of (own := RX2) (lv := [(0, .ref h)]) (by decide +kernel) rfl (Nat.le_of_ble_eq_true rfl) rfl ?_
  intro p e s m args below meth c A cx hr hin
  refine J_aload_n cx dX2_clear_0 rfl 0 rfl ?_
  refine J_iconst cx dX2_clear_1 ?_
  refine J_put (ty := .int) (ws' := [(h, .inr (2, [.ref a, .int (iI 0)])), (a, .inl (X.2.2, 3000, .inl (aI r)))]) cx inC2 tyX2_ok nmX2 0 rfl rfl 1 (by decide) T78 rfl rfl (by decide +kernel) (rfl) (rfl) (Nat.le_of_ble_eq_true rfl) rfl dX2_clear_2 ?_
  exact J_vret cx hr dX2_clear_5 ⟨rfl, rfl⟩
set_option maxHeartbeats 4000000 in
set_option maxRecDepth 100000 in
theorem mX2_append (l : Launch) (X : GX) (h : Nat) (a : Nat) (r : Int → Int) (n : Int) (b : Int) (hn : 0 ≤ n ∧ n ≤ 3000) : Ct l yX2_append cX2_append 2 (some .boolean) 0 0 0 0 X [.ref h, .int (iI b)] [(h, .inr (2, [.ref a, .int (iI n)])), (a, .inl (X.2.2, 3000, .inl (aI r)))] (fun1 (some (.int (iI (if n < 3000 then 1 else 0)))) [(h, .inr (2, [.ref a, .int (iI (if n < 3000 then n + 1 else n))])), (a, .inl (X.2.2, 3000, .inl (aI (if n < 3000 then upI r n (w8 b) else r))))]) := by
  refine Ct_of (own := RX2) (lv := [(0, .ref h), (1, .int (iI b))]) (by decide +kernel) rfl (Nat.le_of_ble_eq_true rfl) rfl ?_
  intro p e s m args below meth c A cx hr hin
  refine J_aload_n cx dX2_append_0 rfl 0 rfl ?_
  refine J_get cx inC2 0 rfl rfl 1 (by decide) T78 rfl rfl dX2_append_1 ?_
  refine J_sipush cx dX2_append_4 (by decide) ?_
  refine J_icmp_lt (tgt := 12) cx dX2_append_7 (by decide) (by omega) (by omega) (fun h_7 => ?_) (fun h_7 => ?_)
  · skip
    refine J_aload_n cx dX2_append_12 rfl 0 rfl ?_
    refine J_get cx inC2 0 rfl rfl 0 (by decide) T76 rfl rfl dX2_append_13 ?_
    refine J_aload_n cx dX2_append_16 rfl 0 rfl ?_
    refine J_get cx inC2 0 rfl rfl 1 (by decide) T78 rfl rfl dX2_append_17 ?_
    refine J_iload_n cx dX2_append_20 rfl 1 rfl ?_
    refine J_i2b cx dX2_append_21 ?_
    refine J_bast (ws' := [(h, .inr (2, [.ref a, .int (iI n)])), (a, .inl (X.2.2, 3000, .inl (aI (upI r n (w8 (w8 b))))))]) cx 1 rfl (by omega) (by decide) rfl dX2_append_22 ?_
    refine J_aload_n cx dX2_append_23 rfl 0 rfl ?_
    refine J_dup cx dX2_append_24 rfl ?_
    refine J_get cx inC2 0 rfl rfl 1 (by decide) T78 rfl rfl dX2_append_25 ?_
    refine J_iconst cx dX2_append_28 ?_
    refine J_iadd cx dX2_append_29 ?_
    refine J_put (ty := .int) (ws' := [(h, .inr (2, [.ref a, .int (iI (n + 1))])), (a, .inl (X.2.2, 3000, .inl (aI (upI r n (w8 (w8 b))))))]) cx inC2 tyX2_ok nmX2 0 rfl rfl 1 (by decide) T78 rfl rfl (by decide +kernel) (rfl) (rfl) (Nat.le_of_ble_eq_true rfl) rfl dX2_append_30 ?_
    refine J_iconst cx dX2_append_33 ?_
    refine J_ws (ws' := [(h, .inr (2, [.ref a, .int (iI (if n < 3000 then n + 1 else n))])), (a, .inl (X.2.2, 3000, .inl (aI (if n < 3000 then upI r n (w8 b) else r))))]) (by rw [← show (n + 1) = if n < 3000 then n + 1 else n from by split <;> first | rfl | omega, ← show (upI r n (w8 (w8 b))) = if n < 3000 then upI r n (w8 b) else r from by split <;> first | rfl | (rw [w8_w8]; done) | omega]) ?_
    refine J_top (b := (if n < 3000 then 1 else 0)) (by split <;> first | rfl | omega) ?_
    exact J_zret cx hr (by split <;> omega) dX2_append_34 ⟨rfl, rfl⟩
  · skip
    refine J_iconst cx dX2_append_10 ?_
    refine J_ws (ws' := [(h, .inr (2, [.ref a, .int (iI (if n < 3000 then n + 1 else n))])), (a, .inl (X.2.2, 3000, .inl (aI (if n < 3000 then upI r n (w8 b) else r))))]) (by rw [← show (n) = if n < 3000 then n + 1 else n from by split <;> first | rfl | omega, ← show (r) = if n < 3000 then upI r n (w8 b) else r from by split <;> first | rfl | (rw [w8_w8]; done) | omega]) ?_
    refine J_top (b := (if n < 3000 then 1 else 0)) (by split <;> first | rfl | omega) ?_
    exact J_zret cx hr (by split <;> omega) dX2_append_11 ⟨rfl, rfl⟩
set_option maxHeartbeats 4000000 in
set_option maxRecDepth 100000 in
theorem mX2_byteAt (l : Launch) (X : GX) (h : Nat) (a : Nat) (r : Int → Int) (n : Int) (i : Int) (hn : 0 ≤ n ∧ n ≤ 3000) (hi : -2147483648 ≤ i ∧ i < 2147483648) : Ct l yX2_byteAt cX2_byteAt 2 (some .int) 0 0 0 0 X [.ref h, .int (iI i)] [(h, .inr (2, [.ref a, .int (iI n)])), (a, .inl (X.2.2, 3000, .inl (aI r)))] (fun1 (some (.int (iI (if i < 0 ∨ n ≤ i then -1 else r i % 256)))) [(h, .inr (2, [.ref a, .int (iI n)])), (a, .inl (X.2.2, 3000, .inl (aI r)))]) := by
  refine Ct_of (own := RX2) (lv := [(0, .ref h), (1, .int (iI i))]) (by decide +kernel) rfl (Nat.le_of_ble_eq_true rfl) rfl ?_
  intro p e s m args below meth c A cx hr hin
  refine J_iload_n cx dX2_byteAt_0 rfl 1 rfl ?_
  refine J_if_lt (tgt := 12) cx dX2_byteAt_1 (by decide) (by omega) (fun h_1 => ?_) (fun h_1 => ?_)
  · skip
    refine J_iconst cx dX2_byteAt_12 ?_
    refine J_goto (tgt := 26) cx dX2_byteAt_13 (by decide) ?_
    refine J_top (b := (if i < 0 ∨ n ≤ i then -1 else r i % 256)) (by split <;> first | rfl | omega) ?_
    exact J_iret cx hr dX2_byteAt_26 ⟨rfl, rfl⟩
  · skip
    refine J_iload_n cx dX2_byteAt_4 rfl 1 rfl ?_
    refine J_aload_n cx dX2_byteAt_5 rfl 0 rfl ?_
    refine J_get cx inC2 0 rfl rfl 1 (by decide) T78 rfl rfl dX2_byteAt_6 ?_
    refine J_icmp_lt (tgt := 16) cx dX2_byteAt_9 (by decide) (by omega) (by omega) (fun h_9 => ?_) (fun h_9 => ?_)
    · skip
      refine J_aload_n cx dX2_byteAt_16 rfl 0 rfl ?_
      refine J_get cx inC2 0 rfl rfl 0 (by decide) T76 rfl rfl dX2_byteAt_17 ?_
      refine J_iload_n cx dX2_byteAt_20 rfl 1 rfl ?_
      refine J_bald cx 1 rfl (by omega) (by decide) dX2_byteAt_21 ?_
      refine J_sipush cx dX2_byteAt_22 (by decide) ?_
      refine J_iand (r := (r i) % 256) cx dX2_byteAt_25 (iI_and255 _) ?_
      refine J_top (b := (if i < 0 ∨ n ≤ i then -1 else r i % 256)) (by split <;> first | rfl | omega) ?_
      exact J_iret cx hr dX2_byteAt_26 ⟨rfl, rfl⟩
    · skip
      refine J_iconst cx dX2_byteAt_12 ?_
      refine J_goto (tgt := 26) cx dX2_byteAt_13 (by decide) ?_
      refine J_top (b := (if i < 0 ∨ n ≤ i then -1 else r i % 256)) (by split <;> first | rfl | omega) ?_
      exact J_iret cx hr dX2_byteAt_26 ⟨rfl, rfl⟩
set_option maxHeartbeats 4000000 in
set_option maxRecDepth 100000 in
theorem mX2_copy (l : Launch) (X : GX) (h : Nat) (a : Nat) (r : Int → Int) (n : Int) (h2 : Nat) (a2 : Nat) (r2 : Int → Int) (n2 : Int) (hn : 0 ≤ n2 ∧ n2 ≤ 3000) (hw : ∀ j, 0 ≤ j → j < n2 → w8 (r2 j) = r2 j) : Ct l yX2_copy cX2_copy 2 none 1 40 0 0 X [.ref h, .ref h2] [(h, .inr (2, [.ref a, .int (iI n)])), (a, .inl (X.2.2, 3000, .inl (aI r))), (h2, .inr (2, [.ref a2, .int (iI n2)])), (a2, .inl (X.2.2, 3000, .inl (aI r2)))] (fun1 none [(h, .inr (2, [.ref a, .int (iI n2)])), (a, .inl (X.2.2, 3000, .inl (aI (cpyI r2 r n2)))), (h2, .inr (2, [.ref a2, .int (iI n2)])), (a2, .inl (X.2.2, 3000, .inl (aI r2)))]) := by
  refine Ct_of (own := RX2) (lv := [(0, .ref h), (1, .ref h2)]) (by decide +kernel) rfl (Nat.le_of_ble_eq_true rfl) rfl ?_
  intro p e s m args below meth c A cx hr hin
  refine J_aload_n cx dX2_copy_0 rfl 0 rfl ?_
  refine J_aload_n cx dX2_copy_1 rfl 1 rfl ?_
  refine J_get cx inC2 2 rfl rfl 1 (by decide) T78 rfl rfl dX2_copy_2 ?_
  refine J_put (ty := .int) (ws' := [(h, .inr (2, [.ref a, .int (iI n2)])), (a, .inl (X.2.2, 3000, .inl (aI r))), (h2, .inr (2, [.ref a2, .int (iI n2)])), (a2, .inl (X.2.2, 3000, .inl (aI r2)))]) cx inC2 tyX2_ok nmX2 0 rfl rfl 1 (by decide) T78 rfl rfl (by decide +kernel) (rfl) (rfl) (Nat.le_of_ble_eq_true rfl) rfl dX2_copy_5 ?_
  refine J_aload_n cx dX2_copy_8 rfl 1 rfl ?_
  refine J_get cx inC2 2 rfl rfl 0 (by decide) T76 rfl rfl dX2_copy_9 ?_
  refine J_iconst cx dX2_copy_12 ?_
  refine J_aload_n cx dX2_copy_13 rfl 0 rfl ?_
  refine J_get cx inC2 0 rfl rfl 0 (by decide) T76 rfl rfl dX2_copy_14 ?_
  refine J_iconst cx dX2_copy_17 ?_
  refine J_aload_n cx dX2_copy_18 rfl 0 rfl ?_
  refine J_get cx inC2 0 rfl rfl 1 (by decide) T78 rfl rfl dX2_copy_19 ?_
  refine J_copyB (ws' := [(h, .inr (2, [.ref a, .int (iI n2)])), (a, .inl (X.2.2, 3000, .inl (aI (cpyI r2 r n2)))), (h2, .inr (2, [.ref a2, .int (iI n2)])), (a2, .inl (X.2.2, 3000, .inl (aI r2)))]) cx T382 T235 T234 T10 3 1 rfl rfl (by omega) (by decide) (by decide) (hw) rfl (Nat.le_of_ble_eq_true rfl) (Nat.le_of_ble_eq_true rfl) (by decide) dX2_copy_22 ?_
  exact J_vret cx hr dX2_copy_25 ⟨rfl, rfl⟩
end
section
set_option maxHeartbeats 4000000 in
set_option maxRecDepth 100000 in
theorem mX1_restart (l : Launch) (X : GX) (hb : Nat) (hr2 : Nat) (ha : Nat) (o : Int → Int) (pe : Int) (pb : Int) (n : Int) (w : Int → Int) : Ct l yX1_restart cX1_restart 1 none 1 20 0 0 X [.ref hb] [(hb, .inr (1, [.ref hr2, .int (iI pe), .int (iI pb)])), (hr2, .inr (2, [.ref ha, .int (iI n)])), (ha, .inl (X.2.2, 3000, .inl (aI o)))] (fun1 none [(hb, .inr (1, [.ref hr2, .int (iI (pk (w, 0).1 (8 * ((w, 0).2 / 8)) ((w, 0).2 % 8))), .int (iI ((w, 0).2 % 8))])), (hr2, .inr (2, [.ref ha, .int (iI ((w, 0).2 / 8))])), (ha, .inl (X.2.2, 3000, .inl (aI (rowOf o (w, 0).1 (w, 0).2))))]) := by
  refine Ct_of (own := RX1) (lv := [(0, .ref hb)]) (by decide +kernel) rfl (Nat.le_of_ble_eq_true rfl) rfl ?_
  intro p e s m args below meth c A cx hr hin
  refine J_aload_n cx dX1_restart_0 rfl 0 rfl ?_
  refine J_get cx inC1 0 rfl rfl 0 (by decide) T87 rfl rfl dX1_restart_1 ?_
  refine J_callV (C := RX2) (T := TX2) (N := 2) cx (As := []) (rest := []) (mX2_clear l X hr2 ha o n ) T250 T247 T248 T249 T6 ⟨rfl, hd_X2_clear⟩ rfl ⟨Nat.le_of_ble_eq_true rfl, Nat.le_of_ble_eq_true rfl⟩ (Nat.le_of_ble_eq_true rfl) ⟨Nat.le_of_ble_eq_true rfl, Nat.le_of_ble_eq_true rfl⟩ [1, 2] [0] rfl rfl rfl rfl rfl (by decide) 1 rfl rfl dX1_restart_4 rfl (J_f (ws' := [(hb, .inr (1, [.ref hr2, .int (iI pe), .int (iI pb)])), (hr2, .inr (2, [.ref ha, .int (iI 0)])), (ha, .inl (X.2.2, 3000, .inl (aI o)))]) (st' := []) [0, 1, 2] rfl rfl rfl rfl ?_)
  refine J_aload_n cx dX1_restart_7 rfl 0 rfl ?_
  refine J_iconst cx dX1_restart_8 ?_
  refine J_put (ty := .int) (ws' := [(hb, .inr (1, [.ref hr2, .int (iI 0), .int (iI pb)])), (hr2, .inr (2, [.ref ha, .int (iI 0)])), (ha, .inl (X.2.2, 3000, .inl (aI o)))]) cx inC1 tyX1_ok nmX1 0 rfl rfl 1 (by decide) T89 rfl rfl (by decide +kernel) (rfl) (rfl) (Nat.le_of_ble_eq_true rfl) rfl dX1_restart_9 ?_
  refine J_aload_n cx dX1_restart_12 rfl 0 rfl ?_
  refine J_iconst cx dX1_restart_13 ?_
  refine J_put (ty := .int) (ws' := [(hb, .inr (1, [.ref hr2, .int (iI 0), .int (iI 0)])), (hr2, .inr (2, [.ref ha, .int (iI 0)])), (ha, .inl (X.2.2, 3000, .inl (aI o)))]) cx inC1 tyX1_ok nmX1 0 rfl rfl 2 (by decide) T90 rfl rfl (by decide +kernel) (rfl) (rfl) (Nat.le_of_ble_eq_true rfl) rfl dX1_restart_14 ?_
  refine J_ws (ws' := [(hb, .inr (1, [.ref hr2, .int (iI (pk (w, 0).1 (8 * ((w, 0).2 / 8)) ((w, 0).2 % 8))), .int (iI ((w, 0).2 % 8))])), (hr2, .inr (2, [.ref ha, .int (iI ((w, 0).2 / 8))])), (ha, .inl (X.2.2, 3000, .inl (aI (rowOf o (w, 0).1 (w, 0).2))))]) (by rw [show rowOf o (w, 0).1 (w, 0).2 = o from by funext j; unfold rowOf; rw [if_neg (by show ¬ (0 ≤ j ∧ j < 0 / 8); omega)]]; rfl) ?_
  exact J_vret cx hr dX1_restart_17 ⟨rfl, rfl⟩
set_option maxHeartbeats 4000000 in
set_option maxRecDepth 100000 in
theorem mX1_putBit (l : Launch) (X : GX) (hb : Nat) (hr2 : Nat) (ha : Nat) (o : Int → Int) (x : BB) (b : Int) (hx : 0 ≤ x.2 ∧ x.2 < 24000) : Ct l yX1_putBit cX1_putBit 2 none 1 21 0 0 X [.ref hb, .int (iI b)] [(hb, .inr (1, [.ref hr2, .int (iI (pk x.1 (8 * (x.2 / 8)) (x.2 % 8))), .int (iI (x.2 % 8))])), (hr2, .inr (2, [.ref ha, .int (iI (x.2 / 8))])), (ha, .inl (X.2.2, 3000, .inl (aI (rowOf o x.1 x.2))))] (fun1 none [(hb, .inr (1, [.ref hr2, .int (iI (pk (pbit b x).1 (8 * ((pbit b x).2 / 8)) ((pbit b x).2 % 8))), .int (iI ((pbit b x).2 % 8))])), (hr2, .inr (2, [.ref ha, .int (iI ((pbit b x).2 / 8))])), (ha, .inl (X.2.2, 3000, .inl (aI (rowOf o (pbit b x).1 (pbit b x).2))))]) := by
  refine Ct_of (own := RX1) (lv := [(0, .ref hb), (1, .int (iI b))]) (by decide +kernel) rfl (Nat.le_of_ble_eq_true rfl) rfl ?_
  intro p e s m args below meth c A cx hr hin
  refine J_aload_n cx dX1_putBit_0 rfl 0 rfl ?_
  refine J_aload_n cx dX1_putBit_1 rfl 0 rfl ?_
  refine J_get cx inC1 0 rfl rfl 1 (by decide) T89 rfl rfl dX1_putBit_2 ?_
  refine J_iconst cx dX1_putBit_5 ?_
  refine J_imul cx dX1_putBit_6 ?_
  refine J_iload_n cx dX1_putBit_7 rfl 1 rfl ?_
  refine J_iadd cx dX1_putBit_8 ?_
  refine J_put (ty := .int) (ws' := [(hb, .inr (1, [.ref hr2, .int (iI (((pk x.1 (8 * (x.2 / 8)) (x.2 % 8)) * 2) + b)), .int (iI (x.2 % 8))])), (hr2, .inr (2, [.ref ha, .int (iI (x.2 / 8))])), (ha, .inl (X.2.2, 3000, .inl (aI (rowOf o x.1 x.2))))]) cx inC1 tyX1_ok nmX1 0 rfl rfl 1 (by decide) T89 rfl rfl (by decide +kernel) (rfl) (rfl) (Nat.le_of_ble_eq_true rfl) rfl dX1_putBit_9 ?_
  refine J_aload_n cx dX1_putBit_12 rfl 0 rfl ?_
  refine J_dup cx dX1_putBit_13 rfl ?_
  refine J_get cx inC1 0 rfl rfl 2 (by decide) T90 rfl rfl dX1_putBit_14 ?_
  refine J_iconst cx dX1_putBit_17 ?_
  refine J_iadd cx dX1_putBit_18 ?_
  refine J_put (ty := .int) (ws' := [(hb, .inr (1, [.ref hr2, .int (iI (((pk x.1 (8 * (x.2 / 8)) (x.2 % 8)) * 2) + b)), .int (iI ((x.2 % 8) + 1))])), (hr2, .inr (2, [.ref ha, .int (iI (x.2 / 8))])), (ha, .inl (X.2.2, 3000, .inl (aI (rowOf o x.1 x.2))))]) cx inC1 tyX1_ok nmX1 0 rfl rfl 2 (by decide) T90 rfl rfl (by decide +kernel) (rfl) (rfl) (Nat.le_of_ble_eq_true rfl) rfl dX1_putBit_19 ?_
  refine J_aload_n cx dX1_putBit_22 rfl 0 rfl ?_
  refine J_get cx inC1 0 rfl rfl 2 (by decide) T90 rfl rfl dX1_putBit_23 ?_
  refine J_bipush cx dX1_putBit_26 (by decide) ?_
  refine J_icmp_ne (tgt := 53) cx dX1_putBit_28 (by decide) (by omega) (by omega) (fun h_28 => ?_) (fun h_28 => ?_)
  · skip
    refine J_ws (ws' := [(hb, .inr (1, [.ref hr2, .int (iI (pk (pbit b x).1 (8 * ((pbit b x).2 / 8)) ((pbit b x).2 % 8))), .int (iI ((pbit b x).2 % 8))])), (hr2, .inr (2, [.ref ha, .int (iI ((pbit b x).2 / 8))])), (ha, .inl (X.2.2, 3000, .inl (aI (rowOf o (pbit b x).1 (pbit b x).2))))]) (by rw [← show (((pk x.1 (8 * (x.2 / 8)) (x.2 % 8)) * 2) + b) = pk (pbit b x).1 (8 * ((pbit b x).2 / 8)) ((pbit b x).2 % 8) from by first | exact bw_p1 b hx.1 h_28 | exact bw_p2 b hx.1 h_28, ← show ((x.2 % 8) + 1) = (pbit b x).2 % 8 from by rw [pbit_2]; omega, ← show (x.2 / 8) = (pbit b x).2 / 8 from by rw [pbit_2]; first | omega | (rw [if_pos (by omega)]; omega), ← show (rowOf o x.1 x.2) = rowOf o (pbit b x).1 (pbit b x).2 from by first | exact rowOf_1 o b hx.1 h_28 | (rw [if_pos (by omega)]; exact rowOf_2 o b hx.1 h_28)]) ?_
    exact J_vret cx hr dX1_putBit_53 ⟨rfl, rfl⟩
  · skip
    refine J_aload_n cx dX1_putBit_31 rfl 0 rfl ?_
    refine J_get cx inC1 0 rfl rfl 0 (by decide) T87 rfl rfl dX1_putBit_32 ?_
    refine J_aload_n cx dX1_putBit_35 rfl 0 rfl ?_
    refine J_get cx inC1 0 rfl rfl 1 (by decide) T89 rfl rfl dX1_putBit_36 ?_
    refine J_callV (C := RX2) (T := TX2) (N := 2) cx (As := [.int (iI (((pk x.1 (8 * (x.2 / 8)) (x.2 % 8)) * 2) + b))]) (rest := []) (mX2_append l X hr2 ha (rowOf o x.1 x.2) (x.2 / 8) (((pk x.1 (8 * (x.2 / 8)) (x.2 % 8)) * 2) + b) (by omega)) T262 T259 T260 T261 T6 ⟨rfl, hd_X2_append⟩ rfl ⟨Nat.le_of_ble_eq_true rfl, Nat.le_of_ble_eq_true rfl⟩ (Nat.le_of_ble_eq_true rfl) ⟨Nat.le_of_ble_eq_true rfl, Nat.le_of_ble_eq_true rfl⟩ [1, 2] [0] rfl rfl rfl rfl rfl (by decide) 1 rfl rfl dX1_putBit_39 rfl (J_f (ws' := [(hb, .inr (1, [.ref hr2, .int (iI (((pk x.1 (8 * (x.2 / 8)) (x.2 % 8)) * 2) + b)), .int (iI ((x.2 % 8) + 1))])), (hr2, .inr (2, [.ref ha, .int (iI (if (x.2 / 8) < 3000 then (x.2 / 8) + 1 else (x.2 / 8)))])), (ha, .inl (X.2.2, 3000, .inl (aI (if (x.2 / 8) < 3000 then upI (rowOf o x.1 x.2) (x.2 / 8) (w8 (((pk x.1 (8 * (x.2 / 8)) (x.2 % 8)) * 2) + b)) else (rowOf o x.1 x.2)))))]) (st' := [.int (iI (if (x.2 / 8) < 3000 then 1 else 0))]) [0, 1, 2] rfl rfl rfl rfl ?_)
    refine J_pop cx dX1_putBit_42 rfl ?_
    refine J_aload_n cx dX1_putBit_43 rfl 0 rfl ?_
    refine J_iconst cx dX1_putBit_44 ?_
    refine J_put (ty := .int) (ws' := [(hb, .inr (1, [.ref hr2, .int (iI 0), .int (iI ((x.2 % 8) + 1))])), (hr2, .inr (2, [.ref ha, .int (iI (if (x.2 / 8) < 3000 then (x.2 / 8) + 1 else (x.2 / 8)))])), (ha, .inl (X.2.2, 3000, .inl (aI (if (x.2 / 8) < 3000 then upI (rowOf o x.1 x.2) (x.2 / 8) (w8 (((pk x.1 (8 * (x.2 / 8)) (x.2 % 8)) * 2) + b)) else (rowOf o x.1 x.2)))))]) cx inC1 tyX1_ok nmX1 0 rfl rfl 1 (by decide) T89 rfl rfl (by decide +kernel) (rfl) (rfl) (Nat.le_of_ble_eq_true rfl) rfl dX1_putBit_45 ?_
    refine J_aload_n cx dX1_putBit_48 rfl 0 rfl ?_
    refine J_iconst cx dX1_putBit_49 ?_
    refine J_put (ty := .int) (ws' := [(hb, .inr (1, [.ref hr2, .int (iI 0), .int (iI 0)])), (hr2, .inr (2, [.ref ha, .int (iI (if (x.2 / 8) < 3000 then (x.2 / 8) + 1 else (x.2 / 8)))])), (ha, .inl (X.2.2, 3000, .inl (aI (if (x.2 / 8) < 3000 then upI (rowOf o x.1 x.2) (x.2 / 8) (w8 (((pk x.1 (8 * (x.2 / 8)) (x.2 % 8)) * 2) + b)) else (rowOf o x.1 x.2)))))]) cx inC1 tyX1_ok nmX1 0 rfl rfl 2 (by decide) T90 rfl rfl (by decide +kernel) (rfl) (rfl) (Nat.le_of_ble_eq_true rfl) rfl dX1_putBit_50 ?_
    refine J_ws (ws' := [(hb, .inr (1, [.ref hr2, .int (iI (pk (pbit b x).1 (8 * ((pbit b x).2 / 8)) ((pbit b x).2 % 8))), .int (iI ((pbit b x).2 % 8))])), (hr2, .inr (2, [.ref ha, .int (iI ((pbit b x).2 / 8))])), (ha, .inl (X.2.2, 3000, .inl (aI (rowOf o (pbit b x).1 (pbit b x).2))))]) (by rw [← show (0) = pk (pbit b x).1 (8 * ((pbit b x).2 / 8)) ((pbit b x).2 % 8) from by first | exact bw_p1 b hx.1 h_28 | exact bw_p2 b hx.1 h_28, ← show (0) = (pbit b x).2 % 8 from by rw [pbit_2]; omega, ← show (if (x.2 / 8) < 3000 then (x.2 / 8) + 1 else (x.2 / 8)) = (pbit b x).2 / 8 from by rw [pbit_2]; first | omega | (rw [if_pos (by omega)]; omega), ← show (if (x.2 / 8) < 3000 then upI (rowOf o x.1 x.2) (x.2 / 8) (w8 (((pk x.1 (8 * (x.2 / 8)) (x.2 % 8)) * 2) + b)) else (rowOf o x.1 x.2)) = rowOf o (pbit b x).1 (pbit b x).2 from by first | exact rowOf_1 o b hx.1 h_28 | (rw [if_pos (by omega)]; exact rowOf_2 o b hx.1 h_28)]) ?_
    exact J_vret cx hr dX1_putBit_53 ⟨rfl, rfl⟩
set_option maxHeartbeats 4000000 in
set_option maxRecDepth 100000 in
theorem mX1_putLowBits (l : Launch) (X : GX) (hb : Nat) (hr2 : Nat) (ha : Nat) (o : Int → Int) (x : BB) (k : Int) (v : Int) (hk : 0 ≤ k ∧ k ≤ 30) (hv : -2147483648 ≤ v ∧ v < 2147483648) (hx : 0 ≤ x.2 ∧ x.2 + k ≤ 24000) : Ct l yX1_putLowBits cX1_putLowBits 4 none 2 42 0 0 X [.ref hb, .int (iI k), .int (iI v)] [(hb, .inr (1, [.ref hr2, .int (iI (pk x.1 (8 * (x.2 / 8)) (x.2 % 8))), .int (iI (x.2 % 8))])), (hr2, .inr (2, [.ref ha, .int (iI (x.2 / 8))])), (ha, .inl (X.2.2, 3000, .inl (aI (rowOf o x.1 x.2))))] (fun1 none [(hb, .inr (1, [.ref hr2, .int (iI (pk (plow v k.toNat x).1 (8 * ((plow v k.toNat x).2 / 8)) ((plow v k.toNat x).2 % 8))), .int (iI ((plow v k.toNat x).2 % 8))])), (hr2, .inr (2, [.ref ha, .int (iI ((plow v k.toNat x).2 / 8))])), (ha, .inl (X.2.2, 3000, .inl (aI (rowOf o (plow v k.toNat x).1 (plow v k.toNat x).2))))]) := by
  refine Ct_of (own := RX1) (lv := [(0, .ref hb), (1, .int (iI k)), (2, .int (iI v))]) (by decide +kernel) rfl (Nat.le_of_ble_eq_true rfl) rfl ?_
  intro p e s m args below meth c A cx hr hin
  refine J_iload_n cx dX1_putLowBits_0 rfl 1 rfl ?_
  refine J_iconst cx dX1_putLowBits_1 ?_
  refine J_isub cx dX1_putLowBits_2 ?_
  refine J_istore_n (lv' := [(3, .int (iI (k - 1))), (0, .ref hb), (1, .int (iI k)), (2, .int (iI v))]) cx dX1_putLowBits_3 rfl (by decide) rfl ?_
  refine J_loop2 (fun (sh : Int) (y : BB) => [(hb, .inr (1, [.ref hr2, .int (iI (pk y.1 (8 * (y.2 / 8)) (y.2 % 8))), .int (iI (y.2 % 8))])), (hr2, .inr (2, [.ref ha, .int (iI (y.2 / 8))])), (ha, .inl (X.2.2, 3000, .inl (aI (rowOf o y.1 y.2))))]) (fun (sh : Int) (y : BB) => [(3, .int (iI sh)), (0, .ref hb), (1, .int (iI k)), (2, .int (iI v))]) (fun (sh : Int) (y : BB) => (-1 ≤ sh ∧ sh < k) ∧ (plow v (sh + 1).toNat y = plow v k.toNat x) ∧ (y.2 + sh + 1 = x.2 + k)) (fun (sh : Int) (y : BB) => (sh + 1).toNat) (k - 1) x ⟨(by omega), (by rw [Int.sub_add_cancel]), (by omega)⟩ ?_
  intro sh y hI ih_4
  obtain ⟨hsh, hy, hyn⟩ := hI
  try dsimp only at hsh hy hyn
  refine J_iload_n cx dX1_putLowBits_4 rfl 0 rfl ?_
  refine J_if_lt (tgt := 23) cx dX1_putLowBits_5 (by decide) (by omega) (fun h_5 => ?_) (fun h_5 => ?_)
  · skip
    have hyy : y = plow v k.toNat x := by rw [← hy, show (sh + 1).toNat = 0 by omega]; rfl
    subst hyy
    exact J_vret cx hr dX1_putLowBits_23 ⟨rfl, rfl⟩
  · skip
    refine J_aload_n cx dX1_putLowBits_8 rfl 1 rfl ?_
    refine J_iload_n cx dX1_putLowBits_9 rfl 3 rfl ?_
    refine J_iload_n cx dX1_putLowBits_10 rfl 0 rfl ?_
    refine J_ishr cx dX1_putLowBits_11 (by omega) (by omega) ?_
    refine J_iconst cx dX1_putLowBits_12 ?_
    refine J_iand (r := (v / p2 sh) % 2) cx dX1_putLowBits_13 (iI_and1 _) ?_
    refine J_callV (C := RX1) (T := TX1) (N := 3) cx (As := [.int (iI ((v / p2 sh) % 2))]) (rest := []) (mX1_putBit l X hb hr2 ha o y ((v / p2 sh) % 2) (by omega)) T258 T255 T256 T257 T5 ⟨rfl, hd_X1_putBit⟩ rfl ⟨Nat.le_of_ble_eq_true rfl, Nat.le_of_ble_eq_true rfl⟩ (Nat.le_of_ble_eq_true rfl) ⟨Nat.le_of_ble_eq_true rfl, Nat.le_of_ble_eq_true rfl⟩ [0, 1, 2] [] rfl rfl rfl rfl rfl (by decide) 0 rfl rfl dX1_putLowBits_14 rfl (J_f (ws' := [(hb, .inr (1, [.ref hr2, .int (iI (pk (pbit ((v / p2 sh) % 2) y).1 (8 * ((pbit ((v / p2 sh) % 2) y).2 / 8)) ((pbit ((v / p2 sh) % 2) y).2 % 8))), .int (iI ((pbit ((v / p2 sh) % 2) y).2 % 8))])), (hr2, .inr (2, [.ref ha, .int (iI ((pbit ((v / p2 sh) % 2) y).2 / 8))])), (ha, .inl (X.2.2, 3000, .inl (aI (rowOf o (pbit ((v / p2 sh) % 2) y).1 (pbit ((v / p2 sh) % 2) y).2))))]) (st' := []) [0, 1, 2] rfl rfl rfl rfl ?_)
    refine J_iinc (q := 0) (lv' := [(3, .int (iI (sh + (-1)))), (0, .ref hb), (1, .int (iI k)), (2, .int (iI v))]) cx dX1_putLowBits_17 rfl (by decide) rfl ?_
    refine J_goto (tgt := 4) cx dX1_putLowBits_20 (by decide) ?_
    exact ih_4 (sh + (-1)) (pbit ((v / p2 sh) % 2) y) ⟨(by omega), (by have e5 := plow_step (v := v) (y := y) (sh := sh) (by omega); rw [← hy, e5, show sh + -1 + 1 = sh by omega]), (by rw [pbit_2]; omega)⟩ (by omega)
set_option maxHeartbeats 4000000 in
set_option maxRecDepth 100000 in
theorem mX1_putNumber (l : Launch) (X : GX) (hb : Nat) (hr2 : Nat) (ha : Nat) (o : Int → Int) (x : BB) (k : Int) (v : Int) (hk : 0 ≤ k ∧ k ≤ 15) (hv : 0 ≤ v ∧ v < 2147483648) (hx : 0 ≤ x.2 ∧ x.2 + nbits k v ≤ 24000) : Ct l yX1_putNumber cX1_putNumber 5 none 3 65 0 0 X [.ref hb, .int (iI k), .int (iI v)] [(hb, .inr (1, [.ref hr2, .int (iI (pk x.1 (8 * (x.2 / 8)) (x.2 % 8))), .int (iI (x.2 % 8))])), (hr2, .inr (2, [.ref ha, .int (iI (x.2 / 8))])), (ha, .inl (X.2.2, 3000, .inl (aI (rowOf o x.1 x.2))))] (fun1 none [(hb, .inr (1, [.ref hr2, .int (iI (pk (pnum k v x).1 (8 * ((pnum k v x).2 / 8)) ((pnum k v x).2 % 8))), .int (iI ((pnum k v x).2 % 8))])), (hr2, .inr (2, [.ref ha, .int (iI ((pnum k v x).2 / 8))])), (ha, .inl (X.2.2, 3000, .inl (aI (rowOf o (pnum k v x).1 (pnum k v x).2))))]) := by
  refine Ct_of (own := RX1) (lv := [(0, .ref hb), (1, .int (iI k)), (2, .int (iI v))]) (by decide +kernel) rfl (Nat.le_of_ble_eq_true rfl) rfl ?_
  intro p e s m args below meth c A cx hr hin
  have hz0 : 0 ≤ v / p2 k := Int.ediv_nonneg hv.1 (Int.le_of_lt (p2_pos k))
  have hnb : nbits k v = v / p2 k + 1 + k := rfl
  refine J_iload_n cx dX1_putNumber_0 rfl 2 rfl ?_
  refine J_iload_n cx dX1_putNumber_1 rfl 1 rfl ?_
  refine J_ishr cx dX1_putNumber_2 (by omega) (by omega) ?_
  refine J_istore_n (lv' := [(3, .int (iI (v / p2 k))), (0, .ref hb), (1, .int (iI k)), (2, .int (iI v))]) cx dX1_putNumber_3 rfl (by decide) rfl ?_
  refine J_iconst cx dX1_putNumber_4 ?_
  refine J_istore (lv' := [(4, .int (iI 0)), (3, .int (iI (v / p2 k))), (0, .ref hb), (1, .int (iI k)), (2, .int (iI v))]) cx dX1_putNumber_5 (by decide) rfl ?_
  refine J_loop2 (fun (j : Int) (y : BB) => [(hb, .inr (1, [.ref hr2, .int (iI (pk y.1 (8 * (y.2 / 8)) (y.2 % 8))), .int (iI (y.2 % 8))])), (hr2, .inr (2, [.ref ha, .int (iI (y.2 / 8))])), (ha, .inl (X.2.2, 3000, .inl (aI (rowOf o y.1 y.2))))]) (fun (j : Int) (y : BB) => [(4, .int (iI j)), (3, .int (iI (v / p2 k))), (0, .ref hb), (1, .int (iI k)), (2, .int (iI v))]) (fun (j : Int) (y : BB) => (0 ≤ j ∧ j ≤ v / p2 k) ∧ (y = pzer j.toNat x) ∧ (y.2 = x.2 + j)) (fun (j : Int) (y : BB) => (v / p2 k - j).toNat) 0 x ⟨(by omega), (rfl), (by omega)⟩ ?_
  intro j y hI ih_7
  obtain ⟨hj, hy, hyn⟩ := hI
  try dsimp only at hj hy hyn
  refine J_iload cx dX1_putNumber_7 0 rfl ?_
  refine J_iload_n cx dX1_putNumber_9 rfl 1 rfl ?_
  refine J_icmp_ge (tgt := 24) cx dX1_putNumber_10 (by decide) (by omega) (by omega) (fun h_10 => ?_) (fun h_10 => ?_)
  · skip
    have hyy : y = pzer (v / p2 k).toNat x := by rw [hy, show j = v / p2 k by omega]
    subst hyy
    refine J_aload_n cx dX1_putNumber_24 rfl 2 rfl ?_
    refine J_iconst cx dX1_putNumber_25 ?_
    refine J_callV (C := RX1) (T := TX1) (N := 3) cx (As := [.int (iI 1)]) (rest := []) (mX1_putBit l X hb hr2 ha o (pzer (v / p2 k).toNat x) 1 (by omega)) T258 T255 T256 T257 T5 ⟨rfl, hd_X1_putBit⟩ rfl ⟨Nat.le_of_ble_eq_true rfl, Nat.le_of_ble_eq_true rfl⟩ (Nat.le_of_ble_eq_true rfl) ⟨Nat.le_of_ble_eq_true rfl, Nat.le_of_ble_eq_true rfl⟩ [0, 1, 2] [] rfl rfl rfl rfl rfl (by decide) 0 rfl rfl dX1_putNumber_26 rfl (J_f (ws' := [(hb, .inr (1, [.ref hr2, .int (iI (pk (pbit 1 (pzer (v / p2 k).toNat x)).1 (8 * ((pbit 1 (pzer (v / p2 k).toNat x)).2 / 8)) ((pbit 1 (pzer (v / p2 k).toNat x)).2 % 8))), .int (iI ((pbit 1 (pzer (v / p2 k).toNat x)).2 % 8))])), (hr2, .inr (2, [.ref ha, .int (iI ((pbit 1 (pzer (v / p2 k).toNat x)).2 / 8))])), (ha, .inl (X.2.2, 3000, .inl (aI (rowOf o (pbit 1 (pzer (v / p2 k).toNat x)).1 (pbit 1 (pzer (v / p2 k).toNat x)).2))))]) (st' := []) [0, 1, 2] rfl rfl rfl rfl ?_)
    refine J_aload_n cx dX1_putNumber_29 rfl 2 rfl ?_
    refine J_iload_n cx dX1_putNumber_30 rfl 3 rfl ?_
    refine J_iload_n cx dX1_putNumber_31 rfl 4 rfl ?_
    refine J_callV (C := RX1) (T := TX1) (N := 3) cx (As := [.int (iI k), .int (iI v)]) (rest := []) (mX1_putLowBits l X hb hr2 ha o (pbit 1 (pzer (v / p2 k).toNat x)) k v (by omega) (by omega) (by rw [pbit_2]; omega)) T254 T267 T252 T253 T5 ⟨rfl, hd_X1_putLowBits⟩ rfl ⟨Nat.le_of_ble_eq_true rfl, Nat.le_of_ble_eq_true rfl⟩ (Nat.le_of_ble_eq_true rfl) ⟨Nat.le_of_ble_eq_true rfl, Nat.le_of_ble_eq_true rfl⟩ [0, 1, 2] [] rfl rfl rfl rfl rfl (by decide) 0 rfl rfl dX1_putNumber_32 rfl (J_f (ws' := [(hb, .inr (1, [.ref hr2, .int (iI (pk (plow v k.toNat (pbit 1 (pzer (v / p2 k).toNat x))).1 (8 * ((plow v k.toNat (pbit 1 (pzer (v / p2 k).toNat x))).2 / 8)) ((plow v k.toNat (pbit 1 (pzer (v / p2 k).toNat x))).2 % 8))), .int (iI ((plow v k.toNat (pbit 1 (pzer (v / p2 k).toNat x))).2 % 8))])), (hr2, .inr (2, [.ref ha, .int (iI ((plow v k.toNat (pbit 1 (pzer (v / p2 k).toNat x))).2 / 8))])), (ha, .inl (X.2.2, 3000, .inl (aI (rowOf o (plow v k.toNat (pbit 1 (pzer (v / p2 k).toNat x))).1 (plow v k.toNat (pbit 1 (pzer (v / p2 k).toNat x))).2))))]) (st' := []) [0, 1, 2] rfl rfl rfl rfl ?_)
    refine J_ws (ws' := [(hb, .inr (1, [.ref hr2, .int (iI (pk (pnum k v x).1 (8 * ((pnum k v x).2 / 8)) ((pnum k v x).2 % 8))), .int (iI ((pnum k v x).2 % 8))])), (hr2, .inr (2, [.ref ha, .int (iI ((pnum k v x).2 / 8))])), (ha, .inl (X.2.2, 3000, .inl (aI (rowOf o (pnum k v x).1 (pnum k v x).2))))]) rfl ?_
    exact J_vret cx hr dX1_putNumber_35 ⟨rfl, rfl⟩
  · skip
    refine J_aload_n cx dX1_putNumber_13 rfl 2 rfl ?_
    refine J_iconst cx dX1_putNumber_14 ?_
    refine J_callV (C := RX1) (T := TX1) (N := 3) cx (As := [.int (iI 0)]) (rest := []) (mX1_putBit l X hb hr2 ha o y 0 (by omega)) T258 T255 T256 T257 T5 ⟨rfl, hd_X1_putBit⟩ rfl ⟨Nat.le_of_ble_eq_true rfl, Nat.le_of_ble_eq_true rfl⟩ (Nat.le_of_ble_eq_true rfl) ⟨Nat.le_of_ble_eq_true rfl, Nat.le_of_ble_eq_true rfl⟩ [0, 1, 2] [] rfl rfl rfl rfl rfl (by decide) 0 rfl rfl dX1_putNumber_15 rfl (J_f (ws' := [(hb, .inr (1, [.ref hr2, .int (iI (pk (pbit 0 y).1 (8 * ((pbit 0 y).2 / 8)) ((pbit 0 y).2 % 8))), .int (iI ((pbit 0 y).2 % 8))])), (hr2, .inr (2, [.ref ha, .int (iI ((pbit 0 y).2 / 8))])), (ha, .inl (X.2.2, 3000, .inl (aI (rowOf o (pbit 0 y).1 (pbit 0 y).2))))]) (st' := []) [0, 1, 2] rfl rfl rfl rfl ?_)
    refine J_iinc (q := 0) (lv' := [(4, .int (iI (j + 1))), (3, .int (iI (v / p2 k))), (0, .ref hb), (1, .int (iI k)), (2, .int (iI v))]) cx dX1_putNumber_18 rfl (by decide) rfl ?_
    refine J_goto (tgt := 7) cx dX1_putNumber_21 (by decide) ?_
    exact ih_7 (j + 1) (pbit 0 y) ⟨(by omega), (by rw [hy]; exact pzer_step (by omega)), (by rw [pbit_2]; omega)⟩ (by omega)
set_option maxHeartbeats 4000000 in
set_option maxRecDepth 100000 in
theorem mX1_fillByte (l : Launch) (X : GX) (hb : Nat) (hr2 : Nat) (ha : Nat) (o : Int → Int) (x : BB) (hx : 0 ≤ x.2 ∧ x.2 ≤ 23992) : Ct l yX1_fillByte cX1_fillByte 1 none 3 65 0 0 X [.ref hb] [(hb, .inr (1, [.ref hr2, .int (iI (pk x.1 (8 * (x.2 / 8)) (x.2 % 8))), .int (iI (x.2 % 8))])), (hr2, .inr (2, [.ref ha, .int (iI (x.2 / 8))])), (ha, .inl (X.2.2, 3000, .inl (aI (rowOf o x.1 x.2))))] (fun1 none [(hb, .inr (1, [.ref hr2, .int (iI (pk (pzer ((8 - x.2 % 8) % 8).toNat x).1 (8 * ((pzer ((8 - x.2 % 8) % 8).toNat x).2 / 8)) ((pzer ((8 - x.2 % 8) % 8).toNat x).2 % 8))), .int (iI ((pzer ((8 - x.2 % 8) % 8).toNat x).2 % 8))])), (hr2, .inr (2, [.ref ha, .int (iI ((pzer ((8 - x.2 % 8) % 8).toNat x).2 / 8))])), (ha, .inl (X.2.2, 3000, .inl (aI (rowOf o (pzer ((8 - x.2 % 8) % 8).toNat x).1 (pzer ((8 - x.2 % 8) % 8).toNat x).2))))]) := by
  refine Ct_of (own := RX1) (lv := [(0, .ref hb)]) (by decide +kernel) rfl (Nat.le_of_ble_eq_true rfl) rfl ?_
  intro p e s m args below meth c A cx hr hin
  refine J_aload_n cx dX1_fillByte_0 rfl 0 rfl ?_
  refine J_get cx inC1 0 rfl rfl 2 (by decide) T90 rfl rfl dX1_fillByte_1 ?_
  refine J_if_le (tgt := 19) cx dX1_fillByte_4 (by decide) (by omega) (fun h_4 => ?_) (fun h_4 => ?_)
  · skip
    refine J_ws (ws' := [(hb, .inr (1, [.ref hr2, .int (iI (pk (pzer ((8 - x.2 % 8) % 8).toNat x).1 (8 * ((pzer ((8 - x.2 % 8) % 8).toNat x).2 / 8)) ((pzer ((8 - x.2 % 8) % 8).toNat x).2 % 8))), .int (iI ((pzer ((8 - x.2 % 8) % 8).toNat x).2 % 8))])), (hr2, .inr (2, [.ref ha, .int (iI ((pzer ((8 - x.2 % 8) % 8).toNat x).2 / 8))])), (ha, .inl (X.2.2, 3000, .inl (aI (rowOf o (pzer ((8 - x.2 % 8) % 8).toNat x).1 (pzer ((8 - x.2 % 8) % 8).toNat x).2))))]) (by rw [show ((8 - x.2 % 8) % 8).toNat = 0 by omega]; rfl) ?_
    exact J_vret cx hr dX1_fillByte_19 ⟨rfl, rfl⟩
  · skip
    refine J_aload_n cx dX1_fillByte_7 rfl 0 rfl ?_
    refine J_bipush cx dX1_fillByte_8 (by decide) ?_
    refine J_aload_n cx dX1_fillByte_10 rfl 0 rfl ?_
    refine J_get cx inC1 0 rfl rfl 2 (by decide) T90 rfl rfl dX1_fillByte_11 ?_
    refine J_isub cx dX1_fillByte_14 ?_
    refine J_iconst cx dX1_fillByte_15 ?_
    refine J_callV (C := RX1) (T := TX1) (N := 3) cx (As := [.int (iI (8 - (x.2 % 8))), .int (iI 0)]) (rest := []) (mX1_putLowBits l X hb hr2 ha o x (8 - (x.2 % 8)) 0 (by omega) (by omega) (by omega)) T254 T267 T252 T253 T5 ⟨rfl, hd_X1_putLowBits⟩ rfl ⟨Nat.le_of_ble_eq_true rfl, Nat.le_of_ble_eq_true rfl⟩ (Nat.le_of_ble_eq_true rfl) ⟨Nat.le_of_ble_eq_true rfl, Nat.le_of_ble_eq_true rfl⟩ [0, 1, 2] [] rfl rfl rfl rfl rfl (by decide) 0 rfl rfl dX1_fillByte_16 rfl (J_f (ws' := [(hb, .inr (1, [.ref hr2, .int (iI (pk (plow 0 (8 - (x.2 % 8)).toNat x).1 (8 * ((plow 0 (8 - (x.2 % 8)).toNat x).2 / 8)) ((plow 0 (8 - (x.2 % 8)).toNat x).2 % 8))), .int (iI ((plow 0 (8 - (x.2 % 8)).toNat x).2 % 8))])), (hr2, .inr (2, [.ref ha, .int (iI ((plow 0 (8 - (x.2 % 8)).toNat x).2 / 8))])), (ha, .inl (X.2.2, 3000, .inl (aI (rowOf o (plow 0 (8 - (x.2 % 8)).toNat x).1 (plow 0 (8 - (x.2 % 8)).toNat x).2))))]) (st' := []) [0, 1, 2] rfl rfl rfl rfl ?_)
    refine J_ws (ws' := [(hb, .inr (1, [.ref hr2, .int (iI (pk (pzer ((8 - x.2 % 8) % 8).toNat x).1 (8 * ((pzer ((8 - x.2 % 8) % 8).toNat x).2 / 8)) ((pzer ((8 - x.2 % 8) % 8).toNat x).2 % 8))), .int (iI ((pzer ((8 - x.2 % 8) % 8).toNat x).2 % 8))])), (hr2, .inr (2, [.ref ha, .int (iI ((pzer ((8 - x.2 % 8) % 8).toNat x).2 / 8))])), (ha, .inl (X.2.2, 3000, .inl (aI (rowOf o (pzer ((8 - x.2 % 8) % 8).toNat x).1 (pzer ((8 - x.2 % 8) % 8).toNat x).2))))]) (by have e5 : plow 0 (8 - x.2 % 8).toNat x = pzer ((8 - x.2 % 8) % 8).toNat x := (by rw [plow_0]; congr 1; omega); rw [e5]) ?_
    exact J_vret cx hr dX1_fillByte_19 ⟨rfl, rfl⟩
end
section
set_option maxHeartbeats 4000000 in
set_option maxRecDepth 100000 in
theorem mX0_restart (l : Launch) (X : GX) (hb : Nat) (hr2 : Nat) (ha : Nat) (r : Int → Int) (q : Int) (E : Int) (F : Int) : Ct l yX0_restart cX0_restart 1 none 0 0 0 0 X [.ref hb] [(hb, .inr (0, [.ref hr2, .int (iI q), .int (iI E)])), (hr2, .inr (2, [.ref ha, .int (iI F)])), (ha, .inl (X.2.2, 3000, .inl (aI r)))] (fun1 none [(hb, .inr (0, [.ref hr2, .int (iI 0), .int (iI (8 * F))])), (hr2, .inr (2, [.ref ha, .int (iI F)])), (ha, .inl (X.2.2, 3000, .inl (aI r)))]) := by
  refine Ct_of (own := RX0) (lv := [(0, .ref hb)]) (by decide +kernel) rfl (Nat.le_of_ble_eq_true rfl) rfl ?_
  intro p e s m args below meth c A cx hr hin
  refine J_aload_n cx dX0_restart_0 rfl 0 rfl ?_
  refine J_iconst cx dX0_restart_1 ?_
  refine J_put (ty := .int) (ws' := [(hb, .inr (0, [.ref hr2, .int (iI 0), .int (iI E)])), (hr2, .inr (2, [.ref ha, .int (iI F)])), (ha, .inl (X.2.2, 3000, .inl (aI r)))]) cx inC0 tyX0_ok nmX0 0 rfl rfl 1 (by decide) T146 rfl rfl (by decide +kernel) (rfl) (rfl) (Nat.le_of_ble_eq_true rfl) rfl dX0_restart_2 ?_
  refine J_aload_n cx dX0_restart_5 rfl 0 rfl ?_
  refine J_bipush cx dX0_restart_6 (by decide) ?_
  refine J_aload_n cx dX0_restart_8 rfl 0 rfl ?_
  refine J_get cx inC0 0 rfl rfl 0 (by decide) T144 rfl rfl dX0_restart_9 ?_
  refine J_getN cx inC2 1 rfl rfl 1 (by decide) T79 rfl rfl dX0_restart_12 ?_
  refine J_imul cx dX0_restart_15 ?_
  refine J_put (ty := .int) (ws' := [(hb, .inr (0, [.ref hr2, .int (iI 0), .int (iI (8 * F))])), (hr2, .inr (2, [.ref ha, .int (iI F)])), (ha, .inl (X.2.2, 3000, .inl (aI r)))]) cx inC0 tyX0_ok nmX0 0 rfl rfl 2 (by decide) T148 rfl rfl (by decide +kernel) (rfl) (rfl) (Nat.le_of_ble_eq_true rfl) rfl dX0_restart_16 ?_
  exact J_vret cx hr dX0_restart_19 ⟨rfl, rfl⟩
set_option maxHeartbeats 4000000 in
set_option maxRecDepth 100000 in
theorem mX0_bitHere (l : Launch) (X : GX) (hb : Nat) (hr2 : Nat) (ha : Nat) (r : Int → Int) (q : Int) (E : Int) (F : Int) (hq : 0 ≤ q ∧ q ≤ 24100) (hE : 0 ≤ E ∧ E ≤ 24000) (hrr : ∀ j, -128 ≤ r j ∧ r j < 128) : Ct l yX0_bitHere cX0_bitHere 1 (some .int) 0 0 0 0 X [.ref hb] [(hb, .inr (0, [.ref hr2, .int (iI q), .int (iI E)])), (hr2, .inr (2, [.ref ha, .int (iI F)])), (ha, .inl (X.2.2, 3000, .inl (aI r)))] (fun1 (some (.int (iI (if q < E then cbit r q else 0)))) [(hb, .inr (0, [.ref hr2, .int (iI q), .int (iI E)])), (hr2, .inr (2, [.ref ha, .int (iI F)])), (ha, .inl (X.2.2, 3000, .inl (aI r)))]) := by
  refine Ct_of (own := RX0) (lv := [(0, .ref hb)]) (by decide +kernel) rfl (Nat.le_of_ble_eq_true rfl) rfl ?_
  intro p e s m args below meth c A cx hr hin
  refine J_aload_n cx dX0_bitHere_0 rfl 0 rfl ?_
  refine J_get cx inC0 0 rfl rfl 1 (by decide) T146 rfl rfl dX0_bitHere_1 ?_
  refine J_aload_n cx dX0_bitHere_4 rfl 0 rfl ?_
  refine J_get cx inC0 0 rfl rfl 2 (by decide) T148 rfl rfl dX0_bitHere_5 ?_
  refine J_icmp_ge (tgt := 41) cx dX0_bitHere_8 (by decide) (by omega) (by omega) (fun h_8 => ?_) (fun h_8 => ?_)
  · skip
    refine J_iconst cx dX0_bitHere_41 ?_
    refine J_top (b := (if q < E then cbit r q else 0)) (by first | (rw [if_neg (by omega)]; done) | (rw [if_pos (by omega), p2_3]; rfl)) ?_
    exact J_iret cx hr dX0_bitHere_42 ⟨rfl, rfl⟩
  · skip
    refine J_aload_n cx dX0_bitHere_11 rfl 0 rfl ?_
    refine J_get cx inC0 0 rfl rfl 0 (by decide) T144 rfl rfl dX0_bitHere_12 ?_
    refine J_getN cx inC2 1 rfl rfl 0 (by decide) T77 rfl rfl dX0_bitHere_15 ?_
    refine J_aload_n cx dX0_bitHere_18 rfl 0 rfl ?_
    refine J_get cx inC0 0 rfl rfl 1 (by decide) T146 rfl rfl dX0_bitHere_19 ?_
    refine J_iconst cx dX0_bitHere_22 ?_
    refine J_ishr cx dX0_bitHere_23 (by omega) (by omega) ?_
    refine J_bald cx 2 rfl (by rw [p2_3]; omega) (by decide) dX0_bitHere_24 ?_
    refine J_bipush cx dX0_bitHere_25 (by decide) ?_
    refine J_aload_n cx dX0_bitHere_27 rfl 0 rfl ?_
    refine J_get cx inC0 0 rfl rfl 1 (by decide) T146 rfl rfl dX0_bitHere_28 ?_
    refine J_bipush cx dX0_bitHere_31 (by decide) ?_
    refine J_iand (r := q % 8) cx dX0_bitHere_33 (iI_and7 _) ?_
    refine J_isub cx dX0_bitHere_34 ?_
    refine J_ishr cx dX0_bitHere_35 (by have := hrr (q / p2 3); omega) (by omega) ?_
    refine J_iconst cx dX0_bitHere_36 ?_
    refine J_iand (r := ((r (q / p2 3)) / p2 (7 - (q % 8))) % 2) cx dX0_bitHere_37 (iI_and1 _) ?_
    refine J_goto (tgt := 42) cx dX0_bitHere_38 (by decide) ?_
    refine J_top (b := (if q < E then cbit r q else 0)) (by first | (rw [if_neg (by omega)]; done) | (rw [if_pos (by omega), p2_3]; rfl)) ?_
    exact J_iret cx hr dX0_bitHere_42 ⟨rfl, rfl⟩
set_option maxHeartbeats 4000000 in
set_option maxRecDepth 100000 in
theorem mX0_nextLowBits (l : Launch) (X : GX) (hb : Nat) (hr2 : Nat) (ha : Nat) (r : Int → Int) (q : Int) (E : Int) (F : Int) (k : Int) (hq : 0 ≤ q ∧ q ≤ 24010) (hE : 0 ≤ E ∧ E ≤ 24000) (hrr : ∀ j, -128 ≤ r j ∧ r j < 128) (hk : 0 ≤ k ∧ k ≤ 15) : Ct l yX0_nextLowBits cX0_nextLowBits 4 (some .int) 1 20 0 0 X [.ref hb, .int (iI k)] [(hb, .inr (0, [.ref hr2, .int (iI q), .int (iI E)])), (hr2, .inr (2, [.ref ha, .int (iI F)])), (ha, .inl (X.2.2, 3000, .inl (aI r)))] (fun1 (some (.int (iI (if E - q < k then -1 else pk (cbit r) q k)))) [(hb, .inr (0, [.ref hr2, .int (iI (if E - q < k then q else q + k)), .int (iI E)])), (hr2, .inr (2, [.ref ha, .int (iI F)])), (ha, .inl (X.2.2, 3000, .inl (aI r)))]) := by
  refine Ct_of (own := RX0) (lv := [(0, .ref hb), (1, .int (iI k))]) (by decide +kernel) rfl (Nat.le_of_ble_eq_true rfl) rfl ?_
  intro p e s m args below meth c A cx hr hin
  refine J_aload_n cx dX0_nextLowBits_0 rfl 0 rfl ?_
  refine J_get cx inC0 0 rfl rfl 2 (by decide) T148 rfl rfl dX0_nextLowBits_1 ?_
  refine J_aload_n cx dX0_nextLowBits_4 rfl 0 rfl ?_
  refine J_get cx inC0 0 rfl rfl 1 (by decide) T146 rfl rfl dX0_nextLowBits_5 ?_
  refine J_isub cx dX0_nextLowBits_8 ?_
  refine J_iload_n cx dX0_nextLowBits_9 rfl 1 rfl ?_
  refine J_icmp_ge (tgt := 15) cx dX0_nextLowBits_10 (by decide) (by omega) (by omega) (fun h_10 => ?_) (fun h_10 => ?_)
  · skip
    refine J_iconst cx dX0_nextLowBits_15 ?_
    refine J_istore_n (lv' := [(2, .int (iI 0)), (0, .ref hb), (1, .int (iI k))]) cx dX0_nextLowBits_16 rfl (by decide) rfl ?_
    refine J_iconst cx dX0_nextLowBits_17 ?_
    refine J_istore_n (lv' := [(3, .int (iI 0)), (2, .int (iI 0)), (0, .ref hb), (1, .int (iI k))]) cx dX0_nextLowBits_18 rfl (by decide) rfl ?_
    refine J_loop3 (fun (v : Int) (j : Int) (t : Int) => [(hb, .inr (0, [.ref hr2, .int (iI t), .int (iI E)])), (hr2, .inr (2, [.ref ha, .int (iI F)])), (ha, .inl (X.2.2, 3000, .inl (aI r)))]) (fun (v : Int) (j : Int) (t : Int) => [(3, .int (iI j)), (2, .int (iI v)), (0, .ref hb), (1, .int (iI k))]) (fun (v : Int) (j : Int) (t : Int) => (0 ≤ j ∧ j ≤ k) ∧ (t = q + j) ∧ (v = pk (cbit r) q j)) (fun (v : Int) (j : Int) (t : Int) => (k - j).toNat) 0 0 q ⟨(by omega), (by omega), (rfl)⟩ ?_
    intro v j t hI ih_19
    obtain ⟨hj, ht, hv⟩ := hI
    try dsimp only at hj ht hv
    refine J_iload_n cx dX0_nextLowBits_19 rfl 0 rfl ?_
    refine J_iload_n cx dX0_nextLowBits_20 rfl 3 rfl ?_
    refine J_icmp_ge (tgt := 49) cx dX0_nextLowBits_21 (by decide) (by omega) (by omega) (fun h_21 => ?_) (fun h_21 => ?_)
    · skip
      refine J_iload_n cx dX0_nextLowBits_49 rfl 1 rfl ?_
      refine J_ws (ws' := [(hb, .inr (0, [.ref hr2, .int (iI (if E - q < k then q else q + k)), .int (iI E)])), (hr2, .inr (2, [.ref ha, .int (iI F)])), (ha, .inl (X.2.2, 3000, .inl (aI r)))]) (by rw [← show (t) = if E - q < k then q else q + k from by rw [if_neg (by omega)]; omega]) ?_
      refine J_top (b := (if E - q < k then -1 else pk (cbit r) q k)) (by rw [if_neg (by omega), hv, show j = k by omega]) ?_
      exact J_iret cx hr dX0_nextLowBits_50 ⟨rfl, rfl⟩
    · skip
      refine J_iload_n cx dX0_nextLowBits_24 rfl 1 rfl ?_
      refine J_iconst cx dX0_nextLowBits_25 ?_
      refine J_imul cx dX0_nextLowBits_26 ?_
      refine J_aload_n cx dX0_nextLowBits_27 rfl 2 rfl ?_
      refine J_callV (C := RX0) (T := TX0) (N := 3) cx (As := []) (rest := [.int (iI (v * 2))]) (mX0_bitHere l X hb hr2 ha r t E F (by omega) (by omega) (hrr)) T414 T411 T412 T413 T8 ⟨rfl, hd_X0_bitHere⟩ rfl ⟨Nat.le_of_ble_eq_true rfl, Nat.le_of_ble_eq_true rfl⟩ (Nat.le_of_ble_eq_true rfl) ⟨Nat.le_of_ble_eq_true rfl, Nat.le_of_ble_eq_true rfl⟩ [0, 1, 2] [] rfl rfl rfl rfl rfl (by decide) 0 rfl rfl dX0_nextLowBits_28 rfl (J_f (ws' := [(hb, .inr (0, [.ref hr2, .int (iI t), .int (iI E)])), (hr2, .inr (2, [.ref ha, .int (iI F)])), (ha, .inl (X.2.2, 3000, .inl (aI r)))]) (st' := [.int (iI (if t < E then cbit r t else 0)), .int (iI (v * 2))]) [0, 1, 2] rfl rfl rfl rfl ?_)
      refine J_top (b := (cbit r t)) (if_pos (by omega)) ?_
      refine J_iadd cx dX0_nextLowBits_31 ?_
      refine J_istore_n (lv' := [(2, .int (iI ((v * 2) + (cbit r t)))), (3, .int (iI j)), (0, .ref hb), (1, .int (iI k))]) cx dX0_nextLowBits_32 rfl (by decide) rfl ?_
      refine J_aload_n cx dX0_nextLowBits_33 rfl 2 rfl ?_
      refine J_dup cx dX0_nextLowBits_34 rfl ?_
      refine J_get cx inC0 0 rfl rfl 1 (by decide) T146 rfl rfl dX0_nextLowBits_35 ?_
      refine J_iconst cx dX0_nextLowBits_38 ?_
      refine J_iadd cx dX0_nextLowBits_39 ?_
      refine J_put (ty := .int) (ws' := [(hb, .inr (0, [.ref hr2, .int (iI (t + 1)), .int (iI E)])), (hr2, .inr (2, [.ref ha, .int (iI F)])), (ha, .inl (X.2.2, 3000, .inl (aI r)))]) cx inC0 tyX0_ok nmX0 0 rfl rfl 1 (by decide) T146 rfl rfl (by decide +kernel) (rfl) (rfl) (Nat.le_of_ble_eq_true rfl) rfl dX0_nextLowBits_40 ?_
      refine J_iinc (q := 1) (lv' := [(3, .int (iI (j + 1))), (2, .int (iI ((v * 2) + (cbit r t)))), (0, .ref hb), (1, .int (iI k))]) cx dX0_nextLowBits_43 rfl (by decide) rfl ?_
      refine J_goto (tgt := 19) cx dX0_nextLowBits_46 (by decide) ?_
      exact ih_19 ((v * 2) + (cbit r t)) (j + 1) (t + 1) ⟨(by omega), (by omega), (by rw [pk_s (by omega), ← hv, ← ht, Int.mul_comm])⟩ (by omega)
  · skip
    refine J_iconst cx dX0_nextLowBits_13 ?_
    refine J_ws (ws' := [(hb, .inr (0, [.ref hr2, .int (iI (if E - q < k then q else q + k)), .int (iI E)])), (hr2, .inr (2, [.ref ha, .int (iI F)])), (ha, .inl (X.2.2, 3000, .inl (aI r)))]) (by rw [← show (q) = if E - q < k then q else q + k from by rw [if_pos (by omega)]]) ?_
    refine J_top (b := (if E - q < k then -1 else pk (cbit r) q k)) (by rw [if_pos (by omega)]) ?_
    exact J_iret cx hr dX0_nextLowBits_14 ⟨rfl, rfl⟩
set_option maxHeartbeats 4000000 in
set_option maxRecDepth 100000 in
theorem mX0_nextNumber (l : Launch) (X : GX) (hb : Nat) (hr2 : Nat) (ha : Nat) (r : Int → Int) (q : Int) (E : Int) (F : Int) (k : Int) (hq : 0 ≤ q ∧ q ≤ E) (hE : 0 ≤ E ∧ E ≤ 24000) (hrr : ∀ j, -128 ≤ r j ∧ r j < 128) (hk : 0 ≤ k ∧ k ≤ 15) : Ct l yX0_nextNumber cX0_nextNumber 5 (some .int) 2 43 0 0 X [.ref hb, .int (iI k)] [(hb, .inr (0, [.ref hr2, .int (iI q), .int (iI E)])), (hr2, .inr (2, [.ref ha, .int (iI F)])), (ha, .inl (X.2.2, 3000, .inl (aI r)))] (fun1 (some (.int (iI (nnv r E q k)))) [(hb, .inr (0, [.ref hr2, .int (iI (nnp r E q k)), .int (iI E)])), (hr2, .inr (2, [.ref ha, .int (iI F)])), (ha, .inl (X.2.2, 3000, .inl (aI r)))]) := by
  refine Ct_of (own := RX0) (lv := [(0, .ref hb), (1, .int (iI k))]) (by decide +kernel) rfl (Nat.le_of_ble_eq_true rfl) rfl ?_
  intro p e s m args below meth c A cx hr hin
  have hfz := fz_rng r (E := E) (q := q) hq.2
  have hpk := pkc_rng r (fz r E q + 1) hk
  have hmu := mul_p2 (a := fz r E q - q) (k := k) (by omega) hk
  refine J_aload_n cx dX0_nextNumber_0 rfl 0 rfl ?_
  refine J_get cx inC0 0 rfl rfl 1 (by decide) T146 rfl rfl dX0_nextNumber_1 ?_
  refine J_istore_n (lv' := [(2, .int (iI q)), (0, .ref hb), (1, .int (iI k))]) cx dX0_nextNumber_4 rfl (by decide) rfl ?_
  refine J_loop1 (fun (t : Int) => [(hb, .inr (0, [.ref hr2, .int (iI t), .int (iI E)])), (hr2, .inr (2, [.ref ha, .int (iI F)])), (ha, .inl (X.2.2, 3000, .inl (aI r)))]) (fun (t : Int) => [(2, .int (iI q)), (0, .ref hb), (1, .int (iI k))]) (fun (t : Int) => (q ≤ t ∧ t ≤ E) ∧ (fz r E t = fz r E q)) (fun (t : Int) => (E - t).toNat) q ⟨(by omega), (rfl)⟩ ?_
  intro t hI ih_5
  obtain ⟨ht, htf⟩ := hI
  try dsimp only at ht htf
  refine J_aload_n cx dX0_nextNumber_5 rfl 1 rfl ?_
  refine J_get cx inC0 0 rfl rfl 1 (by decide) T146 rfl rfl dX0_nextNumber_6 ?_
  refine J_aload_n cx dX0_nextNumber_9 rfl 1 rfl ?_
  refine J_get cx inC0 0 rfl rfl 2 (by decide) T148 rfl rfl dX0_nextNumber_10 ?_
  refine J_icmp_ge (tgt := 36) cx dX0_nextNumber_13 (by decide) (by omega) (by omega) (fun h_13 => ?_) (fun h_13 => ?_)
  · skip
    have ht2 : t = fz r E q := by rw [← htf, fz_end (by omega)]
    subst ht2
    refine J_aload_n cx dX0_nextNumber_36 rfl 1 rfl ?_
    refine J_get cx inC0 0 rfl rfl 1 (by decide) T146 rfl rfl dX0_nextNumber_37 ?_
    refine J_iload_n cx dX0_nextNumber_40 rfl 0 rfl ?_
    refine J_isub cx dX0_nextNumber_41 ?_
    refine J_istore_n (lv' := [(3, .int (iI ((fz r E q) - q))), (2, .int (iI q)), (0, .ref hb), (1, .int (iI k))]) cx dX0_nextNumber_42 rfl (by decide) rfl ?_
    refine J_aload_n cx dX0_nextNumber_43 rfl 2 rfl ?_
    refine J_dup cx dX0_nextNumber_44 rfl ?_
    refine J_get cx inC0 0 rfl rfl 1 (by decide) T146 rfl rfl dX0_nextNumber_45 ?_
    refine J_iconst cx dX0_nextNumber_48 ?_
    refine J_iadd cx dX0_nextNumber_49 ?_
    refine J_put (ty := .int) (ws' := [(hb, .inr (0, [.ref hr2, .int (iI ((fz r E q) + 1)), .int (iI E)])), (hr2, .inr (2, [.ref ha, .int (iI F)])), (ha, .inl (X.2.2, 3000, .inl (aI r)))]) cx inC0 tyX0_ok nmX0 0 rfl rfl 1 (by decide) T146 rfl rfl (by decide +kernel) (rfl) (rfl) (Nat.le_of_ble_eq_true rfl) rfl dX0_nextNumber_50 ?_
    refine J_aload_n cx dX0_nextNumber_53 rfl 2 rfl ?_
    refine J_iload_n cx dX0_nextNumber_54 rfl 3 rfl ?_
    refine J_callV (C := RX0) (T := TX0) (N := 3) cx (As := [.int (iI k)]) (rest := []) (mX0_nextLowBits l X hb hr2 ha r ((fz r E q) + 1) E F k (by omega) (by omega) (hrr) (by omega)) T410 T427 T408 T409 T8 ⟨rfl, hd_X0_nextLowBits⟩ rfl ⟨Nat.le_of_ble_eq_true rfl, Nat.le_of_ble_eq_true rfl⟩ (Nat.le_of_ble_eq_true rfl) ⟨Nat.le_of_ble_eq_true rfl, Nat.le_of_ble_eq_true rfl⟩ [0, 1, 2] [] rfl rfl rfl rfl rfl (by decide) 0 rfl rfl dX0_nextNumber_55 rfl (J_f (ws' := [(hb, .inr (0, [.ref hr2, .int (iI (if E - ((fz r E q) + 1) < k then ((fz r E q) + 1) else ((fz r E q) + 1) + k)), .int (iI E)])), (hr2, .inr (2, [.ref ha, .int (iI F)])), (ha, .inl (X.2.2, 3000, .inl (aI r)))]) (st' := [.int (iI (if E - ((fz r E q) + 1) < k then -1 else pk (cbit r) ((fz r E q) + 1) k))]) [0, 1, 2] rfl rfl rfl rfl ?_)
    refine J_istore (lv' := [(4, .int (iI (if E - ((fz r E q) + 1) < k then -1 else pk (cbit r) ((fz r E q) + 1) k))), (3, .int (iI ((fz r E q) - q))), (2, .int (iI q)), (0, .ref hb), (1, .int (iI k))]) cx dX0_nextNumber_58 (by decide) rfl ?_
    refine J_iload cx dX0_nextNumber_60 0 rfl ?_
    refine J_iconst cx dX0_nextNumber_62 ?_
    refine J_icmp_ne (tgt := 70) cx dX0_nextNumber_63 (by decide) (by split <;> omega) (by omega) (fun h_63 => ?_) (fun h_63 => ?_)
    · skip
      refine J_iload_n cx dX0_nextNumber_70 rfl 1 rfl ?_
      refine J_iload_n cx dX0_nextNumber_71 rfl 4 rfl ?_
      refine J_ishl cx dX0_nextNumber_72 (by omega) (by omega) (by omega) ?_
      refine J_iload cx dX0_nextNumber_73 0 rfl ?_
      refine J_iadd cx dX0_nextNumber_75 ?_
      refine J_ws (ws' := [(hb, .inr (0, [.ref hr2, .int (iI (nnp r E q k)), .int (iI E)])), (hr2, .inr (2, [.ref ha, .int (iI F)])), (ha, .inl (X.2.2, 3000, .inl (aI r)))]) (by rw [← show (if E - ((fz r E q) + 1) < k then ((fz r E q) + 1) else ((fz r E q) + 1) + k) = nnp r E q k from by unfold nnp; rfl]) ?_
      refine J_top (b := (nnv r E q k)) (by first | exact nnv_bad h_63 hpk.1 | exact nnv_good h_63) ?_
      exact J_iret cx hr dX0_nextNumber_76 ⟨rfl, rfl⟩
    · skip
      refine J_iconst cx dX0_nextNumber_66 ?_
      refine J_goto (tgt := 76) cx dX0_nextNumber_67 (by decide) ?_
      refine J_ws (ws' := [(hb, .inr (0, [.ref hr2, .int (iI (nnp r E q k)), .int (iI E)])), (hr2, .inr (2, [.ref ha, .int (iI F)])), (ha, .inl (X.2.2, 3000, .inl (aI r)))]) (by rw [← show (if E - ((fz r E q) + 1) < k then ((fz r E q) + 1) else ((fz r E q) + 1) + k) = nnp r E q k from by unfold nnp; rfl]) ?_
      refine J_top (b := (nnv r E q k)) (by first | exact nnv_bad h_63 hpk.1 | exact nnv_good h_63) ?_
      exact J_iret cx hr dX0_nextNumber_76 ⟨rfl, rfl⟩
  · skip
    refine J_aload_n cx dX0_nextNumber_16 rfl 1 rfl ?_
    refine J_callV (C := RX0) (T := TX0) (N := 3) cx (As := []) (rest := []) (mX0_bitHere l X hb hr2 ha r t E F (by omega) (by omega) (hrr)) T414 T411 T412 T413 T8 ⟨rfl, hd_X0_bitHere⟩ rfl ⟨Nat.le_of_ble_eq_true rfl, Nat.le_of_ble_eq_true rfl⟩ (Nat.le_of_ble_eq_true rfl) ⟨Nat.le_of_ble_eq_true rfl, Nat.le_of_ble_eq_true rfl⟩ [0, 1, 2] [] rfl rfl rfl rfl rfl (by decide) 0 rfl rfl dX0_nextNumber_17 rfl (J_f (ws' := [(hb, .inr (0, [.ref hr2, .int (iI t), .int (iI E)])), (hr2, .inr (2, [.ref ha, .int (iI F)])), (ha, .inl (X.2.2, 3000, .inl (aI r)))]) (st' := [.int (iI (if t < E then cbit r t else 0))]) [0, 1, 2] rfl rfl rfl rfl ?_)
    refine J_if_ne (tgt := 36) cx dX0_nextNumber_20 (by decide) (by split <;> (try have h5 := cbit_01 r t) <;> omega) (fun h_20 => ?_) (fun h_20 => ?_)
    · skip
      rw [if_pos (by omega)] at h_20
      have ht2 : t = fz r E q := by rw [← htf, fz_one h_20]
      subst ht2
      refine J_aload_n cx dX0_nextNumber_36 rfl 1 rfl ?_
      refine J_get cx inC0 0 rfl rfl 1 (by decide) T146 rfl rfl dX0_nextNumber_37 ?_
      refine J_iload_n cx dX0_nextNumber_40 rfl 0 rfl ?_
      refine J_isub cx dX0_nextNumber_41 ?_
      refine J_istore_n (lv' := [(3, .int (iI ((fz r E q) - q))), (2, .int (iI q)), (0, .ref hb), (1, .int (iI k))]) cx dX0_nextNumber_42 rfl (by decide) rfl ?_
      refine J_aload_n cx dX0_nextNumber_43 rfl 2 rfl ?_
      refine J_dup cx dX0_nextNumber_44 rfl ?_
      refine J_get cx inC0 0 rfl rfl 1 (by decide) T146 rfl rfl dX0_nextNumber_45 ?_
      refine J_iconst cx dX0_nextNumber_48 ?_
      refine J_iadd cx dX0_nextNumber_49 ?_
      refine J_put (ty := .int) (ws' := [(hb, .inr (0, [.ref hr2, .int (iI ((fz r E q) + 1)), .int (iI E)])), (hr2, .inr (2, [.ref ha, .int (iI F)])), (ha, .inl (X.2.2, 3000, .inl (aI r)))]) cx inC0 tyX0_ok nmX0 0 rfl rfl 1 (by decide) T146 rfl rfl (by decide +kernel) (rfl) (rfl) (Nat.le_of_ble_eq_true rfl) rfl dX0_nextNumber_50 ?_
      refine J_aload_n cx dX0_nextNumber_53 rfl 2 rfl ?_
      refine J_iload_n cx dX0_nextNumber_54 rfl 3 rfl ?_
      refine J_callV (C := RX0) (T := TX0) (N := 3) cx (As := [.int (iI k)]) (rest := []) (mX0_nextLowBits l X hb hr2 ha r ((fz r E q) + 1) E F k (by omega) (by omega) (hrr) (by omega)) T410 T427 T408 T409 T8 ⟨rfl, hd_X0_nextLowBits⟩ rfl ⟨Nat.le_of_ble_eq_true rfl, Nat.le_of_ble_eq_true rfl⟩ (Nat.le_of_ble_eq_true rfl) ⟨Nat.le_of_ble_eq_true rfl, Nat.le_of_ble_eq_true rfl⟩ [0, 1, 2] [] rfl rfl rfl rfl rfl (by decide) 0 rfl rfl dX0_nextNumber_55 rfl (J_f (ws' := [(hb, .inr (0, [.ref hr2, .int (iI (if E - ((fz r E q) + 1) < k then ((fz r E q) + 1) else ((fz r E q) + 1) + k)), .int (iI E)])), (hr2, .inr (2, [.ref ha, .int (iI F)])), (ha, .inl (X.2.2, 3000, .inl (aI r)))]) (st' := [.int (iI (if E - ((fz r E q) + 1) < k then -1 else pk (cbit r) ((fz r E q) + 1) k))]) [0, 1, 2] rfl rfl rfl rfl ?_)
      refine J_istore (lv' := [(4, .int (iI (if E - ((fz r E q) + 1) < k then -1 else pk (cbit r) ((fz r E q) + 1) k))), (3, .int (iI ((fz r E q) - q))), (2, .int (iI q)), (0, .ref hb), (1, .int (iI k))]) cx dX0_nextNumber_58 (by decide) rfl ?_
      refine J_iload cx dX0_nextNumber_60 0 rfl ?_
      refine J_iconst cx dX0_nextNumber_62 ?_
      refine J_icmp_ne (tgt := 70) cx dX0_nextNumber_63 (by decide) (by split <;> omega) (by omega) (fun h_63 => ?_) (fun h_63 => ?_)
      · skip
        refine J_iload_n cx dX0_nextNumber_70 rfl 1 rfl ?_
        refine J_iload_n cx dX0_nextNumber_71 rfl 4 rfl ?_
        refine J_ishl cx dX0_nextNumber_72 (by omega) (by omega) (by omega) ?_
        refine J_iload cx dX0_nextNumber_73 0 rfl ?_
        refine J_iadd cx dX0_nextNumber_75 ?_
        refine J_ws (ws' := [(hb, .inr (0, [.ref hr2, .int (iI (nnp r E q k)), .int (iI E)])), (hr2, .inr (2, [.ref ha, .int (iI F)])), (ha, .inl (X.2.2, 3000, .inl (aI r)))]) (by rw [← show (if E - ((fz r E q) + 1) < k then ((fz r E q) + 1) else ((fz r E q) + 1) + k) = nnp r E q k from by unfold nnp; rfl]) ?_
        refine J_top (b := (nnv r E q k)) (by first | exact nnv_bad h_63 hpk.1 | exact nnv_good h_63) ?_
        exact J_iret cx hr dX0_nextNumber_76 ⟨rfl, rfl⟩
      · skip
        refine J_iconst cx dX0_nextNumber_66 ?_
        refine J_goto (tgt := 76) cx dX0_nextNumber_67 (by decide) ?_
        refine J_ws (ws' := [(hb, .inr (0, [.ref hr2, .int (iI (nnp r E q k)), .int (iI E)])), (hr2, .inr (2, [.ref ha, .int (iI F)])), (ha, .inl (X.2.2, 3000, .inl (aI r)))]) (by rw [← show (if E - ((fz r E q) + 1) < k then ((fz r E q) + 1) else ((fz r E q) + 1) + k) = nnp r E q k from by unfold nnp; rfl]) ?_
        refine J_top (b := (nnv r E q k)) (by first | exact nnv_bad h_63 hpk.1 | exact nnv_good h_63) ?_
        exact J_iret cx hr dX0_nextNumber_76 ⟨rfl, rfl⟩
    · skip
      have h_20b : cbit r t = 0 := by rw [if_pos (by omega)] at h_20; exact h_20
      refine J_aload_n cx dX0_nextNumber_23 rfl 1 rfl ?_
      refine J_dup cx dX0_nextNumber_24 rfl ?_
      refine J_get cx inC0 0 rfl rfl 1 (by decide) T146 rfl rfl dX0_nextNumber_25 ?_
      refine J_iconst cx dX0_nextNumber_28 ?_
      refine J_iadd cx dX0_nextNumber_29 ?_
      refine J_put (ty := .int) (ws' := [(hb, .inr (0, [.ref hr2, .int (iI (t + 1)), .int (iI E)])), (hr2, .inr (2, [.ref ha, .int (iI F)])), (ha, .inl (X.2.2, 3000, .inl (aI r)))]) cx inC0 tyX0_ok nmX0 0 rfl rfl 1 (by decide) T146 rfl rfl (by decide +kernel) (rfl) (rfl) (Nat.le_of_ble_eq_true rfl) rfl dX0_nextNumber_30 ?_
      refine J_goto (tgt := 5) cx dX0_nextNumber_33 (by decide) ?_
      exact ih_5 (t + 1) ⟨(by omega), (by rw [← htf, fz_zero (by omega) h_20b])⟩ (by omega)
end
section
set_option maxHeartbeats 4000000 in
set_option maxRecDepth 100000 in
theorem mX6_findRests (l : Launch) (X : GX) (h : Nat) (hs : Nat) (hm2 : Nat) (gb : Nat) (af : Nat) (ak : Nat) (ar : Nat) (rc : Int) (bc : Int) (as_ : Nat) (f : Int → Int) (ch : Int) (bl : Int) (n : Int) (am : Nat) (mf : Int → Int) (rs : Int → Int) (i : Int) (fn : Int) (hc : 1 ≤ ch ∧ ch ≤ 2) (hn : 0 ≤ n ∧ n ≤ 800) (hb : 1 ≤ bl ∧ bl ≤ 64) (hi : 0 ≤ i ∧ i < 800) (hib : 0 ≤ i / ch * bl ∧ i / ch * bl < n / ch) (hf : ∀ j, -32768 ≤ f j ∧ f j ≤ 32767) (hm : ∀ j, -32768 ≤ mf j ∧ mf j ≤ 32767) (hfn : 0 ≤ fn ∧ fn ≤ 4) : Ct l yX6_findRests cX6_findRests 6 none 3 68 0 0 X [.ref h, .int (iI i), .int (iI fn)] [(h, .inr (6, [.ref hs, .ref hm2, .ref gb, .ref af, .ref ak, .ref ar, .int (iI rc), .int (iI bc)])), (hs, .inr (4, [.ref as_, .int (iI ch), .int (iI bl), .int (iI n)])), (as_, .inl (X.2.1, 800, .inl (aI f))), (hm2, .inr (3, [.ref am])), (am, .inl (X.2.1, 800, .inl (aI mf))), (ar, .inl (X.2.1, 64, .inl (aI rs)))] (fun1 none [(h, .inr (6, [.ref hs, .ref hm2, .ref gb, .ref af, .ref ak, .ref ar, .int (iI (bsize ch bl (n / ch) i)), .int (iI bc)])), (hs, .inr (4, [.ref as_, .int (iI ch), .int (iI bl), .int (iI n)])), (as_, .inl (X.2.1, 800, .inl (aI f))), (hm2, .inr (3, [.ref am])), (am, .inl (X.2.1, 800, .inl (aI mf))), (ar, .inl (X.2.1, 64, .inl (aI (rests rs f ch fn (bfirst ch bl i) (mahead mf ch i) (bsize ch bl (n / ch) i)))))]) := by
  refine Ct_of (own := RX6) (lv := [(0, .ref h), (1, .int (iI i)), (2, .int (iI fn))]) (by decide +kernel) rfl (Nat.le_of_ble_eq_true rfl) rfl ?_
  intro p e s m args below meth c A cx hr hin
  have hbs := bsize_rng (i := i) (ch := ch) (bl := bl) (many := n / ch) hb hib.2
  have hd1 := half_rng hc hn
  have hmu := mahead_rng hm ch i
  refine J_aload_n cx dX6_findRests_0 rfl 0 rfl ?_
  refine J_get cx inC6 0 rfl rfl 1 (by decide) T100 rfl rfl dX6_findRests_1 ?_
  refine J_iload_n cx dX6_findRests_4 rfl 1 rfl ?_
  refine J_aload_n cx dX6_findRests_5 rfl 0 rfl ?_
  refine J_get cx inC6 0 rfl rfl 0 (by decide) T98 rfl rfl dX6_findRests_6 ?_
  refine J_getN cx inC4 1 rfl rfl 1 (by decide) T28 rfl rfl dX6_findRests_9 ?_
  refine J_callV (C := RX3) (T := TX3) (N := 1) cx (As := [.int (iI i), .int (iI ch)]) (rest := []) (mX3_ahead l X hm2 am mf i ch (by omega) (by omega) (hm)) T311 T308 T309 T310 T4 ⟨rfl, hd_X3_ahead⟩ rfl ⟨Nat.le_of_ble_eq_true rfl, Nat.le_of_ble_eq_true rfl⟩ (Nat.le_of_ble_eq_true rfl) ⟨Nat.le_of_ble_eq_true rfl, Nat.le_of_ble_eq_true rfl⟩ [3, 4] [0, 1, 2, 5] rfl rfl rfl rfl rfl (by decide) 3 rfl rfl dX6_findRests_12 rfl (J_f (ws' := [(h, .inr (6, [.ref hs, .ref hm2, .ref gb, .ref af, .ref ak, .ref ar, .int (iI rc), .int (iI bc)])), (hs, .inr (4, [.ref as_, .int (iI ch), .int (iI bl), .int (iI n)])), (as_, .inl (X.2.1, 800, .inl (aI f))), (hm2, .inr (3, [.ref am])), (am, .inl (X.2.1, 800, .inl (aI mf))), (ar, .inl (X.2.1, 64, .inl (aI rs)))]) (st' := [.int (iI (mahead mf ch i))]) [0, 1, 2, 4, 5, 3] rfl rfl rfl rfl ?_)
  refine J_istore_n (lv' := [(3, .int (iI (mahead mf ch i))), (0, .ref h), (1, .int (iI i)), (2, .int (iI fn))]) cx dX6_findRests_15 rfl (by decide) rfl ?_
  refine J_aload_n cx dX6_findRests_16 rfl 1 rfl ?_
  refine J_get cx inC6 0 rfl rfl 0 (by decide) T98 rfl rfl dX6_findRests_17 ?_
  refine J_iload_n cx dX6_findRests_20 rfl 2 rfl ?_
  refine J_callV (C := RX4) (T := TX4) (N := 4) cx (As := [.int (iI i)]) (rest := []) (mX4_firstPlace l X hs as_ f ch bl n i (by omega) (by omega)) T285 T312 T283 T284 T2 ⟨rfl, hd_X4_firstPlace⟩ rfl ⟨Nat.le_of_ble_eq_true rfl, Nat.le_of_ble_eq_true rfl⟩ (Nat.le_of_ble_eq_true rfl) ⟨Nat.le_of_ble_eq_true rfl, Nat.le_of_ble_eq_true rfl⟩ [1, 2] [0, 3, 4, 5] rfl rfl rfl rfl rfl (by decide) 1 rfl rfl dX6_findRests_21 rfl (J_f (ws' := [(h, .inr (6, [.ref hs, .ref hm2, .ref gb, .ref af, .ref ak, .ref ar, .int (iI rc), .int (iI bc)])), (hs, .inr (4, [.ref as_, .int (iI ch), .int (iI bl), .int (iI n)])), (as_, .inl (X.2.1, 800, .inl (aI f))), (hm2, .inr (3, [.ref am])), (am, .inl (X.2.1, 800, .inl (aI mf))), (ar, .inl (X.2.1, 64, .inl (aI rs)))]) (st' := [.int (iI (bfirst ch bl i))]) [0, 4, 5, 1, 2, 3] rfl rfl rfl rfl ?_)
  refine J_istore (lv' := [(4, .int (iI (bfirst ch bl i))), (3, .int (iI (mahead mf ch i))), (0, .ref h), (1, .int (iI i)), (2, .int (iI fn))]) cx dX6_findRests_24 (by decide) rfl ?_
  refine J_aload_n cx dX6_findRests_26 rfl 2 rfl ?_
  refine J_aload_n cx dX6_findRests_27 rfl 2 rfl ?_
  refine J_get cx inC6 0 rfl rfl 0 (by decide) T98 rfl rfl dX6_findRests_28 ?_
  refine J_iload_n cx dX6_findRests_31 rfl 3 rfl ?_
  refine J_callV (C := RX4) (T := TX4) (N := 4) cx (As := [.int (iI i)]) (rest := [.ref h]) (mX4_blockSize l X hs as_ f ch bl n i (by omega) (by omega) (by omega) (by omega) (by omega)) T276 T313 T274 T275 T2 ⟨rfl, hd_X4_blockSize⟩ rfl ⟨Nat.le_of_ble_eq_true rfl, Nat.le_of_ble_eq_true rfl⟩ (Nat.le_of_ble_eq_true rfl) ⟨Nat.le_of_ble_eq_true rfl, Nat.le_of_ble_eq_true rfl⟩ [1, 2] [0, 3, 4, 5] rfl rfl rfl rfl rfl (by decide) 1 rfl rfl dX6_findRests_32 rfl (J_f (ws' := [(h, .inr (6, [.ref hs, .ref hm2, .ref gb, .ref af, .ref ak, .ref ar, .int (iI rc), .int (iI bc)])), (hs, .inr (4, [.ref as_, .int (iI ch), .int (iI bl), .int (iI n)])), (as_, .inl (X.2.1, 800, .inl (aI f))), (hm2, .inr (3, [.ref am])), (am, .inl (X.2.1, 800, .inl (aI mf))), (ar, .inl (X.2.1, 64, .inl (aI rs)))]) (st' := [.int (iI (bsize ch bl (n / ch) i)), .ref h]) [0, 4, 5, 1, 2, 3] rfl rfl rfl rfl ?_)
  refine J_bipush cx dX6_findRests_35 (by decide) ?_
  refine J_callS cx (As := [.int (iI (bsize ch bl (n / ch) i)), .int (iI 64)]) (rest := [.ref h]) (mJ9_min_7cf53 l X (bsize ch bl (n / ch) i) 64 (by omega) (by omega)) T242 T240 T241 T11 hd_J9_min_7cf53 rfl ⟨Nat.le_of_ble_eq_true rfl, Nat.le_of_ble_eq_true rfl⟩ (Nat.le_of_ble_eq_true rfl) ⟨Nat.le_of_ble_eq_true rfl, Nat.le_of_ble_eq_true rfl⟩ [] [0, 1, 2, 3, 4, 5] rfl rfl rfl rfl rfl (by decide) dX6_findRests_37 rfl (J_f (ws' := [(h, .inr (6, [.ref hs, .ref hm2, .ref gb, .ref af, .ref ak, .ref ar, .int (iI rc), .int (iI bc)])), (hs, .inr (4, [.ref as_, .int (iI ch), .int (iI bl), .int (iI n)])), (as_, .inl (X.2.1, 800, .inl (aI f))), (hm2, .inr (3, [.ref am])), (am, .inl (X.2.1, 800, .inl (aI mf))), (ar, .inl (X.2.1, 64, .inl (aI rs)))]) (st' := [.int (iI (mnI (bsize ch bl (n / ch) i) 64)), .ref h]) [0, 1, 2, 3, 4, 5] rfl rfl rfl rfl ?_)
  refine J_top (b := (bsize ch bl (n / ch) i)) (by unfold mnI; rw [if_neg (by omega)]) ?_
  refine J_put (ty := .int) (ws' := [(h, .inr (6, [.ref hs, .ref hm2, .ref gb, .ref af, .ref ak, .ref ar, .int (iI (bsize ch bl (n / ch) i)), .int (iI bc)])), (hs, .inr (4, [.ref as_, .int (iI ch), .int (iI bl), .int (iI n)])), (as_, .inl (X.2.1, 800, .inl (aI f))), (hm2, .inr (3, [.ref am])), (am, .inl (X.2.1, 800, .inl (aI mf))), (ar, .inl (X.2.1, 64, .inl (aI rs)))]) cx inC6 tyX6_ok nmX6 0 rfl rfl 6 (by decide) T108 rfl rfl (by decide +kernel) (rfl) (rfl) (Nat.le_of_ble_eq_true rfl) rfl dX6_findRests_40 ?_
  refine J_iconst cx dX6_findRests_43 ?_
  refine J_istore (lv' := [(5, .int (iI 0)), (4, .int (iI (bfirst ch bl i))), (3, .int (iI (mahead mf ch i))), (0, .ref h), (1, .int (iI i)), (2, .int (iI fn))]) cx dX6_findRests_44 (by decide) rfl ?_
  refine J_loop3 (fun (j : Int) (pl : Int) (r2 : Int → Int) => [(h, .inr (6, [.ref hs, .ref hm2, .ref gb, .ref af, .ref ak, .ref ar, .int (iI (bsize ch bl (n / ch) i)), .int (iI bc)])), (hs, .inr (4, [.ref as_, .int (iI ch), .int (iI bl), .int (iI n)])), (as_, .inl (X.2.1, 800, .inl (aI f))), (hm2, .inr (3, [.ref am])), (am, .inl (X.2.1, 800, .inl (aI mf))), (ar, .inl (X.2.1, 64, .inl (aI r2)))]) (fun (j : Int) (pl : Int) (r2 : Int → Int) => [(5, .int (iI j)), (4, .int (iI pl)), (3, .int (iI (mahead mf ch i))), (0, .ref h), (1, .int (iI i)), (2, .int (iI fn))]) (fun (j : Int) (pl : Int) (r2 : Int → Int) => (0 ≤ j ∧ j ≤ bsize ch bl (n / ch) i) ∧ (pl = bfirst ch bl i + j * ch) ∧ (r2 = rests rs f ch fn (bfirst ch bl i) (mahead mf ch i) j)) (fun (j : Int) (pl : Int) (r2 : Int → Int) => (bsize ch bl (n / ch) i - j).toNat) 0 (bfirst ch bl i) rs ⟨(by omega), (by omega), ((rests_0 _ _ _ _ _ _).symm)⟩ ?_
  intro j pl r2 hI ih_46
  obtain ⟨hj, hpl, hr2⟩ := hI
  try dsimp only at hj hpl hr2
  refine J_iload cx dX6_findRests_46 0 rfl ?_
  refine J_aload_n cx dX6_findRests_48 rfl 3 rfl ?_
  refine J_get cx inC6 0 rfl rfl 6 (by decide) T108 rfl rfl dX6_findRests_49 ?_
  refine J_icmp_ge (tgt := 104) cx dX6_findRests_52 (by decide) (by omega) (by omega) (fun h_52 => ?_) (fun h_52 => ?_)
  · skip
    refine J_ws (ws' := [(h, .inr (6, [.ref hs, .ref hm2, .ref gb, .ref af, .ref ak, .ref ar, .int (iI (bsize ch bl (n / ch) i)), .int (iI bc)])), (hs, .inr (4, [.ref as_, .int (iI ch), .int (iI bl), .int (iI n)])), (as_, .inl (X.2.1, 800, .inl (aI f))), (hm2, .inr (3, [.ref am])), (am, .inl (X.2.1, 800, .inl (aI mf))), (ar, .inl (X.2.1, 64, .inl (aI (rests rs f ch fn (bfirst ch bl i) (mahead mf ch i) (bsize ch bl (n / ch) i)))))]) (by rw [← show (r2) = rests rs f ch fn (bfirst ch bl i) (mahead mf ch i) (bsize ch bl (n / ch) i) from by rw [hr2, show j = bsize ch bl (n / ch) i by omega]]) ?_
    exact J_vret cx hr dX6_findRests_104 ⟨rfl, rfl⟩
  · skip
    have h_in := blk_in (ch := ch) (bl := bl) (n := n) (i := i) (j := j) hc hn.1 hib.1 hi.1 (by omega) (by omega)
    rw [← hpl] at h_in
    refine J_aload_n cx dX6_findRests_55 rfl 3 rfl ?_
    refine J_get cx inC6 0 rfl rfl 5 (by decide) T107 rfl rfl dX6_findRests_56 ?_
    refine J_iload cx dX6_findRests_59 0 rfl ?_
    refine J_aload_n cx dX6_findRests_61 rfl 3 rfl ?_
    refine J_get cx inC6 0 rfl rfl 0 (by decide) T98 rfl rfl dX6_findRests_62 ?_
    refine J_iload cx dX6_findRests_65 1 rfl ?_
    refine J_callV (C := RX4) (T := TX4) (N := 4) cx (As := [.int (iI pl)]) (rest := [.int (iI j), .ref ar]) (mX4_sampleAt l X hs as_ f ch bl n pl (by omega) (by omega)) T293 T314 T291 T292 T2 ⟨rfl, hd_X4_sampleAt⟩ rfl ⟨Nat.le_of_ble_eq_true rfl, Nat.le_of_ble_eq_true rfl⟩ (Nat.le_of_ble_eq_true rfl) ⟨Nat.le_of_ble_eq_true rfl, Nat.le_of_ble_eq_true rfl⟩ [1, 2] [0, 3, 4, 5] rfl rfl rfl rfl rfl (by decide) 1 rfl rfl dX6_findRests_67 rfl (J_f (ws' := [(h, .inr (6, [.ref hs, .ref hm2, .ref gb, .ref af, .ref ak, .ref ar, .int (iI (bsize ch bl (n / ch) i)), .int (iI bc)])), (hs, .inr (4, [.ref as_, .int (iI ch), .int (iI bl), .int (iI n)])), (as_, .inl (X.2.1, 800, .inl (aI f))), (hm2, .inr (3, [.ref am])), (am, .inl (X.2.1, 800, .inl (aI mf))), (ar, .inl (X.2.1, 64, .inl (aI r2)))]) (st' := [.int (iI (smpA f n pl)), .int (iI j), .ref ar]) [0, 4, 5, 1, 2, 3] rfl rfl rfl rfl ?_)
    refine J_aload_n cx dX6_findRests_70 rfl 3 rfl ?_
    refine J_get cx inC6 0 rfl rfl 0 (by decide) T98 rfl rfl dX6_findRests_71 ?_
    refine J_iload_n cx dX6_findRests_74 rfl 5 rfl ?_
    refine J_iload cx dX6_findRests_75 1 rfl ?_
    refine J_iload_n cx dX6_findRests_77 rfl 2 rfl ?_
    refine J_callV (C := RX4) (T := TX4) (N := 4) cx (As := [.int (iI fn), .int (iI pl), .int (iI (mahead mf ch i))]) (rest := [.int (iI (smpA f n pl)), .int (iI j), .ref ar]) (mX4_toldAhead l X hs as_ f ch bl n fn pl (mahead mf ch i) (by omega) (by omega) (by omega) (by omega)) T318 T315 T316 T317 T2 ⟨rfl, hd_X4_toldAhead⟩ rfl ⟨Nat.le_of_ble_eq_true rfl, Nat.le_of_ble_eq_true rfl⟩ (Nat.le_of_ble_eq_true rfl) ⟨Nat.le_of_ble_eq_true rfl, Nat.le_of_ble_eq_true rfl⟩ [1, 2] [0, 3, 4, 5] rfl rfl rfl rfl rfl (by decide) 1 rfl rfl dX6_findRests_78 rfl (J_f (ws' := [(h, .inr (6, [.ref hs, .ref hm2, .ref gb, .ref af, .ref ak, .ref ar, .int (iI (bsize ch bl (n / ch) i)), .int (iI bc)])), (hs, .inr (4, [.ref as_, .int (iI ch), .int (iI bl), .int (iI n)])), (as_, .inl (X.2.1, 800, .inl (aI f))), (hm2, .inr (3, [.ref am])), (am, .inl (X.2.1, 800, .inl (aI mf))), (ar, .inl (X.2.1, 64, .inl (aI r2)))]) (st' := [.int (iI (tah f ch fn pl (mahead mf ch i))), .int (iI (smpA f n pl)), .int (iI j), .ref ar]) [0, 4, 5, 1, 2, 3] rfl rfl rfl rfl ?_)
    refine J_isub cx dX6_findRests_81 ?_
    refine J_callSN cx (As := [.int (iI ((smpA f n pl) - (tah f ch fn pl (mahead mf ch i))))]) (rest := [.int (iI j), .ref ar]) (mX7_fold l X ((smpA f n pl) - (tah f ch fn pl (mahead mf ch i))) (by have h5 := tah_rng hf hmu ch fn pl; have h6 := hf pl; rw [smpA_in h_in]; omega)) T322 T320 T321 T1 hd_X7_fold rfl ⟨Nat.le_of_ble_eq_true rfl, Nat.le_of_ble_eq_true rfl⟩ (Nat.le_of_ble_eq_true rfl) ⟨Nat.le_of_ble_eq_true rfl, Nat.le_of_ble_eq_true rfl⟩ [] [0, 1, 2, 3, 4, 5] rfl rfl rfl rfl rfl (by decide) dX6_findRests_82 rfl (J_f (ws' := [(h, .inr (6, [.ref hs, .ref hm2, .ref gb, .ref af, .ref ak, .ref ar, .int (iI (bsize ch bl (n / ch) i)), .int (iI bc)])), (hs, .inr (4, [.ref as_, .int (iI ch), .int (iI bl), .int (iI n)])), (as_, .inl (X.2.1, 800, .inl (aI f))), (hm2, .inr (3, [.ref am])), (am, .inl (X.2.1, 800, .inl (aI mf))), (ar, .inl (X.2.1, 64, .inl (aI r2)))]) (st' := [.int (iI (foldI ((smpA f n pl) - (tah f ch fn pl (mahead mf ch i))))), .int (iI j), .ref ar]) [0, 1, 2, 3, 4, 5] rfl rfl rfl rfl ?_)
    refine J_iast (ws' := [(h, .inr (6, [.ref hs, .ref hm2, .ref gb, .ref af, .ref ak, .ref ar, .int (iI (bsize ch bl (n / ch) i)), .int (iI bc)])), (hs, .inr (4, [.ref as_, .int (iI ch), .int (iI bl), .int (iI n)])), (as_, .inl (X.2.1, 800, .inl (aI f))), (hm2, .inr (3, [.ref am])), (am, .inl (X.2.1, 800, .inl (aI mf))), (ar, .inl (X.2.1, 64, .inl (aI (upI r2 j (foldI ((smpA f n pl) - (tah f ch fn pl (mahead mf ch i))))))))]) cx 5 rfl (by omega) (by decide) rfl dX6_findRests_85 ?_
    refine J_iload cx dX6_findRests_86 1 rfl ?_
    refine J_aload_n cx dX6_findRests_88 rfl 3 rfl ?_
    refine J_get cx inC6 0 rfl rfl 0 (by decide) T98 rfl rfl dX6_findRests_89 ?_
    refine J_getN cx inC4 1 rfl rfl 1 (by decide) T28 rfl rfl dX6_findRests_92 ?_
    refine J_iadd cx dX6_findRests_95 ?_
    refine J_istore (lv' := [(4, .int (iI (pl + ch))), (5, .int (iI j)), (3, .int (iI (mahead mf ch i))), (0, .ref h), (1, .int (iI i)), (2, .int (iI fn))]) cx dX6_findRests_96 (by decide) rfl ?_
    refine J_iinc (q := 1) (lv' := [(5, .int (iI (j + 1))), (4, .int (iI (pl + ch))), (3, .int (iI (mahead mf ch i))), (0, .ref h), (1, .int (iI i)), (2, .int (iI fn))]) cx dX6_findRests_98 rfl (by decide) rfl ?_
    refine J_goto (tgt := 46) cx dX6_findRests_101 (by decide) ?_
    exact ih_46 (j + 1) (pl + ch) (upI r2 j (foldI ((smpA f n pl) - (tah f ch fn pl (mahead mf ch i))))) ⟨(by omega), (by rw [hpl, Int.add_mul]; omega), (by rw [hr2, smpA_in h_in, hpl]; exact rests_s (by omega))⟩ (by omega)
set_option maxHeartbeats 4000000 in
set_option maxRecDepth 100000 in
theorem mX6_zerosFor (l : Launch) (X : GX) (h : Nat) (hs : Nat) (hm2 : Nat) (gb : Nat) (af : Nat) (ak : Nat) (ar : Nat) (rc : Int) (bc : Int) (rs : Int → Int) (k : Int) (hrc : 0 ≤ rc ∧ rc ≤ 64) (hk : 0 ≤ k ∧ k ≤ 15) (hrs : ∀ j, 0 ≤ j → j < rc → 0 ≤ rs j ∧ rs j ≤ 600000) : Ct l yX6_zerosFor cX6_zerosFor 4 (some .int) 0 0 0 0 X [.ref h, .int (iI k)] [(h, .inr (6, [.ref hs, .ref hm2, .ref gb, .ref af, .ref ak, .ref ar, .int (iI rc), .int (iI bc)])), (ar, .inl (X.2.1, 64, .inl (aI rs)))] (fun1 (some (.int (iI (zsum rs k rc)))) [(h, .inr (6, [.ref hs, .ref hm2, .ref gb, .ref af, .ref ak, .ref ar, .int (iI rc), .int (iI bc)])), (ar, .inl (X.2.1, 64, .inl (aI rs)))]) := by
  refine Ct_of (own := RX6) (lv := [(0, .ref h), (1, .int (iI k))]) (by decide +kernel) rfl (Nat.le_of_ble_eq_true rfl) rfl ?_
  intro p e s m args below meth c A cx hr hin
  refine J_iconst cx dX6_zerosFor_0 ?_
  refine J_istore_n (lv' := [(2, .int (iI 0)), (0, .ref h), (1, .int (iI k))]) cx dX6_zerosFor_1 rfl (by decide) rfl ?_
  refine J_iconst cx dX6_zerosFor_2 ?_
  refine J_istore_n (lv' := [(3, .int (iI 0)), (2, .int (iI 0)), (0, .ref h), (1, .int (iI k))]) cx dX6_zerosFor_3 rfl (by decide) rfl ?_
  refine J_loop2 (fun (z : Int) (j : Int) => [(h, .inr (6, [.ref hs, .ref hm2, .ref gb, .ref af, .ref ak, .ref ar, .int (iI rc), .int (iI bc)])), (ar, .inl (X.2.1, 64, .inl (aI rs)))]) (fun (z : Int) (j : Int) => [(3, .int (iI j)), (2, .int (iI z)), (0, .ref h), (1, .int (iI k))]) (fun (z : Int) (j : Int) => (0 ≤ j ∧ j ≤ rc) ∧ (z = zsum rs k j)) (fun (z : Int) (j : Int) => (rc - j).toNat) 0 0 ⟨(by omega), (rfl)⟩ ?_
  intro z j hI ih_4
  obtain ⟨hj, hz⟩ := hI
  try dsimp only at hj hz
  refine J_iload_n cx dX6_zerosFor_4 rfl 0 rfl ?_
  refine J_aload_n cx dX6_zerosFor_5 rfl 2 rfl ?_
  refine J_get cx inC6 0 rfl rfl 6 (by decide) T108 rfl rfl dX6_zerosFor_6 ?_
  refine J_icmp_ge (tgt := 29) cx dX6_zerosFor_9 (by decide) (by omega) (by omega) (fun h_9 => ?_) (fun h_9 => ?_)
  · skip
    refine J_iload_n cx dX6_zerosFor_29 rfl 1 rfl ?_
    refine J_top (b := (zsum rs k rc)) (by rw [hz, show j = rc by omega]) ?_
    exact J_iret cx hr dX6_zerosFor_30 ⟨rfl, rfl⟩
  · skip
    refine J_iload_n cx dX6_zerosFor_12 rfl 1 rfl ?_
    refine J_aload_n cx dX6_zerosFor_13 rfl 2 rfl ?_
    refine J_get cx inC6 0 rfl rfl 5 (by decide) T107 rfl rfl dX6_zerosFor_14 ?_
    refine J_iload_n cx dX6_zerosFor_17 rfl 0 rfl ?_
    refine J_iald cx 1 rfl (by omega) (by decide) dX6_zerosFor_18 ?_
    refine J_iload_n cx dX6_zerosFor_19 rfl 3 rfl ?_
    refine J_ishr cx dX6_zerosFor_20 (by have := hrs j (by omega) (by omega); omega) (by omega) ?_
    refine J_iadd cx dX6_zerosFor_21 ?_
    refine J_istore_n (lv' := [(2, .int (iI (z + ((rs j) / p2 k)))), (3, .int (iI j)), (0, .ref h), (1, .int (iI k))]) cx dX6_zerosFor_22 rfl (by decide) rfl ?_
    refine J_iinc (q := 1) (lv' := [(3, .int (iI (j + 1))), (2, .int (iI (z + ((rs j) / p2 k)))), (0, .ref h), (1, .int (iI k))]) cx dX6_zerosFor_23 rfl (by decide) rfl ?_
    refine J_goto (tgt := 4) cx dX6_zerosFor_26 (by decide) ?_
    exact ih_4 (z + ((rs j) / p2 k)) (j + 1) ⟨(by omega), (by rw [zsum_s (by omega), hz])⟩ (by omega)
set_option maxHeartbeats 4000000 in
set_option maxRecDepth 100000 in
theorem mX6_bitsWith (l : Launch) (X : GX) (h : Nat) (hs : Nat) (hm2 : Nat) (gb : Nat) (af : Nat) (ak : Nat) (ar : Nat) (rc : Int) (bc : Int) (fn : Int) (k : Int) (z : Int) (hfn : 0 ≤ fn ∧ fn ≤ 4) (hk : 0 ≤ k ∧ k ≤ 15) : Ct l yX6_bitsWith cX6_bitsWith 4 (some .int) 1 21 0 0 X [.ref h, .int (iI fn), .int (iI k), .int (iI z)] [(h, .inr (6, [.ref hs, .ref hm2, .ref gb, .ref af, .ref ak, .ref ar, .int (iI rc), .int (iI bc)]))] (fun1 (some (.int (iI (bcost fn k z rc)))) [(h, .inr (6, [.ref hs, .ref hm2, .ref gb, .ref af, .ref ak, .ref ar, .int (iI rc), .int (iI bc)]))]) := by
  refine Ct_of (own := RX6) (lv := [(0, .ref h), (1, .int (iI fn)), (2, .int (iI k)), (3, .int (iI z))]) (by decide +kernel) rfl (Nat.le_of_ble_eq_true rfl) rfl ?_
  intro p e s m args below meth c A cx hr hin
  refine J_iconst cx dX6_bitsWith_0 ?_
  refine J_iload_n cx dX6_bitsWith_1 rfl 1 rfl ?_
  refine J_callSN cx (As := [.int (iI 2), .int (iI fn)]) (rest := []) (mX7_numberBits l X 2 fn (by omega) (by omega)) T334 T332 T333 T1 hd_X7_numberBits rfl ⟨Nat.le_of_ble_eq_true rfl, Nat.le_of_ble_eq_true rfl⟩ (Nat.le_of_ble_eq_true rfl) ⟨Nat.le_of_ble_eq_true rfl, Nat.le_of_ble_eq_true rfl⟩ [] [0] rfl rfl rfl rfl rfl (by decide) dX6_bitsWith_2 rfl (J_f (ws' := [(h, .inr (6, [.ref hs, .ref hm2, .ref gb, .ref af, .ref ak, .ref ar, .int (iI rc), .int (iI bc)]))]) (st' := [.int (iI (nbits 2 fn))]) [0] rfl rfl rfl rfl ?_)
  refine J_iconst cx dX6_bitsWith_5 ?_
  refine J_iload_n cx dX6_bitsWith_6 rfl 2 rfl ?_
  refine J_callSN cx (As := [.int (iI 3), .int (iI k)]) (rest := [.int (iI (nbits 2 fn))]) (mX7_numberBits l X 3 k (by omega) (by omega)) T334 T332 T333 T1 hd_X7_numberBits rfl ⟨Nat.le_of_ble_eq_true rfl, Nat.le_of_ble_eq_true rfl⟩ (Nat.le_of_ble_eq_true rfl) ⟨Nat.le_of_ble_eq_true rfl, Nat.le_of_ble_eq_true rfl⟩ [] [0] rfl rfl rfl rfl rfl (by decide) dX6_bitsWith_7 rfl (J_f (ws' := [(h, .inr (6, [.ref hs, .ref hm2, .ref gb, .ref af, .ref ak, .ref ar, .int (iI rc), .int (iI bc)]))]) (st' := [.int (iI (nbits 3 k)), .int (iI (nbits 2 fn))]) [0] rfl rfl rfl rfl ?_)
  refine J_iadd cx dX6_bitsWith_10 ?_
  refine J_iload_n cx dX6_bitsWith_11 rfl 3 rfl ?_
  refine J_iadd cx dX6_bitsWith_12 ?_
  refine J_aload_n cx dX6_bitsWith_13 rfl 0 rfl ?_
  refine J_get cx inC6 0 rfl rfl 6 (by decide) T108 rfl rfl dX6_bitsWith_14 ?_
  refine J_iconst cx dX6_bitsWith_17 ?_
  refine J_iload_n cx dX6_bitsWith_18 rfl 2 rfl ?_
  refine J_iadd cx dX6_bitsWith_19 ?_
  refine J_imul cx dX6_bitsWith_20 ?_
  refine J_iadd cx dX6_bitsWith_21 ?_
  refine J_top (b := (bcost fn k z rc)) (rfl) ?_
  exact J_iret cx hr dX6_bitsWith_22 ⟨rfl, rfl⟩
set_option maxHeartbeats 4000000 in
set_option maxRecDepth 100000 in
theorem mX6_bitsFor (l : Launch) (X : GX) (h : Nat) (hs : Nat) (hm2 : Nat) (gb : Nat) (af : Nat) (ak : Nat) (ar : Nat) (rc : Int) (bc : Int) (as_ : Nat) (f : Int → Int) (ch : Int) (bl : Int) (n : Int) (am : Nat) (mf : Int → Int) (rs : Int → Int) (i : Int) (fn : Int) (k : Int) (hc : 1 ≤ ch ∧ ch ≤ 2) (hn : 0 ≤ n ∧ n ≤ 800) (hb : 1 ≤ bl ∧ bl ≤ 64) (hi : 0 ≤ i ∧ i < 800) (hib : 0 ≤ i / ch * bl ∧ i / ch * bl < n / ch) (hf : ∀ j, -32768 ≤ f j ∧ f j ≤ 32767) (hm : ∀ j, -32768 ≤ mf j ∧ mf j ≤ 32767) (hfn : 0 ≤ fn ∧ fn ≤ 3) (hk : 0 ≤ k ∧ k ≤ 15) : Ct l yX6_bitsFor cX6_bitsFor 4 (some .int) 4 93 0 0 X [.ref h, .int (iI i), .int (iI fn), .int (iI k)] [(h, .inr (6, [.ref hs, .ref hm2, .ref gb, .ref af, .ref ak, .ref ar, .int (iI rc), .int (iI bc)])), (hs, .inr (4, [.ref as_, .int (iI ch), .int (iI bl), .int (iI n)])), (as_, .inl (X.2.1, 800, .inl (aI f))), (hm2, .inr (3, [.ref am])), (am, .inl (X.2.1, 800, .inl (aI mf))), (ar, .inl (X.2.1, 64, .inl (aI rs)))] (fun1 (some (.int (iI (cost f ch bl (n / ch) (mahead mf ch i) i fn k)))) [(h, .inr (6, [.ref hs, .ref hm2, .ref gb, .ref af, .ref ak, .ref ar, .int (iI (bsize ch bl (n / ch) i)), .int (iI bc)])), (hs, .inr (4, [.ref as_, .int (iI ch), .int (iI bl), .int (iI n)])), (as_, .inl (X.2.1, 800, .inl (aI f))), (hm2, .inr (3, [.ref am])), (am, .inl (X.2.1, 800, .inl (aI mf))), (ar, .inl (X.2.1, 64, .inl (aI (rests rs f ch fn (bfirst ch bl i) (mahead mf ch i) (bsize ch bl (n / ch) i)))))]) := by
  refine Ct_of (own := RX6) (lv := [(0, .ref h), (1, .int (iI i)), (2, .int (iI fn)), (3, .int (iI k))]) (by decide +kernel) rfl (Nat.le_of_ble_eq_true rfl) rfl ?_
  intro p e s m args below meth c A cx hr hin
  have hbs := bsize_rng (i := i) (ch := ch) (bl := bl) (many := n / ch) hb hib.2
  have hd1 := half_rng hc hn
  have hmu := mahead_rng hm ch i
  refine J_aload_n cx dX6_bitsFor_0 rfl 0 rfl ?_
  refine J_iload_n cx dX6_bitsFor_1 rfl 1 rfl ?_
  refine J_iload_n cx dX6_bitsFor_2 rfl 2 rfl ?_
  refine J_callV (C := RX6) (T := TX6) (N := 8) cx (As := [.int (iI i), .int (iI fn)]) (rest := []) (mX6_findRests l X h hs hm2 gb af ak ar rc bc as_ f ch bl n am mf rs i fn (by omega) (by omega) (by omega) (by omega) (by omega) (hf) (hm) (by omega)) T307 T304 T306 S1 T3 ⟨rfl, hd_X6_findRests⟩ rfl ⟨Nat.le_of_ble_eq_true rfl, Nat.le_of_ble_eq_true rfl⟩ (Nat.le_of_ble_eq_true rfl) ⟨Nat.le_of_ble_eq_true rfl, Nat.le_of_ble_eq_true rfl⟩ [0, 1, 2, 3, 4, 5] [] rfl rfl rfl rfl rfl (by decide) 0 rfl rfl dX6_bitsFor_3 rfl (J_f (ws' := [(h, .inr (6, [.ref hs, .ref hm2, .ref gb, .ref af, .ref ak, .ref ar, .int (iI (bsize ch bl (n / ch) i)), .int (iI bc)])), (hs, .inr (4, [.ref as_, .int (iI ch), .int (iI bl), .int (iI n)])), (as_, .inl (X.2.1, 800, .inl (aI f))), (hm2, .inr (3, [.ref am])), (am, .inl (X.2.1, 800, .inl (aI mf))), (ar, .inl (X.2.1, 64, .inl (aI (rests rs f ch fn (bfirst ch bl i) (mahead mf ch i) (bsize ch bl (n / ch) i)))))]) (st' := []) [0, 1, 2, 3, 4, 5] rfl rfl rfl rfl ?_)
  refine J_aload_n cx dX6_bitsFor_6 rfl 0 rfl ?_
  refine J_iload_n cx dX6_bitsFor_7 rfl 2 rfl ?_
  refine J_iload_n cx dX6_bitsFor_8 rfl 3 rfl ?_
  refine J_aload_n cx dX6_bitsFor_9 rfl 0 rfl ?_
  refine J_iload_n cx dX6_bitsFor_10 rfl 3 rfl ?_
  refine J_callV (C := RX6) (T := TX6) (N := 8) cx (As := [.int (iI k)]) (rest := [.int (iI k), .int (iI fn), .ref h]) (mX6_zerosFor l X h hs hm2 gb af ak ar (bsize ch bl (n / ch) i) bc (rests rs f ch fn (bfirst ch bl i) (mahead mf ch i) (bsize ch bl (n / ch) i)) k (by omega) (by omega) (fun j h5 h6 => by rw [rests_at ⟨h5, h6⟩]; exact rst_rng hf hmu ch _ _)) T326 T323 T325 S2 T3 ⟨rfl, hd_X6_zerosFor⟩ rfl ⟨Nat.le_of_ble_eq_true rfl, Nat.le_of_ble_eq_true rfl⟩ (Nat.le_of_ble_eq_true rfl) ⟨Nat.le_of_ble_eq_true rfl, Nat.le_of_ble_eq_true rfl⟩ [0, 5] [1, 2, 3, 4] rfl rfl rfl rfl rfl (by decide) 0 rfl rfl dX6_bitsFor_11 rfl (J_f (ws' := [(h, .inr (6, [.ref hs, .ref hm2, .ref gb, .ref af, .ref ak, .ref ar, .int (iI (bsize ch bl (n / ch) i)), .int (iI bc)])), (hs, .inr (4, [.ref as_, .int (iI ch), .int (iI bl), .int (iI n)])), (as_, .inl (X.2.1, 800, .inl (aI f))), (hm2, .inr (3, [.ref am])), (am, .inl (X.2.1, 800, .inl (aI mf))), (ar, .inl (X.2.1, 64, .inl (aI (rests rs f ch fn (bfirst ch bl i) (mahead mf ch i) (bsize ch bl (n / ch) i)))))]) (st' := [.int (iI (zsum (rests rs f ch fn (bfirst ch bl i) (mahead mf ch i) (bsize ch bl (n / ch) i)) k (bsize ch bl (n / ch) i))), .int (iI k), .int (iI fn), .ref h]) [4, 0, 1, 2, 3, 5] rfl rfl rfl rfl ?_)
  refine J_callV (C := RX6) (T := TX6) (N := 8) cx (As := [.int (iI fn), .int (iI k), .int (iI (zsum (rests rs f ch fn (bfirst ch bl i) (mahead mf ch i) (bsize ch bl (n / ch) i)) k (bsize ch bl (n / ch) i)))]) (rest := []) (mX6_bitsWith l X h hs hm2 gb af ak ar (bsize ch bl (n / ch) i) bc fn k (zsum (rests rs f ch fn (bfirst ch bl i) (mahead mf ch i) (bsize ch bl (n / ch) i)) k (bsize ch bl (n / ch) i)) (by omega) (by omega)) T331 T328 T330 S3 T3 ⟨rfl, hd_X6_bitsWith⟩ rfl ⟨Nat.le_of_ble_eq_true rfl, Nat.le_of_ble_eq_true rfl⟩ (Nat.le_of_ble_eq_true rfl) ⟨Nat.le_of_ble_eq_true rfl, Nat.le_of_ble_eq_true rfl⟩ [0] [1, 2, 3, 4, 5] rfl rfl rfl rfl rfl (by decide) 0 rfl rfl dX6_bitsFor_14 rfl (J_f (ws' := [(h, .inr (6, [.ref hs, .ref hm2, .ref gb, .ref af, .ref ak, .ref ar, .int (iI (bsize ch bl (n / ch) i)), .int (iI bc)])), (hs, .inr (4, [.ref as_, .int (iI ch), .int (iI bl), .int (iI n)])), (as_, .inl (X.2.1, 800, .inl (aI f))), (hm2, .inr (3, [.ref am])), (am, .inl (X.2.1, 800, .inl (aI mf))), (ar, .inl (X.2.1, 64, .inl (aI (rests rs f ch fn (bfirst ch bl i) (mahead mf ch i) (bsize ch bl (n / ch) i)))))]) (st' := [.int (iI (bcost fn k (zsum (rests rs f ch fn (bfirst ch bl i) (mahead mf ch i) (bsize ch bl (n / ch) i)) k (bsize ch bl (n / ch) i)) (bsize ch bl (n / ch) i)))]) [5, 0, 1, 2, 3, 4] rfl rfl rfl rfl ?_)
  refine J_top (b := (cost f ch bl (n / ch) (mahead mf ch i) i fn k)) (by rw [zsum_rests]; rfl) ?_
  exact J_iret cx hr dX6_bitsFor_17 ⟨rfl, rfl⟩
set_option maxHeartbeats 4000000 in
set_option maxRecDepth 100000 in
theorem mX6_bitsTaken (l : Launch) (X : GX) (h : Nat) (hs : Nat) (hm2 : Nat) (gb : Nat) (af : Nat) (ak : Nat) (ar : Nat) (rc : Int) (bc : Int) (as_ : Nat) (f : Int → Int) (ch : Int) (bl : Int) (n : Int) (am : Nat) (mf : Int → Int) (rs : Int → Int) (ff : Int → Int) (kk : Int → Int) (i : Int) (hc : 1 ≤ ch ∧ ch ≤ 2) (hn : 0 ≤ n ∧ n ≤ 800) (hb : 1 ≤ bl ∧ bl ≤ 64) (hi : 0 ≤ i ∧ i < 800) (hib : 0 ≤ i / ch * bl ∧ i / ch * bl < n / ch) (hf : ∀ j, -32768 ≤ f j ∧ f j ≤ 32767) (hm : ∀ j, -32768 ≤ mf j ∧ mf j ≤ 32767) (hch : (ff i = 4) ∨ ((0 ≤ ff i ∧ ff i ≤ 3) ∧ (0 ≤ kk i ∧ kk i ≤ 15))) : Ct l yX6_bitsTaken cX6_bitsTaken 2 (some .int) 5 116 0 0 X [.ref h, .int (iI i)] [(h, .inr (6, [.ref hs, .ref hm2, .ref gb, .ref af, .ref ak, .ref ar, .int (iI rc), .int (iI bc)])), (hs, .inr (4, [.ref as_, .int (iI ch), .int (iI bl), .int (iI n)])), (as_, .inl (X.2.1, 800, .inl (aI f))), (hm2, .inr (3, [.ref am])), (am, .inl (X.2.1, 800, .inl (aI mf))), (af, .inl (X.2.1, 800, .inl (aI ff))), (ak, .inl (X.2.1, 800, .inl (aI kk))), (ar, .inl (X.2.1, 64, .inl (aI rs)))] (fun1 (some (.int (iI (if ff i = 4 then 4 else cost f ch bl (n / ch) (mahead mf ch i) i (ff i) (kk i))))) [(h, .inr (6, [.ref hs, .ref hm2, .ref gb, .ref af, .ref ak, .ref ar, .int (iI (if ff i = 4 then rc else bsize ch bl (n / ch) i)), .int (iI bc)])), (hs, .inr (4, [.ref as_, .int (iI ch), .int (iI bl), .int (iI n)])), (as_, .inl (X.2.1, 800, .inl (aI f))), (hm2, .inr (3, [.ref am])), (am, .inl (X.2.1, 800, .inl (aI mf))), (af, .inl (X.2.1, 800, .inl (aI ff))), (ak, .inl (X.2.1, 800, .inl (aI kk))), (ar, .inl (X.2.1, 64, .inl (aI (if ff i = 4 then rs else rests rs f ch (ff i) (bfirst ch bl i) (mahead mf ch i) (bsize ch bl (n / ch) i)))))]) := by
  refine Ct_of (own := RX6) (lv := [(0, .ref h), (1, .int (iI i))]) (by decide +kernel) rfl (Nat.le_of_ble_eq_true rfl) rfl ?_
  intro p e s m args below meth c A cx hr hin
  have hbs := bsize_rng (i := i) (ch := ch) (bl := bl) (many := n / ch) hb hib.2
  have hd1 := half_rng hc hn
  have hmu := mahead_rng hm ch i
  refine J_aload_n cx dX6_bitsTaken_0 rfl 0 rfl ?_
  refine J_get cx inC6 0 rfl rfl 3 (by decide) T103 rfl rfl dX6_bitsTaken_1 ?_
  refine J_iload_n cx dX6_bitsTaken_4 rfl 1 rfl ?_
  refine J_iald cx 5 rfl (by omega) (by decide) dX6_bitsTaken_5 ?_
  refine J_iconst cx dX6_bitsTaken_6 ?_
  refine J_icmp_ne (tgt := 18) cx dX6_bitsTaken_7 (by decide) (by omega) (by omega) (fun h_7 => ?_) (fun h_7 => ?_)
  · skip
    refine J_aload_n cx dX6_bitsTaken_18 rfl 0 rfl ?_
    refine J_iload_n cx dX6_bitsTaken_19 rfl 1 rfl ?_
    refine J_aload_n cx dX6_bitsTaken_20 rfl 0 rfl ?_
    refine J_get cx inC6 0 rfl rfl 3 (by decide) T103 rfl rfl dX6_bitsTaken_21 ?_
    refine J_iload_n cx dX6_bitsTaken_24 rfl 1 rfl ?_
    refine J_iald cx 5 rfl (by omega) (by decide) dX6_bitsTaken_25 ?_
    refine J_aload_n cx dX6_bitsTaken_26 rfl 0 rfl ?_
    refine J_get cx inC6 0 rfl rfl 4 (by decide) T105 rfl rfl dX6_bitsTaken_27 ?_
    refine J_iload_n cx dX6_bitsTaken_30 rfl 1 rfl ?_
    refine J_iald cx 6 rfl (by omega) (by decide) dX6_bitsTaken_31 ?_
    refine J_callV (C := RX6) (T := TX6) (N := 8) cx (As := [.int (iI i), .int (iI (ff i)), .int (iI (kk i))]) (rest := []) (mX6_bitsFor l X h hs hm2 gb af ak ar rc bc as_ f ch bl n am mf rs i (ff i) (kk i) (by omega) (by omega) (by omega) (by omega) (by omega) (hf) (hm) (by omega) (by omega)) T363 T360 T361 T362 T3 ⟨rfl, hd_X6_bitsFor⟩ rfl ⟨Nat.le_of_ble_eq_true rfl, Nat.le_of_ble_eq_true rfl⟩ (Nat.le_of_ble_eq_true rfl) ⟨Nat.le_of_ble_eq_true rfl, Nat.le_of_ble_eq_true rfl⟩ [0, 1, 2, 3, 4, 7] [5, 6] rfl rfl rfl rfl rfl (by decide) 0 rfl rfl dX6_bitsTaken_32 rfl (J_f (ws' := [(h, .inr (6, [.ref hs, .ref hm2, .ref gb, .ref af, .ref ak, .ref ar, .int (iI (bsize ch bl (n / ch) i)), .int (iI bc)])), (hs, .inr (4, [.ref as_, .int (iI ch), .int (iI bl), .int (iI n)])), (as_, .inl (X.2.1, 800, .inl (aI f))), (hm2, .inr (3, [.ref am])), (am, .inl (X.2.1, 800, .inl (aI mf))), (af, .inl (X.2.1, 800, .inl (aI ff))), (ak, .inl (X.2.1, 800, .inl (aI kk))), (ar, .inl (X.2.1, 64, .inl (aI (rests rs f ch (ff i) (bfirst ch bl i) (mahead mf ch i) (bsize ch bl (n / ch) i)))))]) (st' := [.int (iI (cost f ch bl (n / ch) (mahead mf ch i) i (ff i) (kk i)))]) [2, 3, 4, 5, 6, 0, 1, 7] rfl rfl rfl rfl ?_)
    refine J_ws (ws' := [(h, .inr (6, [.ref hs, .ref hm2, .ref gb, .ref af, .ref ak, .ref ar, .int (iI (if ff i = 4 then rc else bsize ch bl (n / ch) i)), .int (iI bc)])), (hs, .inr (4, [.ref as_, .int (iI ch), .int (iI bl), .int (iI n)])), (as_, .inl (X.2.1, 800, .inl (aI f))), (hm2, .inr (3, [.ref am])), (am, .inl (X.2.1, 800, .inl (aI mf))), (af, .inl (X.2.1, 800, .inl (aI ff))), (ak, .inl (X.2.1, 800, .inl (aI kk))), (ar, .inl (X.2.1, 64, .inl (aI (if ff i = 4 then rs else rests rs f ch (ff i) (bfirst ch bl i) (mahead mf ch i) (bsize ch bl (n / ch) i)))))]) (by rw [← show (bsize ch bl (n / ch) i) = if ff i = 4 then rc else bsize ch bl (n / ch) i from by first | rw [if_pos h_7] | rw [if_neg h_7], ← show (rests rs f ch (ff i) (bfirst ch bl i) (mahead mf ch i) (bsize ch bl (n / ch) i)) = if ff i = 4 then rs else rests rs f ch (ff i) (bfirst ch bl i) (mahead mf ch i) (bsize ch bl (n / ch) i) from by first | rw [if_pos h_7] | rw [if_neg h_7]]) ?_
    refine J_top (b := (if ff i = 4 then 4 else cost f ch bl (n / ch) (mahead mf ch i) i (ff i) (kk i))) (by first | (rw [if_pos h_7]; rfl) | rw [if_neg h_7]) ?_
    exact J_iret cx hr dX6_bitsTaken_35 ⟨rfl, rfl⟩
  · skip
    refine J_iconst cx dX6_bitsTaken_10 ?_
    refine J_iconst cx dX6_bitsTaken_11 ?_
    refine J_callSN cx (As := [.int (iI 2), .int (iI 4)]) (rest := []) (mX7_numberBits l X 2 4 (by omega) (by omega)) T334 T332 T333 T1 hd_X7_numberBits rfl ⟨Nat.le_of_ble_eq_true rfl, Nat.le_of_ble_eq_true rfl⟩ (Nat.le_of_ble_eq_true rfl) ⟨Nat.le_of_ble_eq_true rfl, Nat.le_of_ble_eq_true rfl⟩ [] [0, 1, 2, 3, 4, 5, 6, 7] rfl rfl rfl rfl rfl (by decide) dX6_bitsTaken_12 rfl (J_f (ws' := [(h, .inr (6, [.ref hs, .ref hm2, .ref gb, .ref af, .ref ak, .ref ar, .int (iI rc), .int (iI bc)])), (hs, .inr (4, [.ref as_, .int (iI ch), .int (iI bl), .int (iI n)])), (as_, .inl (X.2.1, 800, .inl (aI f))), (hm2, .inr (3, [.ref am])), (am, .inl (X.2.1, 800, .inl (aI mf))), (af, .inl (X.2.1, 800, .inl (aI ff))), (ak, .inl (X.2.1, 800, .inl (aI kk))), (ar, .inl (X.2.1, 64, .inl (aI rs)))]) (st' := [.int (iI (nbits 2 4))]) [0, 1, 2, 3, 4, 5, 6, 7] rfl rfl rfl rfl ?_)
    refine J_goto (tgt := 35) cx dX6_bitsTaken_15 (by decide) ?_
    refine J_ws (ws' := [(h, .inr (6, [.ref hs, .ref hm2, .ref gb, .ref af, .ref ak, .ref ar, .int (iI (if ff i = 4 then rc else bsize ch bl (n / ch) i)), .int (iI bc)])), (hs, .inr (4, [.ref as_, .int (iI ch), .int (iI bl), .int (iI n)])), (as_, .inl (X.2.1, 800, .inl (aI f))), (hm2, .inr (3, [.ref am])), (am, .inl (X.2.1, 800, .inl (aI mf))), (af, .inl (X.2.1, 800, .inl (aI ff))), (ak, .inl (X.2.1, 800, .inl (aI kk))), (ar, .inl (X.2.1, 64, .inl (aI (if ff i = 4 then rs else rests rs f ch (ff i) (bfirst ch bl i) (mahead mf ch i) (bsize ch bl (n / ch) i)))))]) (by rw [← show (rc) = if ff i = 4 then rc else bsize ch bl (n / ch) i from by first | rw [if_pos h_7] | rw [if_neg h_7], ← show (rs) = if ff i = 4 then rs else rests rs f ch (ff i) (bfirst ch bl i) (mahead mf ch i) (bsize ch bl (n / ch) i) from by first | rw [if_pos h_7] | rw [if_neg h_7]]) ?_
    refine J_top (b := (if ff i = 4 then 4 else cost f ch bl (n / ch) (mahead mf ch i) i (ff i) (kk i))) (by first | (rw [if_pos h_7]; rfl) | rw [if_neg h_7]) ?_
    exact J_iret cx hr dX6_bitsTaken_35 ⟨rfl, rfl⟩
end
section
set_option maxHeartbeats 4000000 in
set_option maxRecDepth 100000 in
theorem mX6_choose (l : Launch) (X : GX) (h : Nat) (hs : Nat) (hm2 : Nat) (gb : Nat) (af : Nat) (ak : Nat) (ar : Nat) (rc : Int) (bc : Int) (as_ : Nat) (f : Int → Int) (ch : Int) (bl : Int) (n : Int) (am : Nat) (mf : Int → Int) (rs : Int → Int) (ff : Int → Int) (kk : Int → Int) (i : Int) (hc : 1 ≤ ch ∧ ch ≤ 2) (hn : 0 ≤ n ∧ n ≤ 800) (hb : 1 ≤ bl ∧ bl ≤ 64) (hi : 0 ≤ i ∧ i < 800) (hib : 0 ≤ i / ch * bl ∧ i / ch * bl < n / ch) (hf : ∀ j, -32768 ≤ f j ∧ f j ≤ 32767) (hm : ∀ j, -32768 ≤ mf j ∧ mf j ≤ 32767) : Ct l yX6_choose cX6_choose 7 none 4 93 0 0 X [.ref h, .int (iI i)] [(h, .inr (6, [.ref hs, .ref hm2, .ref gb, .ref af, .ref ak, .ref ar, .int (iI rc), .int (iI bc)])), (hs, .inr (4, [.ref as_, .int (iI ch), .int (iI bl), .int (iI n)])), (as_, .inl (X.2.1, 800, .inl (aI f))), (hm2, .inr (3, [.ref am])), (am, .inl (X.2.1, 800, .inl (aI mf))), (af, .inl (X.2.1, 800, .inl (aI ff))), (ak, .inl (X.2.1, 800, .inl (aI kk))), (ar, .inl (X.2.1, 64, .inl (aI rs)))] (fun v u => ∃ r' : Int → Int, v = none ∧ u = [(h, .inr (6, [.ref hs, .ref hm2, .ref gb, .ref af, .ref ak, .ref ar, .int (iI (bsize ch bl (n / ch) i)), .int (iI bc)])), (hs, .inr (4, [.ref as_, .int (iI ch), .int (iI bl), .int (iI n)])), (as_, .inl (X.2.1, 800, .inl (aI f))), (hm2, .inr (3, [.ref am])), (am, .inl (X.2.1, 800, .inl (aI mf))), (af, .inl (X.2.1, 800, .inl (aI (upI ff i (chF f ch bl (n / ch) (mahead mf ch i) i))))), (ak, .inl (X.2.1, 800, .inl (aI (upI kk i (chK f ch bl (n / ch) (mahead mf ch i) i))))), (ar, .inl (X.2.1, 64, .inl (aI r')))]) := by
  refine Ct_of (own := RX6) (lv := [(0, .ref h), (1, .int (iI i))]) (by decide +kernel) rfl (Nat.le_of_ble_eq_true rfl) rfl ?_
  intro p e s m args below meth c A cx hr hin
  have hbs := bsize_rng (i := i) (ch := ch) (bl := bl) (many := n / ch) hb hib.2
  have hd1 := half_rng hc hn
  have hmu := mahead_rng hm ch i
  have hcr : ∀ fn k, 0 ≤ fn ∧ fn ≤ 3 → 0 ≤ k ∧ k ≤ 15 → 0 ≤ cost f ch bl (n / ch) (mahead mf ch i) i fn k ∧ cost f ch bl (n / ch) (mahead mf ch i) i fn k < 100000000 := fun fn k h5 h6 => cost_rng hf hmu hbs h5 h6
  have hzr : ∀ fn k, 0 ≤ zsum (fun j => rst f ch fn (bfirst ch bl i + j * ch) (mahead mf ch i)) k (bsize ch bl (n / ch) i) ∧ zsum (fun j => rst f ch fn (bfirst ch bl i + j * ch) (mahead mf ch i)) k (bsize ch bl (n / ch) i) ≤ 600000 * (bsize ch bl (n / ch) i) := fun fn k => zsum_rng (by omega) (fun j _ _ => by have h5 := rst_rng hf hmu ch fn (bfirst ch bl i + j * ch); have h6 := ediv_p2 (k := k) h5.1; omega)
  have hz0 : 0 ≤ chZ f ch bl (n / ch) (mahead mf ch i) i ∧ chZ f ch bl (n / ch) (mahead mf ch i) i ≤ 600000 * (bsize ch bl (n / ch) i) := hzr 0 0
  refine J_aload_n cx dX6_choose_0 rfl 0 rfl ?_
  refine J_iload_n cx dX6_choose_1 rfl 1 rfl ?_
  refine J_iconst cx dX6_choose_2 ?_
  refine J_callV (C := RX6) (T := TX6) (N := 8) cx (As := [.int (iI i), .int (iI 0)]) (rest := []) (mX6_findRests l X h hs hm2 gb af ak ar rc bc as_ f ch bl n am mf rs i 0 (by omega) (by omega) (by omega) (by omega) (by omega) (hf) (hm) (by omega)) T307 T304 T306 S1 T3 ⟨rfl, hd_X6_findRests⟩ rfl ⟨Nat.le_of_ble_eq_true rfl, Nat.le_of_ble_eq_true rfl⟩ (Nat.le_of_ble_eq_true rfl) ⟨Nat.le_of_ble_eq_true rfl, Nat.le_of_ble_eq_true rfl⟩ [0, 1, 2, 3, 4, 7] [5, 6] rfl rfl rfl rfl rfl (by decide) 0 rfl rfl dX6_choose_3 rfl (J_f (ws' := [(h, .inr (6, [.ref hs, .ref hm2, .ref gb, .ref af, .ref ak, .ref ar, .int (iI (bsize ch bl (n / ch) i)), .int (iI bc)])), (hs, .inr (4, [.ref as_, .int (iI ch), .int (iI bl), .int (iI n)])), (as_, .inl (X.2.1, 800, .inl (aI f))), (hm2, .inr (3, [.ref am])), (am, .inl (X.2.1, 800, .inl (aI mf))), (af, .inl (X.2.1, 800, .inl (aI ff))), (ak, .inl (X.2.1, 800, .inl (aI kk))), (ar, .inl (X.2.1, 64, .inl (aI (rests rs f ch 0 (bfirst ch bl i) (mahead mf ch i) (bsize ch bl (n / ch) i)))))]) (st' := []) [2, 3, 4, 5, 6, 0, 1, 7] rfl rfl rfl rfl ?_)
  refine J_aload_n cx dX6_choose_6 rfl 0 rfl ?_
  refine J_iconst cx dX6_choose_7 ?_
  refine J_callV (C := RX6) (T := TX6) (N := 8) cx (As := [.int (iI 0)]) (rest := []) (mX6_zerosFor l X h hs hm2 gb af ak ar (bsize ch bl (n / ch) i) bc (rests rs f ch 0 (bfirst ch bl i) (mahead mf ch i) (bsize ch bl (n / ch) i)) 0 (by omega) (by omega) (fun j h5 h6 => by rw [rests_at ⟨h5, h6⟩]; exact rst_rng hf hmu ch _ _)) T326 T323 T325 S2 T3 ⟨rfl, hd_X6_zerosFor⟩ rfl ⟨Nat.le_of_ble_eq_true rfl, Nat.le_of_ble_eq_true rfl⟩ (Nat.le_of_ble_eq_true rfl) ⟨Nat.le_of_ble_eq_true rfl, Nat.le_of_ble_eq_true rfl⟩ [0, 7] [1, 2, 3, 4, 5, 6] rfl rfl rfl rfl rfl (by decide) 0 rfl rfl dX6_choose_8 rfl (J_f (ws' := [(h, .inr (6, [.ref hs, .ref hm2, .ref gb, .ref af, .ref ak, .ref ar, .int (iI (bsize ch bl (n / ch) i)), .int (iI bc)])), (hs, .inr (4, [.ref as_, .int (iI ch), .int (iI bl), .int (iI n)])), (as_, .inl (X.2.1, 800, .inl (aI f))), (hm2, .inr (3, [.ref am])), (am, .inl (X.2.1, 800, .inl (aI mf))), (af, .inl (X.2.1, 800, .inl (aI ff))), (ak, .inl (X.2.1, 800, .inl (aI kk))), (ar, .inl (X.2.1, 64, .inl (aI (rests rs f ch 0 (bfirst ch bl i) (mahead mf ch i) (bsize ch bl (n / ch) i)))))]) (st' := [.int (iI (zsum (rests rs f ch 0 (bfirst ch bl i) (mahead mf ch i) (bsize ch bl (n / ch) i)) 0 (bsize ch bl (n / ch) i)))]) [6, 0, 1, 2, 3, 4, 5, 7] rfl rfl rfl rfl ?_)
  refine J_top (b := (chZ f ch bl (n / ch) (mahead mf ch i) i)) (zsum_rests) ?_
  refine J_if_ne (tgt := 29) cx dX6_choose_11 (by decide) (by omega) (fun h_11 => ?_) (fun h_11 => ?_)
  · skip
    refine J_ldc cx T327 dX6_choose_29 ?_
    refine J_istore_n (lv' := [(2, .int (iI 2147483647)), (0, .ref h), (1, .int (iI i))]) cx dX6_choose_31 rfl (by decide) rfl ?_
    refine J_iconst cx dX6_choose_32 ?_
    refine J_istore_n (lv' := [(3, .int (iI 0)), (2, .int (iI 2147483647)), (0, .ref h), (1, .int (iI i))]) cx dX6_choose_33 rfl (by decide) rfl ?_
    refine J_loop5 (fun (fn : Int) (fe : Int) (ff2 : Int → Int) (kk2 : Int → Int) (r2 : Int → Int) => [(h, .inr (6, [.ref hs, .ref hm2, .ref gb, .ref af, .ref ak, .ref ar, .int (iI (bsize ch bl (n / ch) i)), .int (iI bc)])), (hs, .inr (4, [.ref as_, .int (iI ch), .int (iI bl), .int (iI n)])), (as_, .inl (X.2.1, 800, .inl (aI f))), (hm2, .inr (3, [.ref am])), (am, .inl (X.2.1, 800, .inl (aI mf))), (af, .inl (X.2.1, 800, .inl (aI ff2))), (ak, .inl (X.2.1, 800, .inl (aI kk2))), (ar, .inl (X.2.1, 64, .inl (aI r2)))]) (fun (fn : Int) (fe : Int) (ff2 : Int → Int) (kk2 : Int → Int) (r2 : Int → Int) => [(3, .int (iI fn)), (2, .int (iI fe)), (0, .ref h), (1, .int (iI i))]) (fun (fn : Int) (fe : Int) (ff2 : Int → Int) (kk2 : Int → Int) (r2 : Int → Int) => (0 ≤ fn ∧ fn ≤ 4) ∧ (0 ≤ fe ∧ fe ≤ 2147483647) ∧ (chS (cost f ch bl (n / ch) (mahead mf ch i) i) ff kk i (16 * fn) ff2 kk2 fe)) (fun (fn : Int) (fe : Int) (ff2 : Int → Int) (kk2 : Int → Int) (r2 : Int → Int) => (4 - fn).toNat) 0 2147483647 ff kk (rests rs f ch 0 (bfirst ch bl i) (mahead mf ch i) (bsize ch bl (n / ch) i)) ⟨(by omega), (by decide), (Or.inl ⟨by decide, rfl, rfl, rfl⟩)⟩ ?_
    intro fn fe ff2 kk2 r2 hI ih_34
    obtain ⟨hfn, hfe, hst⟩ := hI
    try dsimp only at hfn hfe hst
    refine J_iload_n cx dX6_choose_34 rfl 0 rfl ?_
    refine J_iconst cx dX6_choose_35 ?_
    refine J_icmp_ge (tgt := 118) cx dX6_choose_36 (by decide) (by omega) (by omega) (fun h_36 => ?_) (fun h_36 => ?_)
    · skip
      have hfn4 : fn = 4 := by omega
      have e12 : ff2 = upI ff i (chF f ch bl (n / ch) (mahead mf ch i) i) ∧ kk2 = upI kk i (chK f ch bl (n / ch) (mahead mf ch i) i) := by rcases hst with ⟨h5, -⟩ | ⟨-, e1, e2, -⟩; omega; (rw [e1, e2, hfn4]; unfold chF chK; rw [if_neg h_11, if_neg h_11]; exact ⟨rfl, rfl⟩)
      obtain ⟨e1, e2⟩ := e12
      subst e1
      subst e2
      exact J_vret cx hr dX6_choose_118 (⟨r2, rfl, rfl⟩)
    · skip
      refine J_aload_n cx dX6_choose_39 rfl 2 rfl ?_
      refine J_iload_n cx dX6_choose_40 rfl 3 rfl ?_
      refine J_iload_n cx dX6_choose_41 rfl 0 rfl ?_
      refine J_callV (C := RX6) (T := TX6) (N := 8) cx (As := [.int (iI i), .int (iI fn)]) (rest := []) (mX6_findRests l X h hs hm2 gb af ak ar (bsize ch bl (n / ch) i) bc as_ f ch bl n am mf r2 i fn (by omega) (by omega) (by omega) (by omega) (by omega) (hf) (hm) (by omega)) T307 T304 T306 S1 T3 ⟨rfl, hd_X6_findRests⟩ rfl ⟨Nat.le_of_ble_eq_true rfl, Nat.le_of_ble_eq_true rfl⟩ (Nat.le_of_ble_eq_true rfl) ⟨Nat.le_of_ble_eq_true rfl, Nat.le_of_ble_eq_true rfl⟩ [0, 1, 2, 3, 4, 7] [5, 6] rfl rfl rfl rfl rfl (by decide) 0 rfl rfl dX6_choose_42 rfl (J_f (ws' := [(h, .inr (6, [.ref hs, .ref hm2, .ref gb, .ref af, .ref ak, .ref ar, .int (iI (bsize ch bl (n / ch) i)), .int (iI bc)])), (hs, .inr (4, [.ref as_, .int (iI ch), .int (iI bl), .int (iI n)])), (as_, .inl (X.2.1, 800, .inl (aI f))), (hm2, .inr (3, [.ref am])), (am, .inl (X.2.1, 800, .inl (aI mf))), (af, .inl (X.2.1, 800, .inl (aI ff2))), (ak, .inl (X.2.1, 800, .inl (aI kk2))), (ar, .inl (X.2.1, 64, .inl (aI (rests r2 f ch fn (bfirst ch bl i) (mahead mf ch i) (bsize ch bl (n / ch) i)))))]) (st' := []) [2, 3, 4, 5, 6, 0, 1, 7] rfl rfl rfl rfl ?_)
      refine J_iconst cx dX6_choose_45 ?_
      refine J_istore (lv' := [(4, .int (iI 0)), (3, .int (iI fn)), (2, .int (iI fe)), (0, .ref h), (1, .int (iI i))]) cx dX6_choose_46 (by decide) rfl ?_
      refine J_loop4 (fun (k : Int) (fe2 : Int) (ff3 : Int → Int) (kk3 : Int → Int) => [(h, .inr (6, [.ref hs, .ref hm2, .ref gb, .ref af, .ref ak, .ref ar, .int (iI (bsize ch bl (n / ch) i)), .int (iI bc)])), (hs, .inr (4, [.ref as_, .int (iI ch), .int (iI bl), .int (iI n)])), (as_, .inl (X.2.1, 800, .inl (aI f))), (hm2, .inr (3, [.ref am])), (am, .inl (X.2.1, 800, .inl (aI mf))), (af, .inl (X.2.1, 800, .inl (aI ff3))), (ak, .inl (X.2.1, 800, .inl (aI kk3))), (ar, .inl (X.2.1, 64, .inl (aI (rests r2 f ch fn (bfirst ch bl i) (mahead mf ch i) (bsize ch bl (n / ch) i)))))]) (fun (k : Int) (fe2 : Int) (ff3 : Int → Int) (kk3 : Int → Int) => [(4, .int (iI k)), (3, .int (iI fn)), (2, .int (iI fe2)), (0, .ref h), (1, .int (iI i))]) (fun (k : Int) (fe2 : Int) (ff3 : Int → Int) (kk3 : Int → Int) => (0 ≤ k ∧ k ≤ 16) ∧ (0 ≤ fe2 ∧ fe2 ≤ 2147483647) ∧ (chS (cost f ch bl (n / ch) (mahead mf ch i) i) ff kk i (16 * fn + k) ff3 kk3 fe2)) (fun (k : Int) (fe2 : Int) (ff3 : Int → Int) (kk3 : Int → Int) => (16 - k).toNat) 0 fe ff2 kk2 ⟨(by omega), (by omega), (by rw [Int.add_zero]; exact hst)⟩ ?_
      intro k fe2 ff3 kk3 hI ih_48
      obtain ⟨hk, hfe2, hst2⟩ := hI
      try dsimp only at hk hfe2 hst2
      refine J_iload cx dX6_choose_48 0 rfl ?_
      refine J_bipush cx dX6_choose_50 (by decide) ?_
      refine J_icmp_gt (tgt := 112) cx dX6_choose_52 (by decide) (by omega) (by omega) (fun h_52 => ?_) (fun h_52 => ?_)
      · skip
        refine J_iinc (q := 1) (lv' := [(3, .int (iI (fn + 1))), (4, .int (iI k)), (2, .int (iI fe2)), (0, .ref h), (1, .int (iI i))]) cx dX6_choose_112 rfl (by decide) rfl ?_
        refine J_goto (tgt := 34) cx dX6_choose_115 (by decide) ?_
        refine J_lv (lv' := [(3, .int (iI (fn + 1))), (2, .int (iI fe2)), (0, .ref h), (1, .int (iI i))]) [0, 2, 3, 4] rfl ?_
        exact ih_34 (fn + 1) fe2 ff3 kk3 (rests r2 f ch fn (bfirst ch bl i) (mahead mf ch i) (bsize ch bl (n / ch) i)) ⟨(by omega), (by have := hcr fn k; omega), (by first | (rw [show 16 * (fn + 1) = 16 * fn + k by omega]; exact hst2) | exact chS_skip (N := 16 * fn + k) (by first | exact chS_lt hst2 (by omega) (by omega) rfl (by omega) | exact chS_ge hst2 (by omega) (by omega) rfl (by omega) (by have := hcr fn k (by omega) (by omega); omega)) (by omega) (by omega) rfl (fun t h5 h6 => cost_up hf hmu hbs (by omega) h5 h_100))⟩ (by omega)
      · skip
        refine J_aload_n cx dX6_choose_55 rfl 3 rfl ?_
        refine J_iload cx dX6_choose_56 0 rfl ?_
        refine J_callV (C := RX6) (T := TX6) (N := 8) cx (As := [.int (iI k)]) (rest := []) (mX6_zerosFor l X h hs hm2 gb af ak ar (bsize ch bl (n / ch) i) bc (rests r2 f ch fn (bfirst ch bl i) (mahead mf ch i) (bsize ch bl (n / ch) i)) k (by omega) (by omega) (fun j h5 h6 => by rw [rests_at ⟨h5, h6⟩]; exact rst_rng hf hmu ch _ _)) T326 T323 T325 S2 T3 ⟨rfl, hd_X6_zerosFor⟩ rfl ⟨Nat.le_of_ble_eq_true rfl, Nat.le_of_ble_eq_true rfl⟩ (Nat.le_of_ble_eq_true rfl) ⟨Nat.le_of_ble_eq_true rfl, Nat.le_of_ble_eq_true rfl⟩ [0, 7] [1, 2, 3, 4, 5, 6] rfl rfl rfl rfl rfl (by decide) 0 rfl rfl dX6_choose_58 rfl (J_f (ws' := [(h, .inr (6, [.ref hs, .ref hm2, .ref gb, .ref af, .ref ak, .ref ar, .int (iI (bsize ch bl (n / ch) i)), .int (iI bc)])), (hs, .inr (4, [.ref as_, .int (iI ch), .int (iI bl), .int (iI n)])), (as_, .inl (X.2.1, 800, .inl (aI f))), (hm2, .inr (3, [.ref am])), (am, .inl (X.2.1, 800, .inl (aI mf))), (af, .inl (X.2.1, 800, .inl (aI ff3))), (ak, .inl (X.2.1, 800, .inl (aI kk3))), (ar, .inl (X.2.1, 64, .inl (aI (rests r2 f ch fn (bfirst ch bl i) (mahead mf ch i) (bsize ch bl (n / ch) i)))))]) (st' := [.int (iI (zsum (rests r2 f ch fn (bfirst ch bl i) (mahead mf ch i) (bsize ch bl (n / ch) i)) k (bsize ch bl (n / ch) i)))]) [6, 0, 1, 2, 3, 4, 5, 7] rfl rfl rfl rfl ?_)
        refine J_top (b := (zsum (fun j => rst f ch fn (bfirst ch bl i + j * ch) (mahead mf ch i)) k (bsize ch bl (n / ch) i))) (zsum_rests) ?_
        refine J_istore (lv' := [(5, .int (iI (zsum (fun j => rst f ch fn (bfirst ch bl i + j * ch) (mahead mf ch i)) k (bsize ch bl (n / ch) i)))), (4, .int (iI k)), (3, .int (iI fn)), (2, .int (iI fe2)), (0, .ref h), (1, .int (iI i))]) cx dX6_choose_61 (by decide) rfl ?_
        refine J_aload_n cx dX6_choose_63 rfl 4 rfl ?_
        refine J_iload_n cx dX6_choose_64 rfl 2 rfl ?_
        refine J_iload cx dX6_choose_65 1 rfl ?_
        refine J_iload cx dX6_choose_67 0 rfl ?_
        refine J_callV (C := RX6) (T := TX6) (N := 8) cx (As := [.int (iI fn), .int (iI k), .int (iI (zsum (fun j => rst f ch fn (bfirst ch bl i + j * ch) (mahead mf ch i)) k (bsize ch bl (n / ch) i)))]) (rest := []) (mX6_bitsWith l X h hs hm2 gb af ak ar (bsize ch bl (n / ch) i) bc fn k (zsum (fun j => rst f ch fn (bfirst ch bl i + j * ch) (mahead mf ch i)) k (bsize ch bl (n / ch) i)) (by omega) (by omega)) T331 T328 T330 S3 T3 ⟨rfl, hd_X6_bitsWith⟩ rfl ⟨Nat.le_of_ble_eq_true rfl, Nat.le_of_ble_eq_true rfl⟩ (Nat.le_of_ble_eq_true rfl) ⟨Nat.le_of_ble_eq_true rfl, Nat.le_of_ble_eq_true rfl⟩ [0] [1, 2, 3, 4, 5, 6, 7] rfl rfl rfl rfl rfl (by decide) 0 rfl rfl dX6_choose_69 rfl (J_f (ws' := [(h, .inr (6, [.ref hs, .ref hm2, .ref gb, .ref af, .ref ak, .ref ar, .int (iI (bsize ch bl (n / ch) i)), .int (iI bc)])), (hs, .inr (4, [.ref as_, .int (iI ch), .int (iI bl), .int (iI n)])), (as_, .inl (X.2.1, 800, .inl (aI f))), (hm2, .inr (3, [.ref am])), (am, .inl (X.2.1, 800, .inl (aI mf))), (af, .inl (X.2.1, 800, .inl (aI ff3))), (ak, .inl (X.2.1, 800, .inl (aI kk3))), (ar, .inl (X.2.1, 64, .inl (aI (rests r2 f ch fn (bfirst ch bl i) (mahead mf ch i) (bsize ch bl (n / ch) i)))))]) (st' := [.int (iI (bcost fn k (zsum (fun j => rst f ch fn (bfirst ch bl i + j * ch) (mahead mf ch i)) k (bsize ch bl (n / ch) i)) (bsize ch bl (n / ch) i)))]) [7, 0, 1, 2, 3, 4, 5, 6] rfl rfl rfl rfl ?_)
        refine J_top (b := (cost f ch bl (n / ch) (mahead mf ch i) i fn k)) (rfl) ?_
        refine J_istore (lv' := [(6, .int (iI (cost f ch bl (n / ch) (mahead mf ch i) i fn k))), (5, .int (iI (zsum (fun j => rst f ch fn (bfirst ch bl i + j * ch) (mahead mf ch i)) k (bsize ch bl (n / ch) i)))), (4, .int (iI k)), (3, .int (iI fn)), (2, .int (iI fe2)), (0, .ref h), (1, .int (iI i))]) cx dX6_choose_72 (by decide) rfl ?_
        refine J_iload cx dX6_choose_74 0 rfl ?_
        refine J_iload_n cx dX6_choose_76 rfl 4 rfl ?_
        refine J_icmp_ge (tgt := 98) cx dX6_choose_77 (by decide) (by have := hcr fn k (by omega) (by omega); omega) (by omega) (fun h_77 => ?_) (fun h_77 => ?_)
        · skip
          refine J_iload cx dX6_choose_98 1 rfl ?_
          refine J_if_ne (tgt := 106) cx dX6_choose_100 (by decide) (by have := hzr fn k; omega) (fun h_100 => ?_) (fun h_100 => ?_)
          · skip
            refine J_iinc (q := 2) (lv' := [(4, .int (iI (k + 1))), (6, .int (iI (cost f ch bl (n / ch) (mahead mf ch i) i fn k))), (5, .int (iI (zsum (fun j => rst f ch fn (bfirst ch bl i + j * ch) (mahead mf ch i)) k (bsize ch bl (n / ch) i)))), (3, .int (iI fn)), (2, .int (iI fe2)), (0, .ref h), (1, .int (iI i))]) cx dX6_choose_106 rfl (by decide) rfl ?_
            refine J_goto (tgt := 48) cx dX6_choose_109 (by decide) ?_
            refine J_lv (lv' := [(4, .int (iI (k + 1))), (3, .int (iI fn)), (2, .int (iI fe2)), (0, .ref h), (1, .int (iI i))]) [0, 3, 4, 5, 6] rfl ?_
            exact ih_48 (k + 1) fe2 ff3 kk3 ⟨(by omega), (by have := hcr fn k; omega), (by rw [← Int.add_assoc]; first | exact chS_lt hst2 (by omega) (by omega) rfl (by omega) | exact chS_ge hst2 (by omega) (by omega) rfl (by omega) (by have := hcr fn k (by omega) (by omega); omega))⟩ (by omega)
          · skip
            refine J_goto (tgt := 112) cx dX6_choose_103 (by decide) ?_
            refine J_iinc (q := 3) (lv' := [(3, .int (iI (fn + 1))), (6, .int (iI (cost f ch bl (n / ch) (mahead mf ch i) i fn k))), (5, .int (iI (zsum (fun j => rst f ch fn (bfirst ch bl i + j * ch) (mahead mf ch i)) k (bsize ch bl (n / ch) i)))), (4, .int (iI k)), (2, .int (iI fe2)), (0, .ref h), (1, .int (iI i))]) cx dX6_choose_112 rfl (by decide) rfl ?_
            refine J_goto (tgt := 34) cx dX6_choose_115 (by decide) ?_
            refine J_lv (lv' := [(3, .int (iI (fn + 1))), (2, .int (iI fe2)), (0, .ref h), (1, .int (iI i))]) [0, 4, 5, 6] rfl ?_
            exact ih_34 (fn + 1) fe2 ff3 kk3 (rests r2 f ch fn (bfirst ch bl i) (mahead mf ch i) (bsize ch bl (n / ch) i)) ⟨(by omega), (by have := hcr fn k; omega), (by first | (rw [show 16 * (fn + 1) = 16 * fn + k by omega]; exact hst2) | exact chS_skip (N := 16 * fn + k) (by first | exact chS_lt hst2 (by omega) (by omega) rfl (by omega) | exact chS_ge hst2 (by omega) (by omega) rfl (by omega) (by have := hcr fn k (by omega) (by omega); omega)) (by omega) (by omega) rfl (fun t h5 h6 => cost_up hf hmu hbs (by omega) h5 h_100))⟩ (by omega)
        · skip
          refine J_iload cx dX6_choose_80 0 rfl ?_
          refine J_istore_n (lv' := [(2, .int (iI (cost f ch bl (n / ch) (mahead mf ch i) i fn k))), (6, .int (iI (cost f ch bl (n / ch) (mahead mf ch i) i fn k))), (5, .int (iI (zsum (fun j => rst f ch fn (bfirst ch bl i + j * ch) (mahead mf ch i)) k (bsize ch bl (n / ch) i)))), (4, .int (iI k)), (3, .int (iI fn)), (0, .ref h), (1, .int (iI i))]) cx dX6_choose_82 rfl (by decide) rfl ?_
          refine J_aload_n cx dX6_choose_83 rfl 5 rfl ?_
          refine J_get cx inC6 0 rfl rfl 3 (by decide) T103 rfl rfl dX6_choose_84 ?_
          refine J_iload_n cx dX6_choose_87 rfl 6 rfl ?_
          refine J_iload_n cx dX6_choose_88 rfl 4 rfl ?_
          refine J_iast (ws' := [(h, .inr (6, [.ref hs, .ref hm2, .ref gb, .ref af, .ref ak, .ref ar, .int (iI (bsize ch bl (n / ch) i)), .int (iI bc)])), (hs, .inr (4, [.ref as_, .int (iI ch), .int (iI bl), .int (iI n)])), (as_, .inl (X.2.1, 800, .inl (aI f))), (hm2, .inr (3, [.ref am])), (am, .inl (X.2.1, 800, .inl (aI mf))), (af, .inl (X.2.1, 800, .inl (aI (upI ff3 i fn)))), (ak, .inl (X.2.1, 800, .inl (aI kk3))), (ar, .inl (X.2.1, 64, .inl (aI (rests r2 f ch fn (bfirst ch bl i) (mahead mf ch i) (bsize ch bl (n / ch) i)))))]) cx 5 rfl (by omega) (by decide) rfl dX6_choose_89 ?_
          refine J_aload_n cx dX6_choose_90 rfl 5 rfl ?_
          refine J_get cx inC6 0 rfl rfl 4 (by decide) T105 rfl rfl dX6_choose_91 ?_
          refine J_iload_n cx dX6_choose_94 rfl 6 rfl ?_
          refine J_iload cx dX6_choose_95 3 rfl ?_
          refine J_iast (ws' := [(h, .inr (6, [.ref hs, .ref hm2, .ref gb, .ref af, .ref ak, .ref ar, .int (iI (bsize ch bl (n / ch) i)), .int (iI bc)])), (hs, .inr (4, [.ref as_, .int (iI ch), .int (iI bl), .int (iI n)])), (as_, .inl (X.2.1, 800, .inl (aI f))), (hm2, .inr (3, [.ref am])), (am, .inl (X.2.1, 800, .inl (aI mf))), (af, .inl (X.2.1, 800, .inl (aI (upI ff3 i fn)))), (ak, .inl (X.2.1, 800, .inl (aI (upI kk3 i k)))), (ar, .inl (X.2.1, 64, .inl (aI (rests r2 f ch fn (bfirst ch bl i) (mahead mf ch i) (bsize ch bl (n / ch) i)))))]) cx 6 rfl (by omega) (by decide) rfl dX6_choose_97 ?_
          refine J_iload cx dX6_choose_98 2 rfl ?_
          refine J_if_ne (tgt := 106) cx dX6_choose_100 (by decide) (by have := hzr fn k; omega) (fun h_100 => ?_) (fun h_100 => ?_)
          · skip
            refine J_iinc (q := 3) (lv' := [(4, .int (iI (k + 1))), (2, .int (iI (cost f ch bl (n / ch) (mahead mf ch i) i fn k))), (6, .int (iI (cost f ch bl (n / ch) (mahead mf ch i) i fn k))), (5, .int (iI (zsum (fun j => rst f ch fn (bfirst ch bl i + j * ch) (mahead mf ch i)) k (bsize ch bl (n / ch) i)))), (3, .int (iI fn)), (0, .ref h), (1, .int (iI i))]) cx dX6_choose_106 rfl (by decide) rfl ?_
            refine J_goto (tgt := 48) cx dX6_choose_109 (by decide) ?_
            refine J_lv (lv' := [(4, .int (iI (k + 1))), (3, .int (iI fn)), (2, .int (iI (cost f ch bl (n / ch) (mahead mf ch i) i fn k))), (0, .ref h), (1, .int (iI i))]) [0, 4, 1, 5, 6] rfl ?_
            exact ih_48 (k + 1) (cost f ch bl (n / ch) (mahead mf ch i) i fn k) (upI ff3 i fn) (upI kk3 i k) ⟨(by omega), (by have := hcr fn k; omega), (by rw [← Int.add_assoc]; first | exact chS_lt hst2 (by omega) (by omega) rfl (by omega) | exact chS_ge hst2 (by omega) (by omega) rfl (by omega) (by have := hcr fn k (by omega) (by omega); omega))⟩ (by omega)
          · skip
            refine J_goto (tgt := 112) cx dX6_choose_103 (by decide) ?_
            refine J_iinc (q := 4) (lv' := [(3, .int (iI (fn + 1))), (2, .int (iI (cost f ch bl (n / ch) (mahead mf ch i) i fn k))), (6, .int (iI (cost f ch bl (n / ch) (mahead mf ch i) i fn k))), (5, .int (iI (zsum (fun j => rst f ch fn (bfirst ch bl i + j * ch) (mahead mf ch i)) k (bsize ch bl (n / ch) i)))), (4, .int (iI k)), (0, .ref h), (1, .int (iI i))]) cx dX6_choose_112 rfl (by decide) rfl ?_
            refine J_goto (tgt := 34) cx dX6_choose_115 (by decide) ?_
            refine J_lv (lv' := [(3, .int (iI (fn + 1))), (2, .int (iI (cost f ch bl (n / ch) (mahead mf ch i) i fn k))), (0, .ref h), (1, .int (iI i))]) [0, 1, 5, 6] rfl ?_
            exact ih_34 (fn + 1) (cost f ch bl (n / ch) (mahead mf ch i) i fn k) (upI ff3 i fn) (upI kk3 i k) (rests r2 f ch fn (bfirst ch bl i) (mahead mf ch i) (bsize ch bl (n / ch) i)) ⟨(by omega), (by have := hcr fn k; omega), (by first | (rw [show 16 * (fn + 1) = 16 * fn + k by omega]; exact hst2) | exact chS_skip (N := 16 * fn + k) (by first | exact chS_lt hst2 (by omega) (by omega) rfl (by omega) | exact chS_ge hst2 (by omega) (by omega) rfl (by omega) (by have := hcr fn k (by omega) (by omega); omega)) (by omega) (by omega) rfl (fun t h5 h6 => cost_up hf hmu hbs (by omega) h5 h_100))⟩ (by omega)
  · skip
    refine J_aload_n cx dX6_choose_14 rfl 0 rfl ?_
    refine J_get cx inC6 0 rfl rfl 3 (by decide) T103 rfl rfl dX6_choose_15 ?_
    refine J_iload_n cx dX6_choose_18 rfl 1 rfl ?_
    refine J_iconst cx dX6_choose_19 ?_
    refine J_iast (ws' := [(h, .inr (6, [.ref hs, .ref hm2, .ref gb, .ref af, .ref ak, .ref ar, .int (iI (bsize ch bl (n / ch) i)), .int (iI bc)])), (hs, .inr (4, [.ref as_, .int (iI ch), .int (iI bl), .int (iI n)])), (as_, .inl (X.2.1, 800, .inl (aI f))), (hm2, .inr (3, [.ref am])), (am, .inl (X.2.1, 800, .inl (aI mf))), (af, .inl (X.2.1, 800, .inl (aI (upI ff i 4)))), (ak, .inl (X.2.1, 800, .inl (aI kk))), (ar, .inl (X.2.1, 64, .inl (aI (rests rs f ch 0 (bfirst ch bl i) (mahead mf ch i) (bsize ch bl (n / ch) i)))))]) cx 5 rfl (by omega) (by decide) rfl dX6_choose_20 ?_
    refine J_aload_n cx dX6_choose_21 rfl 0 rfl ?_
    refine J_get cx inC6 0 rfl rfl 4 (by decide) T105 rfl rfl dX6_choose_22 ?_
    refine J_iload_n cx dX6_choose_25 rfl 1 rfl ?_
    refine J_iconst cx dX6_choose_26 ?_
    refine J_iast (ws' := [(h, .inr (6, [.ref hs, .ref hm2, .ref gb, .ref af, .ref ak, .ref ar, .int (iI (bsize ch bl (n / ch) i)), .int (iI bc)])), (hs, .inr (4, [.ref as_, .int (iI ch), .int (iI bl), .int (iI n)])), (as_, .inl (X.2.1, 800, .inl (aI f))), (hm2, .inr (3, [.ref am])), (am, .inl (X.2.1, 800, .inl (aI mf))), (af, .inl (X.2.1, 800, .inl (aI (upI ff i 4)))), (ak, .inl (X.2.1, 800, .inl (aI (upI kk i (-1))))), (ar, .inl (X.2.1, 64, .inl (aI (rests rs f ch 0 (bfirst ch bl i) (mahead mf ch i) (bsize ch bl (n / ch) i)))))]) cx 6 rfl (by omega) (by decide) rfl dX6_choose_27 ?_
    exact J_vret cx hr dX6_choose_28 (by have eF : chF f ch bl (n / ch) (mahead mf ch i) i = 4 := (by unfold chF; rw [if_pos h_11]); have eK : chK f ch bl (n / ch) (mahead mf ch i) i = -1 := (by unfold chK; rw [if_pos h_11]); rw [eF, eK]; exact ⟨_, rfl, rfl⟩)
end
section
set_option maxHeartbeats 4000000 in
set_option maxRecDepth 100000 in
theorem mX6_putBlock (l : Launch) (X : GX) (h : Nat) (hs : Nat) (hm2 : Nat) (gb : Nat) (af : Nat) (ak : Nat) (ar : Nat) (rc : Int) (bc : Int) (as_ : Nat) (f : Int → Int) (ch : Int) (bl : Int) (n : Int) (am : Nat) (mf : Int → Int) (rs : Int → Int) (ff : Int → Int) (kk : Int → Int) (i : Int) (gr : Nat) (ga : Nat) (o : Int → Int) (x : BB) (hc : 1 ≤ ch ∧ ch ≤ 2) (hn : 0 ≤ n ∧ n ≤ 800) (hb : 1 ≤ bl ∧ bl ≤ 64) (hi : 0 ≤ i ∧ i < 800) (hib : 0 ≤ i / ch * bl ∧ i / ch * bl < n / ch) (hf : ∀ j, -32768 ≤ f j ∧ f j ≤ 32767) (hm : ∀ j, -32768 ≤ mf j ∧ mf j ≤ 32767) (hch : (ff i = 4) ∨ ((0 ≤ ff i ∧ ff i ≤ 3) ∧ (0 ≤ kk i ∧ kk i ≤ 15))) (hx : 0 ≤ x.2 ∧ x.2 + (if ff i = 4 then 4 else cost f ch bl (n / ch) (mahead mf ch i) i (ff i) (kk i)) ≤ 24000) : Ct l yX6_putBlock cX6_putBlock 5 none 4 93 0 0 X [.ref h, .int (iI i)] [(h, .inr (6, [.ref hs, .ref hm2, .ref gb, .ref af, .ref ak, .ref ar, .int (iI rc), .int (iI bc)])), (hs, .inr (4, [.ref as_, .int (iI ch), .int (iI bl), .int (iI n)])), (as_, .inl (X.2.1, 800, .inl (aI f))), (hm2, .inr (3, [.ref am])), (am, .inl (X.2.1, 800, .inl (aI mf))), (af, .inl (X.2.1, 800, .inl (aI ff))), (ak, .inl (X.2.1, 800, .inl (aI kk))), (ar, .inl (X.2.1, 64, .inl (aI rs))), (gb, .inr (1, [.ref gr, .int (iI (pk x.1 (8 * (x.2 / 8)) (x.2 % 8))), .int (iI (x.2 % 8))])), (gr, .inr (2, [.ref ga, .int (iI (x.2 / 8))])), (ga, .inl (X.2.2, 3000, .inl (aI (rowOf o x.1 x.2))))] (fun v u => ∃ (r' : Int → Int) (rc' : Int), v = none ∧ u = [(h, .inr (6, [.ref hs, .ref hm2, .ref gb, .ref af, .ref ak, .ref ar, .int (iI rc'), .int (iI bc)])), (hs, .inr (4, [.ref as_, .int (iI ch), .int (iI bl), .int (iI n)])), (as_, .inl (X.2.1, 800, .inl (aI f))), (hm2, .inr (3, [.ref am])), (am, .inl (X.2.1, 800, .inl (aI mf))), (af, .inl (X.2.1, 800, .inl (aI ff))), (ak, .inl (X.2.1, 800, .inl (aI kk))), (ar, .inl (X.2.1, 64, .inl (aI r'))), (gb, .inr (1, [.ref gr, .int (iI (pk (pblkB f ch bl (n / ch) (mahead mf ch i) i (ff i) (kk i) x).1 (8 * ((pblkB f ch bl (n / ch) (mahead mf ch i) i (ff i) (kk i) x).2 / 8)) ((pblkB f ch bl (n / ch) (mahead mf ch i) i (ff i) (kk i) x).2 % 8))), .int (iI ((pblkB f ch bl (n / ch) (mahead mf ch i) i (ff i) (kk i) x).2 % 8))])), (gr, .inr (2, [.ref ga, .int (iI ((pblkB f ch bl (n / ch) (mahead mf ch i) i (ff i) (kk i) x).2 / 8))])), (ga, .inl (X.2.2, 3000, .inl (aI (rowOf o (pblkB f ch bl (n / ch) (mahead mf ch i) i (ff i) (kk i) x).1 (pblkB f ch bl (n / ch) (mahead mf ch i) i (ff i) (kk i) x).2))))]) := by
  refine Ct_of (own := RX6) (lv := [(0, .ref h), (1, .int (iI i))]) (by decide +kernel) rfl (Nat.le_of_ble_eq_true rfl) rfl ?_
  intro p e s m args below meth c A cx hr hin
  have hbs := bsize_rng (i := i) (ch := ch) (bl := bl) (many := n / ch) hb hib.2
  have hd1 := half_rng hc hn
  have hmu := mahead_rng hm ch i
  have hrr : ∀ j, 0 ≤ rst f ch (ff i) (bfirst ch bl i + j * ch) (mahead mf ch i) ∧ rst f ch (ff i) (bfirst ch bl i + j * ch) (mahead mf ch i) ≤ 600000 := fun j => rst_rng hf hmu ch (ff i) _
  have hzr : ∀ k, 0 ≤ zsum (fun j => rst f ch (ff i) (bfirst ch bl i + j * ch) (mahead mf ch i)) k (bsize ch bl (n / ch) i) := fun k => (zsum_rng (B := 600000) (by omega) (fun j _ _ => by have h5 := hrr j; have h6 := ediv_p2 (k := k) h5.1; omega)).1
  have e2 : nbits 2 (ff i) = ff i / 4 + 1 + 2 := rfl
  have e3 : nbits 3 (kk i) = kk i / 8 + 1 + 3 := rfl
  have ecost : cost f ch bl (n / ch) (mahead mf ch i) i (ff i) (kk i) = nbits 2 (ff i) + nbits 3 (kk i) + zsum (fun j => rst f ch (ff i) (bfirst ch bl i + j * ch) (mahead mf ch i)) (kk i) (bsize ch bl (n / ch) i) + (bsize ch bl (n / ch) i) * (1 + kk i) := rfl
  have hx4 : ¬ ff i = 4 → x.2 + cost f ch bl (n / ch) (mahead mf ch i) i (ff i) (kk i) ≤ 24000 ∧ (0 ≤ ff i ∧ ff i ≤ 3) ∧ (0 ≤ kk i ∧ kk i ≤ 15) ∧ 0 ≤ (bsize ch bl (n / ch) i) * (1 + kk i) := by intro h5; rw [if_neg h5] at hx; exact ⟨hx.2, by omega, by omega, Int.mul_nonneg (by omega) (by omega)⟩
  have hx5 : ff i = 4 → x.2 + 4 ≤ 24000 := by intro h5; rw [if_pos h5] at hx; exact hx.2
  have hzk := hzr (kk i)
  have hx6 : x.2 + nbits 2 (ff i) ≤ 24000 := by by_cases h5 : ff i = 4; (have := hx5 h5; omega); (have := hx4 h5; omega)
  have hn2 : 0 ≤ ff i → (pnum 2 (ff i) x).2 = x.2 + nbits 2 (ff i) := fun h5 => pnum_n (by decide) h5 x
  refine J_aload_n cx dX6_putBlock_0 rfl 0 rfl ?_
  refine J_get cx inC6 0 rfl rfl 3 (by decide) T103 rfl rfl dX6_putBlock_1 ?_
  refine J_iload_n cx dX6_putBlock_4 rfl 1 rfl ?_
  refine J_iald cx 5 rfl (by omega) (by decide) dX6_putBlock_5 ?_
  refine J_istore_n (lv' := [(2, .int (iI (ff i))), (0, .ref h), (1, .int (iI i))]) cx dX6_putBlock_6 rfl (by decide) rfl ?_
  refine J_aload_n cx dX6_putBlock_7 rfl 1 rfl ?_
  refine J_get cx inC6 0 rfl rfl 2 (by decide) T101 rfl rfl dX6_putBlock_8 ?_
  refine J_iconst cx dX6_putBlock_11 ?_
  refine J_iload_n cx dX6_putBlock_12 rfl 0 rfl ?_
  refine J_callV (C := RX1) (T := TX1) (N := 3) cx (As := [.int (iI 2), .int (iI (ff i))]) (rest := []) (mX1_putNumber l X gb gr ga o x 2 (ff i) (by omega) (by omega) (by omega)) T266 T263 T264 T265 T5 ⟨rfl, hd_X1_putNumber⟩ rfl ⟨Nat.le_of_ble_eq_true rfl, Nat.le_of_ble_eq_true rfl⟩ (Nat.le_of_ble_eq_true rfl) ⟨Nat.le_of_ble_eq_true rfl, Nat.le_of_ble_eq_true rfl⟩ [8, 9, 10] [0, 1, 2, 3, 4, 5, 6, 7] rfl rfl rfl rfl rfl (by decide) 8 rfl rfl dX6_putBlock_13 rfl (J_f (ws' := [(h, .inr (6, [.ref hs, .ref hm2, .ref gb, .ref af, .ref ak, .ref ar, .int (iI rc), .int (iI bc)])), (hs, .inr (4, [.ref as_, .int (iI ch), .int (iI bl), .int (iI n)])), (as_, .inl (X.2.1, 800, .inl (aI f))), (hm2, .inr (3, [.ref am])), (am, .inl (X.2.1, 800, .inl (aI mf))), (af, .inl (X.2.1, 800, .inl (aI ff))), (ak, .inl (X.2.1, 800, .inl (aI kk))), (ar, .inl (X.2.1, 64, .inl (aI rs))), (gb, .inr (1, [.ref gr, .int (iI (pk (pnum 2 (ff i) x).1 (8 * ((pnum 2 (ff i) x).2 / 8)) ((pnum 2 (ff i) x).2 % 8))), .int (iI ((pnum 2 (ff i) x).2 % 8))])), (gr, .inr (2, [.ref ga, .int (iI ((pnum 2 (ff i) x).2 / 8))])), (ga, .inl (X.2.2, 3000, .inl (aI (rowOf o (pnum 2 (ff i) x).1 (pnum 2 (ff i) x).2))))]) (st' := []) [0, 1, 2, 3, 4, 5, 6, 7, 8, 9, 10] rfl rfl rfl rfl ?_)
  refine J_iload_n cx dX6_putBlock_16 rfl 0 rfl ?_
  refine J_iconst cx dX6_putBlock_17 ?_
  refine J_icmp_ne (tgt := 22) cx dX6_putBlock_18 (by decide) (by omega) (by omega) (fun h_18 => ?_) (fun h_18 => ?_)
  · skip
    have hx7 := hx4 h_18
    have hn3 : (pnum 3 (kk i) (pnum 2 (ff i) x)).2 = (pnum 2 (ff i) x).2 + nbits 3 (kk i) := pnum_n (by decide) (by omega) _
    have hn2 := hn2 (by omega)
    refine J_aload_n cx dX6_putBlock_22 rfl 1 rfl ?_
    refine J_get cx inC6 0 rfl rfl 4 (by decide) T105 rfl rfl dX6_putBlock_23 ?_
    refine J_iload_n cx dX6_putBlock_26 rfl 2 rfl ?_
    refine J_iald cx 6 rfl (by omega) (by decide) dX6_putBlock_27 ?_
    refine J_istore_n (lv' := [(3, .int (iI (kk i))), (2, .int (iI (ff i))), (0, .ref h), (1, .int (iI i))]) cx dX6_putBlock_28 rfl (by decide) rfl ?_
    refine J_aload_n cx dX6_putBlock_29 rfl 2 rfl ?_
    refine J_get cx inC6 0 rfl rfl 2 (by decide) T101 rfl rfl dX6_putBlock_30 ?_
    refine J_iconst cx dX6_putBlock_33 ?_
    refine J_iload_n cx dX6_putBlock_34 rfl 0 rfl ?_
    refine J_callV (C := RX1) (T := TX1) (N := 3) cx (As := [.int (iI 3), .int (iI (kk i))]) (rest := []) (mX1_putNumber l X gb gr ga o (pnum 2 (ff i) x) 3 (kk i) (by omega) (by omega) (by omega)) T266 T263 T264 T265 T5 ⟨rfl, hd_X1_putNumber⟩ rfl ⟨Nat.le_of_ble_eq_true rfl, Nat.le_of_ble_eq_true rfl⟩ (Nat.le_of_ble_eq_true rfl) ⟨Nat.le_of_ble_eq_true rfl, Nat.le_of_ble_eq_true rfl⟩ [8, 9, 10] [0, 1, 2, 3, 4, 5, 6, 7] rfl rfl rfl rfl rfl (by decide) 8 rfl rfl dX6_putBlock_35 rfl (J_f (ws' := [(h, .inr (6, [.ref hs, .ref hm2, .ref gb, .ref af, .ref ak, .ref ar, .int (iI rc), .int (iI bc)])), (hs, .inr (4, [.ref as_, .int (iI ch), .int (iI bl), .int (iI n)])), (as_, .inl (X.2.1, 800, .inl (aI f))), (hm2, .inr (3, [.ref am])), (am, .inl (X.2.1, 800, .inl (aI mf))), (af, .inl (X.2.1, 800, .inl (aI ff))), (ak, .inl (X.2.1, 800, .inl (aI kk))), (ar, .inl (X.2.1, 64, .inl (aI rs))), (gb, .inr (1, [.ref gr, .int (iI (pk (pnum 3 (kk i) (pnum 2 (ff i) x)).1 (8 * ((pnum 3 (kk i) (pnum 2 (ff i) x)).2 / 8)) ((pnum 3 (kk i) (pnum 2 (ff i) x)).2 % 8))), .int (iI ((pnum 3 (kk i) (pnum 2 (ff i) x)).2 % 8))])), (gr, .inr (2, [.ref ga, .int (iI ((pnum 3 (kk i) (pnum 2 (ff i) x)).2 / 8))])), (ga, .inl (X.2.2, 3000, .inl (aI (rowOf o (pnum 3 (kk i) (pnum 2 (ff i) x)).1 (pnum 3 (kk i) (pnum 2 (ff i) x)).2))))]) (st' := []) [0, 1, 2, 3, 4, 5, 6, 7, 8, 9, 10] rfl rfl rfl rfl ?_)
    refine J_aload_n cx dX6_putBlock_38 rfl 2 rfl ?_
    refine J_iload_n cx dX6_putBlock_39 rfl 3 rfl ?_
    refine J_iload_n cx dX6_putBlock_40 rfl 1 rfl ?_
    refine J_callV (C := RX6) (T := TX6) (N := 8) cx (As := [.int (iI i), .int (iI (ff i))]) (rest := []) (mX6_findRests l X h hs hm2 gb af ak ar rc bc as_ f ch bl n am mf rs i (ff i) (by omega) (by omega) (by omega) (by omega) (by omega) (hf) (hm) (by omega)) T307 T304 T306 S1 T3 ⟨rfl, hd_X6_findRests⟩ rfl ⟨Nat.le_of_ble_eq_true rfl, Nat.le_of_ble_eq_true rfl⟩ (Nat.le_of_ble_eq_true rfl) ⟨Nat.le_of_ble_eq_true rfl, Nat.le_of_ble_eq_true rfl⟩ [0, 1, 2, 3, 4, 7] [5, 6, 8, 9, 10] rfl rfl rfl rfl rfl (by decide) 0 rfl rfl dX6_putBlock_41 rfl (J_f (ws' := [(h, .inr (6, [.ref hs, .ref hm2, .ref gb, .ref af, .ref ak, .ref ar, .int (iI (bsize ch bl (n / ch) i)), .int (iI bc)])), (hs, .inr (4, [.ref as_, .int (iI ch), .int (iI bl), .int (iI n)])), (as_, .inl (X.2.1, 800, .inl (aI f))), (hm2, .inr (3, [.ref am])), (am, .inl (X.2.1, 800, .inl (aI mf))), (af, .inl (X.2.1, 800, .inl (aI ff))), (ak, .inl (X.2.1, 800, .inl (aI kk))), (ar, .inl (X.2.1, 64, .inl (aI (rests rs f ch (ff i) (bfirst ch bl i) (mahead mf ch i) (bsize ch bl (n / ch) i))))), (gb, .inr (1, [.ref gr, .int (iI (pk (pnum 3 (kk i) (pnum 2 (ff i) x)).1 (8 * ((pnum 3 (kk i) (pnum 2 (ff i) x)).2 / 8)) ((pnum 3 (kk i) (pnum 2 (ff i) x)).2 % 8))), .int (iI ((pnum 3 (kk i) (pnum 2 (ff i) x)).2 % 8))])), (gr, .inr (2, [.ref ga, .int (iI ((pnum 3 (kk i) (pnum 2 (ff i) x)).2 / 8))])), (ga, .inl (X.2.2, 3000, .inl (aI (rowOf o (pnum 3 (kk i) (pnum 2 (ff i) x)).1 (pnum 3 (kk i) (pnum 2 (ff i) x)).2))))]) (st' := []) [5, 6, 7, 8, 9, 0, 1, 10, 2, 3, 4] rfl rfl rfl rfl ?_)
    refine J_iconst cx dX6_putBlock_44 ?_
    refine J_istore (lv' := [(4, .int (iI 0)), (3, .int (iI (kk i))), (2, .int (iI (ff i))), (0, .ref h), (1, .int (iI i))]) cx dX6_putBlock_45 (by decide) rfl ?_
    refine J_loop2 (fun (j : Int) (y : BB) => [(h, .inr (6, [.ref hs, .ref hm2, .ref gb, .ref af, .ref ak, .ref ar, .int (iI (bsize ch bl (n / ch) i)), .int (iI bc)])), (hs, .inr (4, [.ref as_, .int (iI ch), .int (iI bl), .int (iI n)])), (as_, .inl (X.2.1, 800, .inl (aI f))), (hm2, .inr (3, [.ref am])), (am, .inl (X.2.1, 800, .inl (aI mf))), (af, .inl (X.2.1, 800, .inl (aI ff))), (ak, .inl (X.2.1, 800, .inl (aI kk))), (ar, .inl (X.2.1, 64, .inl (aI (rests rs f ch (ff i) (bfirst ch bl i) (mahead mf ch i) (bsize ch bl (n / ch) i))))), (gb, .inr (1, [.ref gr, .int (iI (pk y.1 (8 * (y.2 / 8)) (y.2 % 8))), .int (iI (y.2 % 8))])), (gr, .inr (2, [.ref ga, .int (iI (y.2 / 8))])), (ga, .inl (X.2.2, 3000, .inl (aI (rowOf o y.1 y.2))))]) (fun (j : Int) (y : BB) => [(4, .int (iI j)), (3, .int (iI (kk i))), (2, .int (iI (ff i))), (0, .ref h), (1, .int (iI i))]) (fun (j : Int) (y : BB) => (0 ≤ j ∧ j ≤ bsize ch bl (n / ch) i) ∧ (y = prest (fun j => rst f ch (ff i) (bfirst ch bl i + j * ch) (mahead mf ch i)) (kk i) j (pnum 3 (kk i) (pnum 2 (ff i) x))) ∧ (y.2 = (pnum 3 (kk i) (pnum 2 (ff i) x)).2 + zsum (fun j => rst f ch (ff i) (bfirst ch bl i + j * ch) (mahead mf ch i)) (kk i) j + j * (1 + kk i))) (fun (j : Int) (y : BB) => (bsize ch bl (n / ch) i - j).toNat) 0 (pnum 3 (kk i) (pnum 2 (ff i) x)) ⟨(by omega), (rfl), (by rw [zsum_0]; omega)⟩ ?_
    intro j y hI ih_47
    obtain ⟨hj, hy, hyn⟩ := hI
    try dsimp only at hj hy hyn
    refine J_iload cx dX6_putBlock_47 0 rfl ?_
    refine J_aload_n cx dX6_putBlock_49 rfl 3 rfl ?_
    refine J_get cx inC6 0 rfl rfl 6 (by decide) T108 rfl rfl dX6_putBlock_50 ?_
    refine J_icmp_ge (tgt := 77) cx dX6_putBlock_53 (by decide) (by omega) (by omega) (fun h_53 => ?_) (fun h_53 => ?_)
    · skip
      have hyy : y = pblkB f ch bl (n / ch) (mahead mf ch i) i (ff i) (kk i) x := by rw [hy, show j = bsize ch bl (n / ch) i by omega]; unfold pblkB; rw [if_neg h_18]
      subst hyy
      exact J_vret cx hr dX6_putBlock_77 (⟨_, _, rfl, rfl⟩)
    · skip
      have hm1 := zsum_mono (r := (fun j => rst f ch (ff i) (bfirst ch bl i + j * ch) (mahead mf ch i))) (k := kk i) (j := j + 1) (m := bsize ch bl (n / ch) i) (by omega) (by omega) (fun j _ => (ediv_p2 (hrr j).1).1)
      rw [zsum_s (by omega)] at hm1
      have hm9 : (j + 1) * (1 + kk i) ≤ (bsize ch bl (n / ch) i) * (1 + kk i) := Int.mul_le_mul_of_nonneg_right (by omega) (by omega)
      rw [Int.add_mul] at hm9
      have hrj := hrr j
      have hnb : nbits (kk i) (rst f ch (ff i) (bfirst ch bl i + j * ch) (mahead mf ch i)) = rst f ch (ff i) (bfirst ch bl i + j * ch) (mahead mf ch i) / p2 (kk i) + 1 + kk i := rfl
      have hpp : 0 ≤ j * (1 + kk i) := Int.mul_nonneg (by omega) (by omega)
      have hz5 := (zsum_rng (r := (fun j => rst f ch (ff i) (bfirst ch bl i + j * ch) (mahead mf ch i))) (k := kk i) (B := 600000) (m := j) (by omega) (fun j _ _ => by have h5 := hrr j; have h6 := ediv_p2 (k := kk i) h5.1; omega)).1
      try dsimp only at hm1
      refine J_aload_n cx dX6_putBlock_56 rfl 3 rfl ?_
      refine J_get cx inC6 0 rfl rfl 2 (by decide) T101 rfl rfl dX6_putBlock_57 ?_
      refine J_iload_n cx dX6_putBlock_60 rfl 1 rfl ?_
      refine J_aload_n cx dX6_putBlock_61 rfl 3 rfl ?_
      refine J_get cx inC6 0 rfl rfl 5 (by decide) T107 rfl rfl dX6_putBlock_62 ?_
      refine J_iload cx dX6_putBlock_65 0 rfl ?_
      refine J_iald cx 7 rfl (by omega) (by decide) dX6_putBlock_67 ?_
      refine J_top (b := (rst f ch (ff i) (bfirst ch bl i + j * ch) (mahead mf ch i))) (rests_at ⟨by omega, by omega⟩) ?_
      refine J_callV (C := RX1) (T := TX1) (N := 3) cx (As := [.int (iI (kk i)), .int (iI (rst f ch (ff i) (bfirst ch bl i + j * ch) (mahead mf ch i)))]) (rest := []) (mX1_putNumber l X gb gr ga o y (kk i) (rst f ch (ff i) (bfirst ch bl i + j * ch) (mahead mf ch i)) (by omega) (by omega) (by omega)) T266 T263 T264 T265 T5 ⟨rfl, hd_X1_putNumber⟩ rfl ⟨Nat.le_of_ble_eq_true rfl, Nat.le_of_ble_eq_true rfl⟩ (Nat.le_of_ble_eq_true rfl) ⟨Nat.le_of_ble_eq_true rfl, Nat.le_of_ble_eq_true rfl⟩ [8, 9, 10] [0, 1, 2, 3, 4, 5, 6, 7] rfl rfl rfl rfl rfl (by decide) 8 rfl rfl dX6_putBlock_68 rfl (J_f (ws' := [(h, .inr (6, [.ref hs, .ref hm2, .ref gb, .ref af, .ref ak, .ref ar, .int (iI (bsize ch bl (n / ch) i)), .int (iI bc)])), (hs, .inr (4, [.ref as_, .int (iI ch), .int (iI bl), .int (iI n)])), (as_, .inl (X.2.1, 800, .inl (aI f))), (hm2, .inr (3, [.ref am])), (am, .inl (X.2.1, 800, .inl (aI mf))), (af, .inl (X.2.1, 800, .inl (aI ff))), (ak, .inl (X.2.1, 800, .inl (aI kk))), (ar, .inl (X.2.1, 64, .inl (aI (rests rs f ch (ff i) (bfirst ch bl i) (mahead mf ch i) (bsize ch bl (n / ch) i))))), (gb, .inr (1, [.ref gr, .int (iI (pk (pnum (kk i) (rst f ch (ff i) (bfirst ch bl i + j * ch) (mahead mf ch i)) y).1 (8 * ((pnum (kk i) (rst f ch (ff i) (bfirst ch bl i + j * ch) (mahead mf ch i)) y).2 / 8)) ((pnum (kk i) (rst f ch (ff i) (bfirst ch bl i + j * ch) (mahead mf ch i)) y).2 % 8))), .int (iI ((pnum (kk i) (rst f ch (ff i) (bfirst ch bl i + j * ch) (mahead mf ch i)) y).2 % 8))])), (gr, .inr (2, [.ref ga, .int (iI ((pnum (kk i) (rst f ch (ff i) (bfirst ch bl i + j * ch) (mahead mf ch i)) y).2 / 8))])), (ga, .inl (X.2.2, 3000, .inl (aI (rowOf o (pnum (kk i) (rst f ch (ff i) (bfirst ch bl i + j * ch) (mahead mf ch i)) y).1 (pnum (kk i) (rst f ch (ff i) (bfirst ch bl i + j * ch) (mahead mf ch i)) y).2))))]) (st' := []) [0, 1, 2, 3, 4, 5, 6, 7, 8, 9, 10] rfl rfl rfl rfl ?_)
      refine J_iinc (q := 0) (lv' := [(4, .int (iI (j + 1))), (3, .int (iI (kk i))), (2, .int (iI (ff i))), (0, .ref h), (1, .int (iI i))]) cx dX6_putBlock_71 rfl (by decide) rfl ?_
      refine J_goto (tgt := 47) cx dX6_putBlock_74 (by decide) ?_
      exact ih_47 (j + 1) (pnum (kk i) (rst f ch (ff i) (bfirst ch bl i + j * ch) (mahead mf ch i)) y) ⟨(by omega), (by rw [prest_s (by omega), hy]), (by rw [pnum_n (by omega) (by omega), zsum_s (by omega), Int.add_mul]; omega)⟩ (by omega)
  · skip
    refine J_ws (ws' := [(h, .inr (6, [.ref hs, .ref hm2, .ref gb, .ref af, .ref ak, .ref ar, .int (iI rc), .int (iI bc)])), (hs, .inr (4, [.ref as_, .int (iI ch), .int (iI bl), .int (iI n)])), (as_, .inl (X.2.1, 800, .inl (aI f))), (hm2, .inr (3, [.ref am])), (am, .inl (X.2.1, 800, .inl (aI mf))), (af, .inl (X.2.1, 800, .inl (aI ff))), (ak, .inl (X.2.1, 800, .inl (aI kk))), (ar, .inl (X.2.1, 64, .inl (aI rs))), (gb, .inr (1, [.ref gr, .int (iI (pk (pblkB f ch bl (n / ch) (mahead mf ch i) i (ff i) (kk i) x).1 (8 * ((pblkB f ch bl (n / ch) (mahead mf ch i) i (ff i) (kk i) x).2 / 8)) ((pblkB f ch bl (n / ch) (mahead mf ch i) i (ff i) (kk i) x).2 % 8))), .int (iI ((pblkB f ch bl (n / ch) (mahead mf ch i) i (ff i) (kk i) x).2 % 8))])), (gr, .inr (2, [.ref ga, .int (iI ((pblkB f ch bl (n / ch) (mahead mf ch i) i (ff i) (kk i) x).2 / 8))])), (ga, .inl (X.2.2, 3000, .inl (aI (rowOf o (pblkB f ch bl (n / ch) (mahead mf ch i) i (ff i) (kk i) x).1 (pblkB f ch bl (n / ch) (mahead mf ch i) i (ff i) (kk i) x).2))))]) (by rw [show pnum 2 (ff i) x = pblkB f ch bl (n / ch) (mahead mf ch i) i (ff i) (kk i) x from (by unfold pblkB; rw [if_pos h_18])]) ?_
    exact J_vret cx hr dX6_putBlock_21 (⟨rs, rc, rfl, rfl⟩)
end
section
set_option maxHeartbeats 4000000 in
set_option maxRecDepth 100000 in
theorem mX6_compose (l : Launch) (X : GX) (h : Nat) (hs : Nat) (hm2 : Nat) (gb : Nat) (af : Nat) (ak : Nat) (ar : Nat) (rc : Int) (bc : Int) (as_ : Nat) (f : Int → Int) (ch : Int) (bl : Int) (n : Int) (am : Nat) (mf : Int → Int) (rs : Int → Int) (ff : Int → Int) (kk : Int → Int) (gr : Nat) (ga : Nat) (o : Int → Int) (pe : Int) (pb : Int) (bn : Int) (ht : Nat) (at_ : Nat) (tf : Int → Int) (tch : Int) (tbl : Int) (tn : Int) (w : Int → Int) (hc : 1 ≤ tch ∧ tch ≤ 2) (hb : 1 ≤ tbl ∧ tbl ≤ 64) (hn : 0 ≤ tn ∧ tn ≤ 400 * tch) (hf : ∀ j, -32768 ≤ f j ∧ f j ≤ 32767) (htf : ∀ j, -32768 ≤ tf j ∧ tf j ≤ 32767) (hm : ∀ j, -32768 ≤ mf j ∧ mf j ≤ 32767) : Ct l yX6_compose cX6_compose 3 none 5 119 0 0 X [.ref h, .ref ht] [(h, .inr (6, [.ref hs, .ref hm2, .ref gb, .ref af, .ref ak, .ref ar, .int (iI rc), .int (iI bc)])), (hs, .inr (4, [.ref as_, .int (iI ch), .int (iI bl), .int (iI n)])), (as_, .inl (X.2.1, 800, .inl (aI f))), (hm2, .inr (3, [.ref am])), (am, .inl (X.2.1, 800, .inl (aI mf))), (af, .inl (X.2.1, 800, .inl (aI ff))), (ak, .inl (X.2.1, 800, .inl (aI kk))), (ar, .inl (X.2.1, 64, .inl (aI rs))), (gb, .inr (1, [.ref gr, .int (iI pe), .int (iI pb)])), (gr, .inr (2, [.ref ga, .int (iI bn)])), (ga, .inl (X.2.2, 3000, .inl (aI o))), (ht, .inr (4, [.ref at_, .int (iI tch), .int (iI tbl), .int (iI tn)])), (at_, .inl (X.2.1, 800, .inl (aI tf)))] (fun v u => ∃ (r' : Int → Int) (rc' : Int), v = none ∧ u = [(h, .inr (6, [.ref hs, .ref hm2, .ref gb, .ref af, .ref ak, .ref ar, .int (iI rc'), .int (iI (nblk tch tbl ((tn / tch * tch) / tch)))])), (hs, .inr (4, [.ref as_, .int (iI tch), .int (iI tbl), .int (iI (tn / tch * tch))])), (as_, .inl (X.2.1, 800, .inl (aI (cpyI tf f (tn / tch * tch))))), (hm2, .inr (3, [.ref am])), (am, .inl (X.2.1, 800, .inl (aI (ovr (bmean (cpyI tf f (tn / tch * tch)) tch tbl ((tn / tch * tch) / tch)) mf (nblk tch tbl ((tn / tch * tch) / tch)))))), (af, .inl (X.2.1, 800, .inl (aI (ovr (cF (cpyI tf f (tn / tch * tch)) tch tbl ((tn / tch * tch) / tch)) ff (nblk tch tbl ((tn / tch * tch) / tch)))))), (ak, .inl (X.2.1, 800, .inl (aI (ovr (cK (cpyI tf f (tn / tch * tch)) tch tbl ((tn / tch * tch) / tch)) kk (nblk tch tbl ((tn / tch * tch) / tch)))))), (ar, .inl (X.2.1, 64, .inl (aI r'))), (gb, .inr (1, [.ref gr, .int (iI (pk (pwrite (cpyI tf f (tn / tch * tch)) tch tbl ((tn / tch * tch) / tch) w).1 (8 * ((pwrite (cpyI tf f (tn / tch * tch)) tch tbl ((tn / tch * tch) / tch) w).2 / 8)) ((pwrite (cpyI tf f (tn / tch * tch)) tch tbl ((tn / tch * tch) / tch) w).2 % 8))), .int (iI ((pwrite (cpyI tf f (tn / tch * tch)) tch tbl ((tn / tch * tch) / tch) w).2 % 8))])), (gr, .inr (2, [.ref ga, .int (iI ((pwrite (cpyI tf f (tn / tch * tch)) tch tbl ((tn / tch * tch) / tch) w).2 / 8))])), (ga, .inl (X.2.2, 3000, .inl (aI (rowOf o (pwrite (cpyI tf f (tn / tch * tch)) tch tbl ((tn / tch * tch) / tch) w).1 (pwrite (cpyI tf f (tn / tch * tch)) tch tbl ((tn / tch * tch) / tch) w).2)))), (ht, .inr (4, [.ref at_, .int (iI tch), .int (iI tbl), .int (iI tn)])), (at_, .inl (X.2.1, 800, .inl (aI tf)))]) := by
  refine Ct_of (own := RX6) (lv := [(0, .ref h), (1, .ref ht)]) (by decide +kernel) rfl (Nat.le_of_ble_eq_true rfl) rfl ?_
  intro p e s m args below meth c A cx hr hin
  have hd1 := half_rng (n := tn) (ch := tch) hc (by omega)
  have hma : (tn / tch * tch) / tch = tn / tch := Int.mul_ediv_cancel _ (by omega)
  have hm4 : 0 ≤ (tn / tch * tch) / tch ∧ (tn / tch * tch) / tch ≤ 400 ∧ ((tn / tch * tch) / tch) * tch ≤ 800 := by rw [hma]; rcases (show tch = 1 ∨ tch = 2 by omega) with e1 | e1 <;> subst e1 <;> omega
  have hF0 : ∀ j, -32768 ≤ (cpyI tf f (tn / tch * tch)) j ∧ (cpyI tf f (tn / tch * tch)) j ≤ 32767 := fun j => by unfold cpyI; split; (exact htf j); (exact hf j)
  have hnb := nblk_rng (ch := tch) (bl := tbl) (many := (tn / tch * tch) / tch) hc hb.1 (by omega)
  have hph := phead_n (ch := tch) (bl := tbl) (many := (tn / tch * tch) / tch) hc hb (by omega) w
  have ep0 : (plow 83 (8 : Int).toNat (w, 0)).2 = 8 := by rw [plow_nI (by decide)]; rfl
  have ep1 : (plow 66 (8 : Int).toNat (plow 83 (8 : Int).toNat (w, 0))).2 = 16 := by rw [plow_nI (by decide), ep0]; rfl
  have eq2 : nbits 2 tch = tch / 4 + 1 + 2 := rfl
  have eq4 : nbits 4 tbl = tbl / 16 + 1 + 4 := rfl
  have eq6 : nbits 6 ((tn / tch * tch) / tch) = ((tn / tch * tch) / tch) / 64 + 1 + 6 := rfl
  have ep2 : (pnum 2 tch (plow 66 (8 : Int).toNat (plow 83 (8 : Int).toNat (w, 0)))).2 = 16 + nbits 2 tch := by rw [pnum_n (by decide) (by omega), ep1]
  have ep3 : (pnum 4 tbl (pnum 2 tch (plow 66 (8 : Int).toNat (plow 83 (8 : Int).toNat (w, 0))))).2 = 16 + nbits 2 tch + nbits 4 tbl := by rw [pnum_n (by decide) (by omega), ep2]
  refine J_aload_n cx dX6_compose_0 rfl 0 rfl ?_
  refine J_get cx inC6 0 rfl rfl 0 (by decide) T98 rfl rfl dX6_compose_1 ?_
  refine J_aload_n cx dX6_compose_4 rfl 1 rfl ?_
  refine J_callV (C := RX4) (T := TX4) (N := 4) cx (As := [.ref ht]) (rest := []) (mX4_copyWhole l X hs as_ f ch bl n ht at_ tf tch tbl tn (by omega) (by omega)) T223 T220 T221 T222 T2 ⟨rfl, hd_X4_copyWhole⟩ rfl ⟨Nat.le_of_ble_eq_true rfl, Nat.le_of_ble_eq_true rfl⟩ (Nat.le_of_ble_eq_true rfl) ⟨Nat.le_of_ble_eq_true rfl, Nat.le_of_ble_eq_true rfl⟩ [1, 2, 11, 12] [0, 3, 4, 5, 6, 7, 8, 9, 10] rfl rfl rfl rfl rfl (by decide) 1 rfl rfl dX6_compose_5 rfl (J_f (ws' := [(h, .inr (6, [.ref hs, .ref hm2, .ref gb, .ref af, .ref ak, .ref ar, .int (iI rc), .int (iI bc)])), (hs, .inr (4, [.ref as_, .int (iI tch), .int (iI tbl), .int (iI (tn / tch * tch))])), (as_, .inl (X.2.1, 800, .inl (aI (cpyI tf f (tn / tch * tch))))), (hm2, .inr (3, [.ref am])), (am, .inl (X.2.1, 800, .inl (aI mf))), (af, .inl (X.2.1, 800, .inl (aI ff))), (ak, .inl (X.2.1, 800, .inl (aI kk))), (ar, .inl (X.2.1, 64, .inl (aI rs))), (gb, .inr (1, [.ref gr, .int (iI pe), .int (iI pb)])), (gr, .inr (2, [.ref ga, .int (iI bn)])), (ga, .inl (X.2.2, 3000, .inl (aI o))), (ht, .inr (4, [.ref at_, .int (iI tch), .int (iI tbl), .int (iI tn)])), (at_, .inl (X.2.1, 800, .inl (aI tf)))]) (st' := []) [0, 9, 10, 1, 2, 3, 4, 5, 6, 7, 8, 11, 12] rfl rfl rfl rfl ?_)
  refine J_aload_n cx dX6_compose_8 rfl 0 rfl ?_
  refine J_aload_n cx dX6_compose_9 rfl 0 rfl ?_
  refine J_get cx inC6 0 rfl rfl 0 (by decide) T98 rfl rfl dX6_compose_10 ?_
  refine J_callV (C := RX4) (T := TX4) (N := 4) cx (As := []) (rest := [.ref h]) (mX4_blockCount l X hs as_ (cpyI tf f (tn / tch * tch)) tch tbl (tn / tch * tch) (by omega) (by omega) (by omega)) T239 T236 T237 T238 T2 ⟨rfl, hd_X4_blockCount⟩ rfl ⟨Nat.le_of_ble_eq_true rfl, Nat.le_of_ble_eq_true rfl⟩ (Nat.le_of_ble_eq_true rfl) ⟨Nat.le_of_ble_eq_true rfl, Nat.le_of_ble_eq_true rfl⟩ [1, 2] [0, 3, 4, 5, 6, 7, 8, 9, 10, 11, 12] rfl rfl rfl rfl rfl (by decide) 1 rfl rfl dX6_compose_13 rfl (J_f (ws' := [(h, .inr (6, [.ref hs, .ref hm2, .ref gb, .ref af, .ref ak, .ref ar, .int (iI rc), .int (iI bc)])), (hs, .inr (4, [.ref as_, .int (iI tch), .int (iI tbl), .int (iI (tn / tch * tch))])), (as_, .inl (X.2.1, 800, .inl (aI (cpyI tf f (tn / tch * tch))))), (hm2, .inr (3, [.ref am])), (am, .inl (X.2.1, 800, .inl (aI mf))), (af, .inl (X.2.1, 800, .inl (aI ff))), (ak, .inl (X.2.1, 800, .inl (aI kk))), (ar, .inl (X.2.1, 64, .inl (aI rs))), (gb, .inr (1, [.ref gr, .int (iI pe), .int (iI pb)])), (gr, .inr (2, [.ref ga, .int (iI bn)])), (ga, .inl (X.2.2, 3000, .inl (aI o))), (ht, .inr (4, [.ref at_, .int (iI tch), .int (iI tbl), .int (iI tn)])), (at_, .inl (X.2.1, 800, .inl (aI tf)))]) (st' := [.int (iI (nblk tch tbl ((tn / tch * tch) / tch))), .ref h]) [0, 11, 12, 1, 2, 3, 4, 5, 6, 7, 8, 9, 10] rfl rfl rfl rfl ?_)
  refine J_sipush cx dX6_compose_16 (by decide) ?_
  refine J_callS cx (As := [.int (iI (nblk tch tbl ((tn / tch * tch) / tch))), .int (iI 800)]) (rest := [.ref h]) (mJ9_min_7cf53 l X (nblk tch tbl ((tn / tch * tch) / tch)) 800 (by omega) (by omega)) T242 T240 T241 T11 hd_J9_min_7cf53 rfl ⟨Nat.le_of_ble_eq_true rfl, Nat.le_of_ble_eq_true rfl⟩ (Nat.le_of_ble_eq_true rfl) ⟨Nat.le_of_ble_eq_true rfl, Nat.le_of_ble_eq_true rfl⟩ [] [0, 1, 2, 3, 4, 5, 6, 7, 8, 9, 10, 11, 12] rfl rfl rfl rfl rfl (by decide) dX6_compose_19 rfl (J_f (ws' := [(h, .inr (6, [.ref hs, .ref hm2, .ref gb, .ref af, .ref ak, .ref ar, .int (iI rc), .int (iI bc)])), (hs, .inr (4, [.ref as_, .int (iI tch), .int (iI tbl), .int (iI (tn / tch * tch))])), (as_, .inl (X.2.1, 800, .inl (aI (cpyI tf f (tn / tch * tch))))), (hm2, .inr (3, [.ref am])), (am, .inl (X.2.1, 800, .inl (aI mf))), (af, .inl (X.2.1, 800, .inl (aI ff))), (ak, .inl (X.2.1, 800, .inl (aI kk))), (ar, .inl (X.2.1, 64, .inl (aI rs))), (gb, .inr (1, [.ref gr, .int (iI pe), .int (iI pb)])), (gr, .inr (2, [.ref ga, .int (iI bn)])), (ga, .inl (X.2.2, 3000, .inl (aI o))), (ht, .inr (4, [.ref at_, .int (iI tch), .int (iI tbl), .int (iI tn)])), (at_, .inl (X.2.1, 800, .inl (aI tf)))]) (st' := [.int (iI (mnI (nblk tch tbl ((tn / tch * tch) / tch)) 800)), .ref h]) [0, 1, 2, 3, 4, 5, 6, 7, 8, 9, 10, 11, 12] rfl rfl rfl rfl ?_)
  refine J_top (b := (nblk tch tbl ((tn / tch * tch) / tch))) (by unfold mnI; rw [if_neg (by omega)]) ?_
  refine J_put (ty := .int) (ws' := [(h, .inr (6, [.ref hs, .ref hm2, .ref gb, .ref af, .ref ak, .ref ar, .int (iI rc), .int (iI (nblk tch tbl ((tn / tch * tch) / tch)))])), (hs, .inr (4, [.ref as_, .int (iI tch), .int (iI tbl), .int (iI (tn / tch * tch))])), (as_, .inl (X.2.1, 800, .inl (aI (cpyI tf f (tn / tch * tch))))), (hm2, .inr (3, [.ref am])), (am, .inl (X.2.1, 800, .inl (aI mf))), (af, .inl (X.2.1, 800, .inl (aI ff))), (ak, .inl (X.2.1, 800, .inl (aI kk))), (ar, .inl (X.2.1, 64, .inl (aI rs))), (gb, .inr (1, [.ref gr, .int (iI pe), .int (iI pb)])), (gr, .inr (2, [.ref ga, .int (iI bn)])), (ga, .inl (X.2.2, 3000, .inl (aI o))), (ht, .inr (4, [.ref at_, .int (iI tch), .int (iI tbl), .int (iI tn)])), (at_, .inl (X.2.1, 800, .inl (aI tf)))]) cx inC6 tyX6_ok nmX6 0 rfl rfl 7 (by decide) T109 rfl rfl (by decide +kernel) (rfl) (rfl) (Nat.le_of_ble_eq_true rfl) rfl dX6_compose_22 ?_
  refine J_aload_n cx dX6_compose_25 rfl 0 rfl ?_
  refine J_get cx inC6 0 rfl rfl 2 (by decide) T101 rfl rfl dX6_compose_26 ?_
  refine J_callV (C := RX1) (T := TX1) (N := 3) cx (As := []) (rest := []) (mX1_restart l X gb gr ga o pe pb bn w ) T246 T243 T244 T245 T5 ⟨rfl, hd_X1_restart⟩ rfl ⟨Nat.le_of_ble_eq_true rfl, Nat.le_of_ble_eq_true rfl⟩ (Nat.le_of_ble_eq_true rfl) ⟨Nat.le_of_ble_eq_true rfl, Nat.le_of_ble_eq_true rfl⟩ [8, 9, 10] [0, 1, 2, 3, 4, 5, 6, 7, 11, 12] rfl rfl rfl rfl rfl (by decide) 8 rfl rfl dX6_compose_29 rfl (J_f (ws' := [(h, .inr (6, [.ref hs, .ref hm2, .ref gb, .ref af, .ref ak, .ref ar, .int (iI rc), .int (iI (nblk tch tbl ((tn / tch * tch) / tch)))])), (hs, .inr (4, [.ref as_, .int (iI tch), .int (iI tbl), .int (iI (tn / tch * tch))])), (as_, .inl (X.2.1, 800, .inl (aI (cpyI tf f (tn / tch * tch))))), (hm2, .inr (3, [.ref am])), (am, .inl (X.2.1, 800, .inl (aI mf))), (af, .inl (X.2.1, 800, .inl (aI ff))), (ak, .inl (X.2.1, 800, .inl (aI kk))), (ar, .inl (X.2.1, 64, .inl (aI rs))), (gb, .inr (1, [.ref gr, .int (iI (pk (w, 0).1 (8 * ((w, 0).2 / 8)) ((w, 0).2 % 8))), .int (iI ((w, 0).2 % 8))])), (gr, .inr (2, [.ref ga, .int (iI ((w, 0).2 / 8))])), (ga, .inl (X.2.2, 3000, .inl (aI (rowOf o (w, 0).1 (w, 0).2)))), (ht, .inr (4, [.ref at_, .int (iI tch), .int (iI tbl), .int (iI tn)])), (at_, .inl (X.2.1, 800, .inl (aI tf)))]) (st' := []) [0, 1, 2, 3, 4, 5, 6, 7, 10, 11, 12, 8, 9] rfl rfl rfl rfl ?_)
  refine J_aload_n cx dX6_compose_32 rfl 0 rfl ?_
  refine J_get cx inC6 0 rfl rfl 2 (by decide) T101 rfl rfl dX6_compose_33 ?_
  refine J_bipush cx dX6_compose_36 (by decide) ?_
  refine J_bipush cx dX6_compose_38 (by decide) ?_
  refine J_callV (C := RX1) (T := TX1) (N := 3) cx (As := [.int (iI 8), .int (iI 83)]) (rest := []) (mX1_putLowBits l X gb gr ga o (w, 0) 8 83 (by omega) (by omega) (by show 0 ≤ (0 : Int) ∧ (0 : Int) + 8 ≤ 24000; decide)) T254 T251 T252 T253 T5 ⟨rfl, hd_X1_putLowBits⟩ rfl ⟨Nat.le_of_ble_eq_true rfl, Nat.le_of_ble_eq_true rfl⟩ (Nat.le_of_ble_eq_true rfl) ⟨Nat.le_of_ble_eq_true rfl, Nat.le_of_ble_eq_true rfl⟩ [8, 9, 10] [0, 1, 2, 3, 4, 5, 6, 7, 11, 12] rfl rfl rfl rfl rfl (by decide) 8 rfl rfl dX6_compose_40 rfl (J_f (ws' := [(h, .inr (6, [.ref hs, .ref hm2, .ref gb, .ref af, .ref ak, .ref ar, .int (iI rc), .int (iI (nblk tch tbl ((tn / tch * tch) / tch)))])), (hs, .inr (4, [.ref as_, .int (iI tch), .int (iI tbl), .int (iI (tn / tch * tch))])), (as_, .inl (X.2.1, 800, .inl (aI (cpyI tf f (tn / tch * tch))))), (hm2, .inr (3, [.ref am])), (am, .inl (X.2.1, 800, .inl (aI mf))), (af, .inl (X.2.1, 800, .inl (aI ff))), (ak, .inl (X.2.1, 800, .inl (aI kk))), (ar, .inl (X.2.1, 64, .inl (aI rs))), (gb, .inr (1, [.ref gr, .int (iI (pk (plow 83 (8 : Int).toNat (w, 0)).1 (8 * ((plow 83 (8 : Int).toNat (w, 0)).2 / 8)) ((plow 83 (8 : Int).toNat (w, 0)).2 % 8))), .int (iI ((plow 83 (8 : Int).toNat (w, 0)).2 % 8))])), (gr, .inr (2, [.ref ga, .int (iI ((plow 83 (8 : Int).toNat (w, 0)).2 / 8))])), (ga, .inl (X.2.2, 3000, .inl (aI (rowOf o (plow 83 (8 : Int).toNat (w, 0)).1 (plow 83 (8 : Int).toNat (w, 0)).2)))), (ht, .inr (4, [.ref at_, .int (iI tch), .int (iI tbl), .int (iI tn)])), (at_, .inl (X.2.1, 800, .inl (aI tf)))]) (st' := []) [0, 1, 2, 3, 4, 5, 6, 7, 10, 11, 12, 8, 9] rfl rfl rfl rfl ?_)
  refine J_aload_n cx dX6_compose_43 rfl 0 rfl ?_
  refine J_get cx inC6 0 rfl rfl 2 (by decide) T101 rfl rfl dX6_compose_44 ?_
  refine J_bipush cx dX6_compose_47 (by decide) ?_
  refine J_bipush cx dX6_compose_49 (by decide) ?_
  refine J_callV (C := RX1) (T := TX1) (N := 3) cx (As := [.int (iI 8), .int (iI 66)]) (rest := []) (mX1_putLowBits l X gb gr ga o (plow 83 (8 : Int).toNat (w, 0)) 8 66 (by omega) (by omega) (by omega)) T254 T251 T252 T253 T5 ⟨rfl, hd_X1_putLowBits⟩ rfl ⟨Nat.le_of_ble_eq_true rfl, Nat.le_of_ble_eq_true rfl⟩ (Nat.le_of_ble_eq_true rfl) ⟨Nat.le_of_ble_eq_true rfl, Nat.le_of_ble_eq_true rfl⟩ [8, 9, 10] [0, 1, 2, 3, 4, 5, 6, 7, 11, 12] rfl rfl rfl rfl rfl (by decide) 8 rfl rfl dX6_compose_51 rfl (J_f (ws' := [(h, .inr (6, [.ref hs, .ref hm2, .ref gb, .ref af, .ref ak, .ref ar, .int (iI rc), .int (iI (nblk tch tbl ((tn / tch * tch) / tch)))])), (hs, .inr (4, [.ref as_, .int (iI tch), .int (iI tbl), .int (iI (tn / tch * tch))])), (as_, .inl (X.2.1, 800, .inl (aI (cpyI tf f (tn / tch * tch))))), (hm2, .inr (3, [.ref am])), (am, .inl (X.2.1, 800, .inl (aI mf))), (af, .inl (X.2.1, 800, .inl (aI ff))), (ak, .inl (X.2.1, 800, .inl (aI kk))), (ar, .inl (X.2.1, 64, .inl (aI rs))), (gb, .inr (1, [.ref gr, .int (iI (pk (plow 66 (8 : Int).toNat (plow 83 (8 : Int).toNat (w, 0))).1 (8 * ((plow 66 (8 : Int).toNat (plow 83 (8 : Int).toNat (w, 0))).2 / 8)) ((plow 66 (8 : Int).toNat (plow 83 (8 : Int).toNat (w, 0))).2 % 8))), .int (iI ((plow 66 (8 : Int).toNat (plow 83 (8 : Int).toNat (w, 0))).2 % 8))])), (gr, .inr (2, [.ref ga, .int (iI ((plow 66 (8 : Int).toNat (plow 83 (8 : Int).toNat (w, 0))).2 / 8))])), (ga, .inl (X.2.2, 3000, .inl (aI (rowOf o (plow 66 (8 : Int).toNat (plow 83 (8 : Int).toNat (w, 0))).1 (plow 66 (8 : Int).toNat (plow 83 (8 : Int).toNat (w, 0))).2)))), (ht, .inr (4, [.ref at_, .int (iI tch), .int (iI tbl), .int (iI tn)])), (at_, .inl (X.2.1, 800, .inl (aI tf)))]) (st' := []) [0, 1, 2, 3, 4, 5, 6, 7, 10, 11, 12, 8, 9] rfl rfl rfl rfl ?_)
  refine J_aload_n cx dX6_compose_54 rfl 0 rfl ?_
  refine J_get cx inC6 0 rfl rfl 2 (by decide) T101 rfl rfl dX6_compose_55 ?_
  refine J_iconst cx dX6_compose_58 ?_
  refine J_aload_n cx dX6_compose_59 rfl 0 rfl ?_
  refine J_get cx inC6 0 rfl rfl 0 (by decide) T98 rfl rfl dX6_compose_60 ?_
  refine J_getN cx inC4 1 rfl rfl 1 (by decide) T28 rfl rfl dX6_compose_63 ?_
  refine J_callV (C := RX1) (T := TX1) (N := 3) cx (As := [.int (iI 2), .int (iI tch)]) (rest := []) (mX1_putNumber l X gb gr ga o (plow 66 (8 : Int).toNat (plow 83 (8 : Int).toNat (w, 0))) 2 tch (by omega) (by omega) (by omega)) T266 T263 T264 T265 T5 ⟨rfl, hd_X1_putNumber⟩ rfl ⟨Nat.le_of_ble_eq_true rfl, Nat.le_of_ble_eq_true rfl⟩ (Nat.le_of_ble_eq_true rfl) ⟨Nat.le_of_ble_eq_true rfl, Nat.le_of_ble_eq_true rfl⟩ [8, 9, 10] [0, 1, 2, 3, 4, 5, 6, 7, 11, 12] rfl rfl rfl rfl rfl (by decide) 8 rfl rfl dX6_compose_66 rfl (J_f (ws' := [(h, .inr (6, [.ref hs, .ref hm2, .ref gb, .ref af, .ref ak, .ref ar, .int (iI rc), .int (iI (nblk tch tbl ((tn / tch * tch) / tch)))])), (hs, .inr (4, [.ref as_, .int (iI tch), .int (iI tbl), .int (iI (tn / tch * tch))])), (as_, .inl (X.2.1, 800, .inl (aI (cpyI tf f (tn / tch * tch))))), (hm2, .inr (3, [.ref am])), (am, .inl (X.2.1, 800, .inl (aI mf))), (af, .inl (X.2.1, 800, .inl (aI ff))), (ak, .inl (X.2.1, 800, .inl (aI kk))), (ar, .inl (X.2.1, 64, .inl (aI rs))), (gb, .inr (1, [.ref gr, .int (iI (pk (pnum 2 tch (plow 66 (8 : Int).toNat (plow 83 (8 : Int).toNat (w, 0)))).1 (8 * ((pnum 2 tch (plow 66 (8 : Int).toNat (plow 83 (8 : Int).toNat (w, 0)))).2 / 8)) ((pnum 2 tch (plow 66 (8 : Int).toNat (plow 83 (8 : Int).toNat (w, 0)))).2 % 8))), .int (iI ((pnum 2 tch (plow 66 (8 : Int).toNat (plow 83 (8 : Int).toNat (w, 0)))).2 % 8))])), (gr, .inr (2, [.ref ga, .int (iI ((pnum 2 tch (plow 66 (8 : Int).toNat (plow 83 (8 : Int).toNat (w, 0)))).2 / 8))])), (ga, .inl (X.2.2, 3000, .inl (aI (rowOf o (pnum 2 tch (plow 66 (8 : Int).toNat (plow 83 (8 : Int).toNat (w, 0)))).1 (pnum 2 tch (plow 66 (8 : Int).toNat (plow 83 (8 : Int).toNat (w, 0)))).2)))), (ht, .inr (4, [.ref at_, .int (iI tch), .int (iI tbl), .int (iI tn)])), (at_, .inl (X.2.1, 800, .inl (aI tf)))]) (st' := []) [0, 1, 2, 3, 4, 5, 6, 7, 10, 11, 12, 8, 9] rfl rfl rfl rfl ?_)
  refine J_aload_n cx dX6_compose_69 rfl 0 rfl ?_
  refine J_get cx inC6 0 rfl rfl 2 (by decide) T101 rfl rfl dX6_compose_70 ?_
  refine J_iconst cx dX6_compose_73 ?_
  refine J_aload_n cx dX6_compose_74 rfl 0 rfl ?_
  refine J_get cx inC6 0 rfl rfl 0 (by decide) T98 rfl rfl dX6_compose_75 ?_
  refine J_getN cx inC4 1 rfl rfl 2 (by decide) T33 rfl rfl dX6_compose_78 ?_
  refine J_callV (C := RX1) (T := TX1) (N := 3) cx (As := [.int (iI 4), .int (iI tbl)]) (rest := []) (mX1_putNumber l X gb gr ga o (pnum 2 tch (plow 66 (8 : Int).toNat (plow 83 (8 : Int).toNat (w, 0)))) 4 tbl (by omega) (by omega) (by omega)) T266 T263 T264 T265 T5 ⟨rfl, hd_X1_putNumber⟩ rfl ⟨Nat.le_of_ble_eq_true rfl, Nat.le_of_ble_eq_true rfl⟩ (Nat.le_of_ble_eq_true rfl) ⟨Nat.le_of_ble_eq_true rfl, Nat.le_of_ble_eq_true rfl⟩ [8, 9, 10] [0, 1, 2, 3, 4, 5, 6, 7, 11, 12] rfl rfl rfl rfl rfl (by decide) 8 rfl rfl dX6_compose_81 rfl (J_f (ws' := [(h, .inr (6, [.ref hs, .ref hm2, .ref gb, .ref af, .ref ak, .ref ar, .int (iI rc), .int (iI (nblk tch tbl ((tn / tch * tch) / tch)))])), (hs, .inr (4, [.ref as_, .int (iI tch), .int (iI tbl), .int (iI (tn / tch * tch))])), (as_, .inl (X.2.1, 800, .inl (aI (cpyI tf f (tn / tch * tch))))), (hm2, .inr (3, [.ref am])), (am, .inl (X.2.1, 800, .inl (aI mf))), (af, .inl (X.2.1, 800, .inl (aI ff))), (ak, .inl (X.2.1, 800, .inl (aI kk))), (ar, .inl (X.2.1, 64, .inl (aI rs))), (gb, .inr (1, [.ref gr, .int (iI (pk (pnum 4 tbl (pnum 2 tch (plow 66 (8 : Int).toNat (plow 83 (8 : Int).toNat (w, 0))))).1 (8 * ((pnum 4 tbl (pnum 2 tch (plow 66 (8 : Int).toNat (plow 83 (8 : Int).toNat (w, 0))))).2 / 8)) ((pnum 4 tbl (pnum 2 tch (plow 66 (8 : Int).toNat (plow 83 (8 : Int).toNat (w, 0))))).2 % 8))), .int (iI ((pnum 4 tbl (pnum 2 tch (plow 66 (8 : Int).toNat (plow 83 (8 : Int).toNat (w, 0))))).2 % 8))])), (gr, .inr (2, [.ref ga, .int (iI ((pnum 4 tbl (pnum 2 tch (plow 66 (8 : Int).toNat (plow 83 (8 : Int).toNat (w, 0))))).2 / 8))])), (ga, .inl (X.2.2, 3000, .inl (aI (rowOf o (pnum 4 tbl (pnum 2 tch (plow 66 (8 : Int).toNat (plow 83 (8 : Int).toNat (w, 0))))).1 (pnum 4 tbl (pnum 2 tch (plow 66 (8 : Int).toNat (plow 83 (8 : Int).toNat (w, 0))))).2)))), (ht, .inr (4, [.ref at_, .int (iI tch), .int (iI tbl), .int (iI tn)])), (at_, .inl (X.2.1, 800, .inl (aI tf)))]) (st' := []) [0, 1, 2, 3, 4, 5, 6, 7, 10, 11, 12, 8, 9] rfl rfl rfl rfl ?_)
  refine J_aload_n cx dX6_compose_84 rfl 0 rfl ?_
  refine J_get cx inC6 0 rfl rfl 2 (by decide) T101 rfl rfl dX6_compose_85 ?_
  refine J_bipush cx dX6_compose_88 (by decide) ?_
  refine J_aload_n cx dX6_compose_90 rfl 0 rfl ?_
  refine J_get cx inC6 0 rfl rfl 0 (by decide) T98 rfl rfl dX6_compose_91 ?_
  refine J_callV (C := RX4) (T := TX4) (N := 4) cx (As := []) (rest := [.int (iI 6), .ref gb]) (mX4_each l X hs as_ (cpyI tf f (tn / tch * tch)) tch tbl (tn / tch * tch) (by omega) (by omega)) T232 T268 T230 T231 T2 ⟨rfl, hd_X4_each⟩ rfl ⟨Nat.le_of_ble_eq_true rfl, Nat.le_of_ble_eq_true rfl⟩ (Nat.le_of_ble_eq_true rfl) ⟨Nat.le_of_ble_eq_true rfl, Nat.le_of_ble_eq_true rfl⟩ [1, 2] [0, 3, 4, 5, 6, 7, 8, 9, 10, 11, 12] rfl rfl rfl rfl rfl (by decide) 1 rfl rfl dX6_compose_94 rfl (J_f (ws' := [(h, .inr (6, [.ref hs, .ref hm2, .ref gb, .ref af, .ref ak, .ref ar, .int (iI rc), .int (iI (nblk tch tbl ((tn / tch * tch) / tch)))])), (hs, .inr (4, [.ref as_, .int (iI tch), .int (iI tbl), .int (iI (tn / tch * tch))])), (as_, .inl (X.2.1, 800, .inl (aI (cpyI tf f (tn / tch * tch))))), (hm2, .inr (3, [.ref am])), (am, .inl (X.2.1, 800, .inl (aI mf))), (af, .inl (X.2.1, 800, .inl (aI ff))), (ak, .inl (X.2.1, 800, .inl (aI kk))), (ar, .inl (X.2.1, 64, .inl (aI rs))), (gb, .inr (1, [.ref gr, .int (iI (pk (pnum 4 tbl (pnum 2 tch (plow 66 (8 : Int).toNat (plow 83 (8 : Int).toNat (w, 0))))).1 (8 * ((pnum 4 tbl (pnum 2 tch (plow 66 (8 : Int).toNat (plow 83 (8 : Int).toNat (w, 0))))).2 / 8)) ((pnum 4 tbl (pnum 2 tch (plow 66 (8 : Int).toNat (plow 83 (8 : Int).toNat (w, 0))))).2 % 8))), .int (iI ((pnum 4 tbl (pnum 2 tch (plow 66 (8 : Int).toNat (plow 83 (8 : Int).toNat (w, 0))))).2 % 8))])), (gr, .inr (2, [.ref ga, .int (iI ((pnum 4 tbl (pnum 2 tch (plow 66 (8 : Int).toNat (plow 83 (8 : Int).toNat (w, 0))))).2 / 8))])), (ga, .inl (X.2.2, 3000, .inl (aI (rowOf o (pnum 4 tbl (pnum 2 tch (plow 66 (8 : Int).toNat (plow 83 (8 : Int).toNat (w, 0))))).1 (pnum 4 tbl (pnum 2 tch (plow 66 (8 : Int).toNat (plow 83 (8 : Int).toNat (w, 0))))).2)))), (ht, .inr (4, [.ref at_, .int (iI tch), .int (iI tbl), .int (iI tn)])), (at_, .inl (X.2.1, 800, .inl (aI tf)))]) (st' := [.int (iI ((tn / tch * tch) / tch)), .int (iI 6), .ref gb]) [0, 11, 12, 1, 2, 3, 4, 5, 6, 7, 8, 9, 10] rfl rfl rfl rfl ?_)
  refine J_callV (C := RX1) (T := TX1) (N := 3) cx (As := [.int (iI 6), .int (iI ((tn / tch * tch) / tch))]) (rest := []) (mX1_putNumber l X gb gr ga o (pnum 4 tbl (pnum 2 tch (plow 66 (8 : Int).toNat (plow 83 (8 : Int).toNat (w, 0))))) 6 ((tn / tch * tch) / tch) (by omega) (by omega) (by omega)) T266 T263 T264 T265 T5 ⟨rfl, hd_X1_putNumber⟩ rfl ⟨Nat.le_of_ble_eq_true rfl, Nat.le_of_ble_eq_true rfl⟩ (Nat.le_of_ble_eq_true rfl) ⟨Nat.le_of_ble_eq_true rfl, Nat.le_of_ble_eq_true rfl⟩ [8, 9, 10] [0, 1, 2, 3, 4, 5, 6, 7, 11, 12] rfl rfl rfl rfl rfl (by decide) 8 rfl rfl dX6_compose_97 rfl (J_f (ws' := [(h, .inr (6, [.ref hs, .ref hm2, .ref gb, .ref af, .ref ak, .ref ar, .int (iI rc), .int (iI (nblk tch tbl ((tn / tch * tch) / tch)))])), (hs, .inr (4, [.ref as_, .int (iI tch), .int (iI tbl), .int (iI (tn / tch * tch))])), (as_, .inl (X.2.1, 800, .inl (aI (cpyI tf f (tn / tch * tch))))), (hm2, .inr (3, [.ref am])), (am, .inl (X.2.1, 800, .inl (aI mf))), (af, .inl (X.2.1, 800, .inl (aI ff))), (ak, .inl (X.2.1, 800, .inl (aI kk))), (ar, .inl (X.2.1, 64, .inl (aI rs))), (gb, .inr (1, [.ref gr, .int (iI (pk (pnum 6 ((tn / tch * tch) / tch) (pnum 4 tbl (pnum 2 tch (plow 66 (8 : Int).toNat (plow 83 (8 : Int).toNat (w, 0)))))).1 (8 * ((pnum 6 ((tn / tch * tch) / tch) (pnum 4 tbl (pnum 2 tch (plow 66 (8 : Int).toNat (plow 83 (8 : Int).toNat (w, 0)))))).2 / 8)) ((pnum 6 ((tn / tch * tch) / tch) (pnum 4 tbl (pnum 2 tch (plow 66 (8 : Int).toNat (plow 83 (8 : Int).toNat (w, 0)))))).2 % 8))), .int (iI ((pnum 6 ((tn / tch * tch) / tch) (pnum 4 tbl (pnum 2 tch (plow 66 (8 : Int).toNat (plow 83 (8 : Int).toNat (w, 0)))))).2 % 8))])), (gr, .inr (2, [.ref ga, .int (iI ((pnum 6 ((tn / tch * tch) / tch) (pnum 4 tbl (pnum 2 tch (plow 66 (8 : Int).toNat (plow 83 (8 : Int).toNat (w, 0)))))).2 / 8))])), (ga, .inl (X.2.2, 3000, .inl (aI (rowOf o (pnum 6 ((tn / tch * tch) / tch) (pnum 4 tbl (pnum 2 tch (plow 66 (8 : Int).toNat (plow 83 (8 : Int).toNat (w, 0)))))).1 (pnum 6 ((tn / tch * tch) / tch) (pnum 4 tbl (pnum 2 tch (plow 66 (8 : Int).toNat (plow 83 (8 : Int).toNat (w, 0)))))).2)))), (ht, .inr (4, [.ref at_, .int (iI tch), .int (iI tbl), .int (iI tn)])), (at_, .inl (X.2.1, 800, .inl (aI tf)))]) (st' := []) [0, 1, 2, 3, 4, 5, 6, 7, 10, 11, 12, 8, 9] rfl rfl rfl rfl ?_)
  refine J_iconst cx dX6_compose_100 ?_
  refine J_istore_n (lv' := [(2, .int (iI 0)), (0, .ref h), (1, .ref ht)]) cx dX6_compose_101 rfl (by decide) rfl ?_
  refine J_loop7 (fun (i : Int) (mf2 : Int → Int) (ff2 : Int → Int) (kk2 : Int → Int) (r2 : Int → Int) (rc2 : Int) (y : BB) => [(h, .inr (6, [.ref hs, .ref hm2, .ref gb, .ref af, .ref ak, .ref ar, .int (iI rc2), .int (iI (nblk tch tbl ((tn / tch * tch) / tch)))])), (hs, .inr (4, [.ref as_, .int (iI tch), .int (iI tbl), .int (iI (tn / tch * tch))])), (as_, .inl (X.2.1, 800, .inl (aI (cpyI tf f (tn / tch * tch))))), (hm2, .inr (3, [.ref am])), (am, .inl (X.2.1, 800, .inl (aI mf2))), (af, .inl (X.2.1, 800, .inl (aI ff2))), (ak, .inl (X.2.1, 800, .inl (aI kk2))), (ar, .inl (X.2.1, 64, .inl (aI r2))), (gb, .inr (1, [.ref gr, .int (iI (pk y.1 (8 * (y.2 / 8)) (y.2 % 8))), .int (iI (y.2 % 8))])), (gr, .inr (2, [.ref ga, .int (iI (y.2 / 8))])), (ga, .inl (X.2.2, 3000, .inl (aI (rowOf o y.1 y.2)))), (ht, .inr (4, [.ref at_, .int (iI tch), .int (iI tbl), .int (iI tn)])), (at_, .inl (X.2.1, 800, .inl (aI tf)))]) (fun (i : Int) (mf2 : Int → Int) (ff2 : Int → Int) (kk2 : Int → Int) (r2 : Int → Int) (rc2 : Int) (y : BB) => [(2, .int (iI i)), (0, .ref h), (1, .ref ht)]) (fun (i : Int) (mf2 : Int → Int) (ff2 : Int → Int) (kk2 : Int → Int) (r2 : Int → Int) (rc2 : Int) (y : BB) => (0 ≤ i ∧ i ≤ nblk tch tbl ((tn / tch * tch) / tch)) ∧ (mf2 = ovr (bmean (cpyI tf f (tn / tch * tch)) tch tbl ((tn / tch * tch) / tch)) mf i) ∧ (ff2 = ovr (cF (cpyI tf f (tn / tch * tch)) tch tbl ((tn / tch * tch) / tch)) ff i) ∧ (kk2 = ovr (cK (cpyI tf f (tn / tch * tch)) tch tbl ((tn / tch * tch) / tch)) kk i) ∧ (y = pallN (cpyI tf f (tn / tch * tch)) tch tbl ((tn / tch * tch) / tch) i.toNat (phead tch tbl ((tn / tch * tch) / tch) w)) ∧ (0 ≤ y.2 ∧ y.2 ≤ 41 + 27 * ssN tch tbl ((tn / tch * tch) / tch) i.toNat) ∧ (0 ≤ ssN tch tbl ((tn / tch * tch) / tch) i.toNat ∧ ssN tch tbl ((tn / tch * tch) / tch) i.toNat ≤ 800)) (fun (i : Int) (mf2 : Int → Int) (ff2 : Int → Int) (kk2 : Int → Int) (r2 : Int → Int) (rc2 : Int) (y : BB) => (nblk tch tbl ((tn / tch * tch) / tch) - i).toNat) 0 mf ff kk rs rc (pnum 6 ((tn / tch * tch) / tch) (pnum 4 tbl (pnum 2 tch (plow 66 (8 : Int).toNat (plow 83 (8 : Int).toNat (w, 0)))))) ⟨(by omega), ((ovr_0 _ _).symm), ((ovr_0 _ _).symm), ((ovr_0 _ _).symm), (rfl), (by show 0 ≤ (phead tch tbl ((tn / tch * tch) / tch) w).2 ∧ (phead tch tbl ((tn / tch * tch) / tch) w).2 ≤ 41 + 27 * 0; omega), (by show 0 ≤ (0 : Int) ∧ (0 : Int) ≤ 800; decide)⟩ ?_
  intro i mf2 ff2 kk2 r2 rc2 y hI ih_102
  obtain ⟨hi, hmf, hff, hkk, hy, hyn, hss⟩ := hI
  try dsimp only at hi hmf hff hkk hy hyn hss
  refine J_iload_n cx dX6_compose_102 rfl 0 rfl ?_
  refine J_aload_n cx dX6_compose_103 rfl 1 rfl ?_
  refine J_get cx inC6 0 rfl rfl 7 (by decide) T109 rfl rfl dX6_compose_104 ?_
  refine J_icmp_ge (tgt := 138) cx dX6_compose_107 (by decide) (by omega) (by omega) (fun h_107 => ?_) (fun h_107 => ?_)
  · skip
    have hiN : i = nblk tch tbl ((tn / tch * tch) / tch) := by omega
    subst hiN
    subst hmf
    subst hff
    subst hkk
    subst hy
    have e26 : (pnum 2 5 (pallN (cpyI tf f (tn / tch * tch)) tch tbl ((tn / tch * tch) / tch) (nblk tch tbl ((tn / tch * tch) / tch)).toNat (phead tch tbl ((tn / tch * tch) / tch) w))).2 = (pallN (cpyI tf f (tn / tch * tch)) tch tbl ((tn / tch * tch) / tch) (nblk tch tbl ((tn / tch * tch) / tch)).toNat (phead tch tbl ((tn / tch * tch) / tch) w)).2 + 4 := by rw [pnum_n (by decide) (by decide)]; rfl
    have e25 : nbits 2 5 = 4 := rfl
    refine J_aload_n cx dX6_compose_138 rfl 1 rfl ?_
    refine J_get cx inC6 0 rfl rfl 2 (by decide) T101 rfl rfl dX6_compose_139 ?_
    refine J_iconst cx dX6_compose_142 ?_
    refine J_iconst cx dX6_compose_143 ?_
    refine J_callV (C := RX1) (T := TX1) (N := 3) cx (As := [.int (iI 2), .int (iI 5)]) (rest := []) (mX1_putNumber l X gb gr ga o (pallN (cpyI tf f (tn / tch * tch)) tch tbl ((tn / tch * tch) / tch) (nblk tch tbl ((tn / tch * tch) / tch)).toNat (phead tch tbl ((tn / tch * tch) / tch) w)) 2 5 (by omega) (by omega) (by omega)) T266 T263 T264 T265 T5 ⟨rfl, hd_X1_putNumber⟩ rfl ⟨Nat.le_of_ble_eq_true rfl, Nat.le_of_ble_eq_true rfl⟩ (Nat.le_of_ble_eq_true rfl) ⟨Nat.le_of_ble_eq_true rfl, Nat.le_of_ble_eq_true rfl⟩ [8, 9, 10] [0, 1, 2, 3, 4, 5, 6, 7, 11, 12] rfl rfl rfl rfl rfl (by decide) 8 rfl rfl dX6_compose_144 rfl (J_f (ws' := [(h, .inr (6, [.ref hs, .ref hm2, .ref gb, .ref af, .ref ak, .ref ar, .int (iI rc2), .int (iI (nblk tch tbl ((tn / tch * tch) / tch)))])), (hs, .inr (4, [.ref as_, .int (iI tch), .int (iI tbl), .int (iI (tn / tch * tch))])), (as_, .inl (X.2.1, 800, .inl (aI (cpyI tf f (tn / tch * tch))))), (hm2, .inr (3, [.ref am])), (am, .inl (X.2.1, 800, .inl (aI (ovr (bmean (cpyI tf f (tn / tch * tch)) tch tbl ((tn / tch * tch) / tch)) mf (nblk tch tbl ((tn / tch * tch) / tch)))))), (af, .inl (X.2.1, 800, .inl (aI (ovr (cF (cpyI tf f (tn / tch * tch)) tch tbl ((tn / tch * tch) / tch)) ff (nblk tch tbl ((tn / tch * tch) / tch)))))), (ak, .inl (X.2.1, 800, .inl (aI (ovr (cK (cpyI tf f (tn / tch * tch)) tch tbl ((tn / tch * tch) / tch)) kk (nblk tch tbl ((tn / tch * tch) / tch)))))), (ar, .inl (X.2.1, 64, .inl (aI r2))), (gb, .inr (1, [.ref gr, .int (iI (pk (pnum 2 5 (pallN (cpyI tf f (tn / tch * tch)) tch tbl ((tn / tch * tch) / tch) (nblk tch tbl ((tn / tch * tch) / tch)).toNat (phead tch tbl ((tn / tch * tch) / tch) w))).1 (8 * ((pnum 2 5 (pallN (cpyI tf f (tn / tch * tch)) tch tbl ((tn / tch * tch) / tch) (nblk tch tbl ((tn / tch * tch) / tch)).toNat (phead tch tbl ((tn / tch * tch) / tch) w))).2 / 8)) ((pnum 2 5 (pallN (cpyI tf f (tn / tch * tch)) tch tbl ((tn / tch * tch) / tch) (nblk tch tbl ((tn / tch * tch) / tch)).toNat (phead tch tbl ((tn / tch * tch) / tch) w))).2 % 8))), .int (iI ((pnum 2 5 (pallN (cpyI tf f (tn / tch * tch)) tch tbl ((tn / tch * tch) / tch) (nblk tch tbl ((tn / tch * tch) / tch)).toNat (phead tch tbl ((tn / tch * tch) / tch) w))).2 % 8))])), (gr, .inr (2, [.ref ga, .int (iI ((pnum 2 5 (pallN (cpyI tf f (tn / tch * tch)) tch tbl ((tn / tch * tch) / tch) (nblk tch tbl ((tn / tch * tch) / tch)).toNat (phead tch tbl ((tn / tch * tch) / tch) w))).2 / 8))])), (ga, .inl (X.2.2, 3000, .inl (aI (rowOf o (pnum 2 5 (pallN (cpyI tf f (tn / tch * tch)) tch tbl ((tn / tch * tch) / tch) (nblk tch tbl ((tn / tch * tch) / tch)).toNat (phead tch tbl ((tn / tch * tch) / tch) w))).1 (pnum 2 5 (pallN (cpyI tf f (tn / tch * tch)) tch tbl ((tn / tch * tch) / tch) (nblk tch tbl ((tn / tch * tch) / tch)).toNat (phead tch tbl ((tn / tch * tch) / tch) w))).2)))), (ht, .inr (4, [.ref at_, .int (iI tch), .int (iI tbl), .int (iI tn)])), (at_, .inl (X.2.1, 800, .inl (aI tf)))]) (st' := []) [0, 1, 2, 3, 4, 5, 6, 7, 10, 11, 12, 8, 9] rfl rfl rfl rfl ?_)
    refine J_aload_n cx dX6_compose_147 rfl 1 rfl ?_
    refine J_get cx inC6 0 rfl rfl 2 (by decide) T101 rfl rfl dX6_compose_148 ?_
    refine J_callV (C := RX1) (T := TX1) (N := 3) cx (As := []) (rest := []) (mX1_fillByte l X gb gr ga o (pnum 2 5 (pallN (cpyI tf f (tn / tch * tch)) tch tbl ((tn / tch * tch) / tch) (nblk tch tbl ((tn / tch * tch) / tch)).toNat (phead tch tbl ((tn / tch * tch) / tch) w))) (by omega)) T342 T339 T340 T341 T5 ⟨rfl, hd_X1_fillByte⟩ rfl ⟨Nat.le_of_ble_eq_true rfl, Nat.le_of_ble_eq_true rfl⟩ (Nat.le_of_ble_eq_true rfl) ⟨Nat.le_of_ble_eq_true rfl, Nat.le_of_ble_eq_true rfl⟩ [8, 9, 10] [0, 1, 2, 3, 4, 5, 6, 7, 11, 12] rfl rfl rfl rfl rfl (by decide) 8 rfl rfl dX6_compose_151 rfl (J_f (ws' := [(h, .inr (6, [.ref hs, .ref hm2, .ref gb, .ref af, .ref ak, .ref ar, .int (iI rc2), .int (iI (nblk tch tbl ((tn / tch * tch) / tch)))])), (hs, .inr (4, [.ref as_, .int (iI tch), .int (iI tbl), .int (iI (tn / tch * tch))])), (as_, .inl (X.2.1, 800, .inl (aI (cpyI tf f (tn / tch * tch))))), (hm2, .inr (3, [.ref am])), (am, .inl (X.2.1, 800, .inl (aI (ovr (bmean (cpyI tf f (tn / tch * tch)) tch tbl ((tn / tch * tch) / tch)) mf (nblk tch tbl ((tn / tch * tch) / tch)))))), (af, .inl (X.2.1, 800, .inl (aI (ovr (cF (cpyI tf f (tn / tch * tch)) tch tbl ((tn / tch * tch) / tch)) ff (nblk tch tbl ((tn / tch * tch) / tch)))))), (ak, .inl (X.2.1, 800, .inl (aI (ovr (cK (cpyI tf f (tn / tch * tch)) tch tbl ((tn / tch * tch) / tch)) kk (nblk tch tbl ((tn / tch * tch) / tch)))))), (ar, .inl (X.2.1, 64, .inl (aI r2))), (gb, .inr (1, [.ref gr, .int (iI (pk (pzer ((8 - (pnum 2 5 (pallN (cpyI tf f (tn / tch * tch)) tch tbl ((tn / tch * tch) / tch) (nblk tch tbl ((tn / tch * tch) / tch)).toNat (phead tch tbl ((tn / tch * tch) / tch) w))).2 % 8) % 8).toNat (pnum 2 5 (pallN (cpyI tf f (tn / tch * tch)) tch tbl ((tn / tch * tch) / tch) (nblk tch tbl ((tn / tch * tch) / tch)).toNat (phead tch tbl ((tn / tch * tch) / tch) w)))).1 (8 * ((pzer ((8 - (pnum 2 5 (pallN (cpyI tf f (tn / tch * tch)) tch tbl ((tn / tch * tch) / tch) (nblk tch tbl ((tn / tch * tch) / tch)).toNat (phead tch tbl ((tn / tch * tch) / tch) w))).2 % 8) % 8).toNat (pnum 2 5 (pallN (cpyI tf f (tn / tch * tch)) tch tbl ((tn / tch * tch) / tch) (nblk tch tbl ((tn / tch * tch) / tch)).toNat (phead tch tbl ((tn / tch * tch) / tch) w)))).2 / 8)) ((pzer ((8 - (pnum 2 5 (pallN (cpyI tf f (tn / tch * tch)) tch tbl ((tn / tch * tch) / tch) (nblk tch tbl ((tn / tch * tch) / tch)).toNat (phead tch tbl ((tn / tch * tch) / tch) w))).2 % 8) % 8).toNat (pnum 2 5 (pallN (cpyI tf f (tn / tch * tch)) tch tbl ((tn / tch * tch) / tch) (nblk tch tbl ((tn / tch * tch) / tch)).toNat (phead tch tbl ((tn / tch * tch) / tch) w)))).2 % 8))), .int (iI ((pzer ((8 - (pnum 2 5 (pallN (cpyI tf f (tn / tch * tch)) tch tbl ((tn / tch * tch) / tch) (nblk tch tbl ((tn / tch * tch) / tch)).toNat (phead tch tbl ((tn / tch * tch) / tch) w))).2 % 8) % 8).toNat (pnum 2 5 (pallN (cpyI tf f (tn / tch * tch)) tch tbl ((tn / tch * tch) / tch) (nblk tch tbl ((tn / tch * tch) / tch)).toNat (phead tch tbl ((tn / tch * tch) / tch) w)))).2 % 8))])), (gr, .inr (2, [.ref ga, .int (iI ((pzer ((8 - (pnum 2 5 (pallN (cpyI tf f (tn / tch * tch)) tch tbl ((tn / tch * tch) / tch) (nblk tch tbl ((tn / tch * tch) / tch)).toNat (phead tch tbl ((tn / tch * tch) / tch) w))).2 % 8) % 8).toNat (pnum 2 5 (pallN (cpyI tf f (tn / tch * tch)) tch tbl ((tn / tch * tch) / tch) (nblk tch tbl ((tn / tch * tch) / tch)).toNat (phead tch tbl ((tn / tch * tch) / tch) w)))).2 / 8))])), (ga, .inl (X.2.2, 3000, .inl (aI (rowOf o (pzer ((8 - (pnum 2 5 (pallN (cpyI tf f (tn / tch * tch)) tch tbl ((tn / tch * tch) / tch) (nblk tch tbl ((tn / tch * tch) / tch)).toNat (phead tch tbl ((tn / tch * tch) / tch) w))).2 % 8) % 8).toNat (pnum 2 5 (pallN (cpyI tf f (tn / tch * tch)) tch tbl ((tn / tch * tch) / tch) (nblk tch tbl ((tn / tch * tch) / tch)).toNat (phead tch tbl ((tn / tch * tch) / tch) w)))).1 (pzer ((8 - (pnum 2 5 (pallN (cpyI tf f (tn / tch * tch)) tch tbl ((tn / tch * tch) / tch) (nblk tch tbl ((tn / tch * tch) / tch)).toNat (phead tch tbl ((tn / tch * tch) / tch) w))).2 % 8) % 8).toNat (pnum 2 5 (pallN (cpyI tf f (tn / tch * tch)) tch tbl ((tn / tch * tch) / tch) (nblk tch tbl ((tn / tch * tch) / tch)).toNat (phead tch tbl ((tn / tch * tch) / tch) w)))).2)))), (ht, .inr (4, [.ref at_, .int (iI tch), .int (iI tbl), .int (iI tn)])), (at_, .inl (X.2.1, 800, .inl (aI tf)))]) (st' := []) [0, 1, 2, 3, 4, 5, 6, 7, 10, 11, 12, 8, 9] rfl rfl rfl rfl ?_)
    exact J_vret cx hr dX6_compose_154 (⟨_, _, rfl, rfl⟩)
  · skip
    have hv := nblk_in (ch := tch) (bl := tbl) (many := (tn / tch * tch) / tch) hc hb.1 (by omega) hi.1 (by omega)
    have hbs := bsize_rng (i := i) (ch := tch) (bl := tbl) (many := (tn / tch * tch) / tch) hb hv.2
    have hsl := ss_le (ch := tch) (bl := tbl) (many := (tn / tch * tch) / tch) hc hb.1 hi.1 hv.2 hv.1
    have hmr2 : ∀ j, -32768 ≤ ovr (bmean (cpyI tf f (tn / tch * tch)) tch tbl ((tn / tch * tch) / tch)) mf (i + 1) j ∧ ovr (bmean (cpyI tf f (tn / tch * tch)) tch tbl ((tn / tch * tch) / tch)) mf (i + 1) j ≤ 32767 := ovr_rng (fun j h5 h6 => bmean_rng hF0 (bsize_rng hb (nblk_in hc hb.1 (by omega) h5 (by omega)).2).1) hm
    have emu : mahead (ovr (bmean (cpyI tf f (tn / tch * tch)) tch tbl ((tn / tch * tch) / tch)) mf (i + 1)) tch i = muOf (cpyI tf f (tn / tch * tch)) tch tbl ((tn / tch * tch) / tch) i := mahead_cg hc.1 (fun j h5 h6 => ovr_in ⟨h5, by omega⟩)
    have hmu2 : -32768 ≤ muOf (cpyI tf f (tn / tch * tch)) tch tbl ((tn / tch * tch) / tch) i ∧ muOf (cpyI tf f (tn / tch * tch)) tch tbl ((tn / tch * tch) / tch) i ≤ 32767 := by rw [← emu]; exact mahead_rng hmr2 tch i
    have hcb := cB_le hF0 hmu2 hbs
    refine J_aload_n cx dX6_compose_110 rfl 1 rfl ?_
    refine J_get cx inC6 0 rfl rfl 1 (by decide) T100 rfl rfl dX6_compose_111 ?_
    refine J_iload_n cx dX6_compose_114 rfl 0 rfl ?_
    refine J_aload_n cx dX6_compose_115 rfl 1 rfl ?_
    refine J_get cx inC6 0 rfl rfl 0 (by decide) T98 rfl rfl dX6_compose_116 ?_
    refine J_callV (C := RX3) (T := TX3) (N := 1) cx (As := [.int (iI i), .ref hs]) (rest := []) (mX3_settle l X hm2 am mf2 hs as_ (cpyI tf f (tn / tch * tch)) tch tbl (tn / tch * tch) i (by omega) (by omega) (by omega) (by omega) (by omega) (hF0)) T272 T269 T270 T271 T4 ⟨rfl, hd_X3_settle⟩ rfl ⟨Nat.le_of_ble_eq_true rfl, Nat.le_of_ble_eq_true rfl⟩ (Nat.le_of_ble_eq_true rfl) ⟨Nat.le_of_ble_eq_true rfl, Nat.le_of_ble_eq_true rfl⟩ [3, 4, 1, 2] [0, 5, 6, 7, 8, 9, 10, 11, 12] rfl rfl rfl rfl rfl (by decide) 3 rfl rfl dX6_compose_119 rfl (J_f (ws' := [(h, .inr (6, [.ref hs, .ref hm2, .ref gb, .ref af, .ref ak, .ref ar, .int (iI rc2), .int (iI (nblk tch tbl ((tn / tch * tch) / tch)))])), (hs, .inr (4, [.ref as_, .int (iI tch), .int (iI tbl), .int (iI (tn / tch * tch))])), (as_, .inl (X.2.1, 800, .inl (aI (cpyI tf f (tn / tch * tch))))), (hm2, .inr (3, [.ref am])), (am, .inl (X.2.1, 800, .inl (aI (upI mf2 i (bmean (cpyI tf f (tn / tch * tch)) tch tbl ((tn / tch * tch) / tch) i))))), (af, .inl (X.2.1, 800, .inl (aI ff2))), (ak, .inl (X.2.1, 800, .inl (aI kk2))), (ar, .inl (X.2.1, 64, .inl (aI r2))), (gb, .inr (1, [.ref gr, .int (iI (pk y.1 (8 * (y.2 / 8)) (y.2 % 8))), .int (iI (y.2 % 8))])), (gr, .inr (2, [.ref ga, .int (iI (y.2 / 8))])), (ga, .inl (X.2.2, 3000, .inl (aI (rowOf o y.1 y.2)))), (ht, .inr (4, [.ref at_, .int (iI tch), .int (iI tbl), .int (iI tn)])), (at_, .inl (X.2.1, 800, .inl (aI tf)))]) (st' := []) [0, 11, 12, 9, 10, 1, 2, 3, 4, 5, 6, 7, 8] rfl rfl rfl rfl ?_)
    refine J_ws (ws' := [(h, .inr (6, [.ref hs, .ref hm2, .ref gb, .ref af, .ref ak, .ref ar, .int (iI rc2), .int (iI (nblk tch tbl ((tn / tch * tch) / tch)))])), (hs, .inr (4, [.ref as_, .int (iI tch), .int (iI tbl), .int (iI (tn / tch * tch))])), (as_, .inl (X.2.1, 800, .inl (aI (cpyI tf f (tn / tch * tch))))), (hm2, .inr (3, [.ref am])), (am, .inl (X.2.1, 800, .inl (aI (ovr (bmean (cpyI tf f (tn / tch * tch)) tch tbl ((tn / tch * tch) / tch)) mf (i + 1))))), (af, .inl (X.2.1, 800, .inl (aI ff2))), (ak, .inl (X.2.1, 800, .inl (aI kk2))), (ar, .inl (X.2.1, 64, .inl (aI r2))), (gb, .inr (1, [.ref gr, .int (iI (pk y.1 (8 * (y.2 / 8)) (y.2 % 8))), .int (iI (y.2 % 8))])), (gr, .inr (2, [.ref ga, .int (iI (y.2 / 8))])), (ga, .inl (X.2.2, 3000, .inl (aI (rowOf o y.1 y.2)))), (ht, .inr (4, [.ref at_, .int (iI tch), .int (iI tbl), .int (iI tn)])), (at_, .inl (X.2.1, 800, .inl (aI tf)))]) (by rw [show upI mf2 i (bmean (cpyI tf f (tn / tch * tch)) tch tbl ((tn / tch * tch) / tch) i) = ovr (bmean (cpyI tf f (tn / tch * tch)) tch tbl ((tn / tch * tch) / tch)) mf (i + 1) from by rw [hmf]; exact ovr_s hi.1]) ?_
    refine J_aload_n cx dX6_compose_122 rfl 1 rfl ?_
    refine J_iload_n cx dX6_compose_123 rfl 0 rfl ?_
    refine J_callV (C := RX6) (T := TX6) (N := 8) cx (As := [.int (iI i)]) (rest := []) (mX6_choose l X h hs hm2 gb af ak ar rc2 (nblk tch tbl ((tn / tch * tch) / tch)) as_ (cpyI tf f (tn / tch * tch)) tch tbl (tn / tch * tch) am (ovr (bmean (cpyI tf f (tn / tch * tch)) tch tbl ((tn / tch * tch) / tch)) mf (i + 1)) r2 ff2 kk2 i (by omega) (by omega) (by omega) (by omega) (by omega) (hF0) (hmr2)) T303 T300 T302 S0 T3 ⟨rfl, hd_X6_choose⟩ rfl ⟨Nat.le_of_ble_eq_true rfl, Nat.le_of_ble_eq_true rfl⟩ (Nat.le_of_ble_eq_true rfl) ⟨Nat.le_of_ble_eq_true rfl, Nat.le_of_ble_eq_true rfl⟩ [0, 1, 2, 3, 4, 5, 6, 7] [8, 9, 10, 11, 12] rfl rfl rfl rfl rfl (by decide) 0 rfl rfl dX6_compose_124 rfl ?_
    intro v_124 u_124 hp_124
    obtain ⟨r'_124, rfl, rfl⟩ := hp_124
    refine J_sub (ws' := [(h, .inr (6, [.ref hs, .ref hm2, .ref gb, .ref af, .ref ak, .ref ar, .int (iI (bsize tch tbl ((tn / tch * tch) / tch) i)), .int (iI (nblk tch tbl ((tn / tch * tch) / tch)))])), (hs, .inr (4, [.ref as_, .int (iI tch), .int (iI tbl), .int (iI (tn / tch * tch))])), (as_, .inl (X.2.1, 800, .inl (aI (cpyI tf f (tn / tch * tch))))), (hm2, .inr (3, [.ref am])), (am, .inl (X.2.1, 800, .inl (aI (ovr (bmean (cpyI tf f (tn / tch * tch)) tch tbl ((tn / tch * tch) / tch)) mf (i + 1))))), (af, .inl (X.2.1, 800, .inl (aI (upI ff2 i (chF (cpyI tf f (tn / tch * tch)) tch tbl ((tn / tch * tch) / tch) (mahead (ovr (bmean (cpyI tf f (tn / tch * tch)) tch tbl ((tn / tch * tch) / tch)) mf (i + 1)) tch i) i))))), (ak, .inl (X.2.1, 800, .inl (aI (upI kk2 i (chK (cpyI tf f (tn / tch * tch)) tch tbl ((tn / tch * tch) / tch) (mahead (ovr (bmean (cpyI tf f (tn / tch * tch)) tch tbl ((tn / tch * tch) / tch)) mf (i + 1)) tch i) i))))), (ar, .inl (X.2.1, 64, .inl (aI r'_124))), (gb, .inr (1, [.ref gr, .int (iI (pk y.1 (8 * (y.2 / 8)) (y.2 % 8))), .int (iI (y.2 % 8))])), (gr, .inr (2, [.ref ga, .int (iI (y.2 / 8))])), (ga, .inl (X.2.2, 3000, .inl (aI (rowOf o y.1 y.2)))), (ht, .inr (4, [.ref at_, .int (iI tch), .int (iI tbl), .int (iI tn)])), (at_, .inl (X.2.1, 800, .inl (aI tf)))]) [5, 6, 7, 8, 9, 10, 11, 12, 0, 1, 2, 3, 4] rfl rfl rfl ?_
    refine J_eq (pc' := 127) (st' := []) rfl rfl ?_
    refine J_ws (ws' := [(h, .inr (6, [.ref hs, .ref hm2, .ref gb, .ref af, .ref ak, .ref ar, .int (iI (bsize tch tbl ((tn / tch * tch) / tch) i)), .int (iI (nblk tch tbl ((tn / tch * tch) / tch)))])), (hs, .inr (4, [.ref as_, .int (iI tch), .int (iI tbl), .int (iI (tn / tch * tch))])), (as_, .inl (X.2.1, 800, .inl (aI (cpyI tf f (tn / tch * tch))))), (hm2, .inr (3, [.ref am])), (am, .inl (X.2.1, 800, .inl (aI (ovr (bmean (cpyI tf f (tn / tch * tch)) tch tbl ((tn / tch * tch) / tch)) mf (i + 1))))), (af, .inl (X.2.1, 800, .inl (aI (ovr (cF (cpyI tf f (tn / tch * tch)) tch tbl ((tn / tch * tch) / tch)) ff (i + 1))))), (ak, .inl (X.2.1, 800, .inl (aI (upI kk2 i (chK (cpyI tf f (tn / tch * tch)) tch tbl ((tn / tch * tch) / tch) (mahead (ovr (bmean (cpyI tf f (tn / tch * tch)) tch tbl ((tn / tch * tch) / tch)) mf (i + 1)) tch i) i))))), (ar, .inl (X.2.1, 64, .inl (aI r'_124))), (gb, .inr (1, [.ref gr, .int (iI (pk y.1 (8 * (y.2 / 8)) (y.2 % 8))), .int (iI (y.2 % 8))])), (gr, .inr (2, [.ref ga, .int (iI (y.2 / 8))])), (ga, .inl (X.2.2, 3000, .inl (aI (rowOf o y.1 y.2)))), (ht, .inr (4, [.ref at_, .int (iI tch), .int (iI tbl), .int (iI tn)])), (at_, .inl (X.2.1, 800, .inl (aI tf)))]) (by rw [show upI ff2 i (chF (cpyI tf f (tn / tch * tch)) tch tbl ((tn / tch * tch) / tch) (mahead (ovr (bmean (cpyI tf f (tn / tch * tch)) tch tbl ((tn / tch * tch) / tch)) mf (i + 1)) tch i) i) = ovr (cF (cpyI tf f (tn / tch * tch)) tch tbl ((tn / tch * tch) / tch)) ff (i + 1) from by rw [emu, hff]; exact ovr_s (g := cF (cpyI tf f (tn / tch * tch)) tch tbl ((tn / tch * tch) / tch)) hi.1]) ?_
    refine J_ws (ws' := [(h, .inr (6, [.ref hs, .ref hm2, .ref gb, .ref af, .ref ak, .ref ar, .int (iI (bsize tch tbl ((tn / tch * tch) / tch) i)), .int (iI (nblk tch tbl ((tn / tch * tch) / tch)))])), (hs, .inr (4, [.ref as_, .int (iI tch), .int (iI tbl), .int (iI (tn / tch * tch))])), (as_, .inl (X.2.1, 800, .inl (aI (cpyI tf f (tn / tch * tch))))), (hm2, .inr (3, [.ref am])), (am, .inl (X.2.1, 800, .inl (aI (ovr (bmean (cpyI tf f (tn / tch * tch)) tch tbl ((tn / tch * tch) / tch)) mf (i + 1))))), (af, .inl (X.2.1, 800, .inl (aI (ovr (cF (cpyI tf f (tn / tch * tch)) tch tbl ((tn / tch * tch) / tch)) ff (i + 1))))), (ak, .inl (X.2.1, 800, .inl (aI (ovr (cK (cpyI tf f (tn / tch * tch)) tch tbl ((tn / tch * tch) / tch)) kk (i + 1))))), (ar, .inl (X.2.1, 64, .inl (aI r'_124))), (gb, .inr (1, [.ref gr, .int (iI (pk y.1 (8 * (y.2 / 8)) (y.2 % 8))), .int (iI (y.2 % 8))])), (gr, .inr (2, [.ref ga, .int (iI (y.2 / 8))])), (ga, .inl (X.2.2, 3000, .inl (aI (rowOf o y.1 y.2)))), (ht, .inr (4, [.ref at_, .int (iI tch), .int (iI tbl), .int (iI tn)])), (at_, .inl (X.2.1, 800, .inl (aI tf)))]) (by rw [show upI kk2 i (chK (cpyI tf f (tn / tch * tch)) tch tbl ((tn / tch * tch) / tch) (mahead (ovr (bmean (cpyI tf f (tn / tch * tch)) tch tbl ((tn / tch * tch) / tch)) mf (i + 1)) tch i) i) = ovr (cK (cpyI tf f (tn / tch * tch)) tch tbl ((tn / tch * tch) / tch)) kk (i + 1) from by rw [emu, hkk]; exact ovr_s (g := cK (cpyI tf f (tn / tch * tch)) tch tbl ((tn / tch * tch) / tch)) hi.1]) ?_
    refine J_aload_n cx dX6_compose_127 rfl 1 rfl ?_
    refine J_iload_n cx dX6_compose_128 rfl 0 rfl ?_
    refine J_callV (C := RX6) (T := TX6) (N := 8) cx (As := [.int (iI i)]) (rest := []) (mX6_putBlock l X h hs hm2 gb af ak ar (bsize tch tbl ((tn / tch * tch) / tch) i) (nblk tch tbl ((tn / tch * tch) / tch)) as_ (cpyI tf f (tn / tch * tch)) tch tbl (tn / tch * tch) am (ovr (bmean (cpyI tf f (tn / tch * tch)) tch tbl ((tn / tch * tch) / tch)) mf (i + 1)) r'_124 (ovr (cF (cpyI tf f (tn / tch * tch)) tch tbl ((tn / tch * tch) / tch)) ff (i + 1)) (ovr (cK (cpyI tf f (tn / tch * tch)) tch tbl ((tn / tch * tch) / tch)) kk (i + 1)) i gr ga o y (by omega) (by omega) (by omega) (by omega) (by omega) (hF0) (hmr2) (by rw [ovr_in ⟨hi.1, by omega⟩, ovr_in ⟨hi.1, by omega⟩]; exact (ch_ok hF0 hmu2 hbs).imp (fun h => h.1) id) (by rw [ovr_in ⟨hi.1, by omega⟩, ovr_in ⟨hi.1, by omega⟩, emu, show (if cF (cpyI tf f (tn / tch * tch)) tch tbl ((tn / tch * tch) / tch) i = 4 then 4 else cost (cpyI tf f (tn / tch * tch)) tch tbl ((tn / tch * tch) / tch) (muOf (cpyI tf f (tn / tch * tch)) tch tbl ((tn / tch * tch) / tch) i) i (cF (cpyI tf f (tn / tch * tch)) tch tbl ((tn / tch * tch) / tch) i) (cK (cpyI tf f (tn / tch * tch)) tch tbl ((tn / tch * tch) / tch) i)) = cB (cpyI tf f (tn / tch * tch)) tch tbl ((tn / tch * tch) / tch) i from rfl]; omega)) T338 T335 T337 S4 T3 ⟨rfl, hd_X6_putBlock⟩ rfl ⟨Nat.le_of_ble_eq_true rfl, Nat.le_of_ble_eq_true rfl⟩ (Nat.le_of_ble_eq_true rfl) ⟨Nat.le_of_ble_eq_true rfl, Nat.le_of_ble_eq_true rfl⟩ [0, 1, 2, 3, 4, 5, 6, 7, 8, 9, 10] [11, 12] rfl rfl rfl rfl rfl (by decide) 0 rfl rfl dX6_compose_129 rfl ?_
    intro v_129 u_129 hp_129
    obtain ⟨r'_129, rc'_129, rfl, rfl⟩ := hp_129
    refine J_sub (ws' := [(h, .inr (6, [.ref hs, .ref hm2, .ref gb, .ref af, .ref ak, .ref ar, .int (iI rc'_129), .int (iI (nblk tch tbl ((tn / tch * tch) / tch)))])), (hs, .inr (4, [.ref as_, .int (iI tch), .int (iI tbl), .int (iI (tn / tch * tch))])), (as_, .inl (X.2.1, 800, .inl (aI (cpyI tf f (tn / tch * tch))))), (hm2, .inr (3, [.ref am])), (am, .inl (X.2.1, 800, .inl (aI (ovr (bmean (cpyI tf f (tn / tch * tch)) tch tbl ((tn / tch * tch) / tch)) mf (i + 1))))), (af, .inl (X.2.1, 800, .inl (aI (ovr (cF (cpyI tf f (tn / tch * tch)) tch tbl ((tn / tch * tch) / tch)) ff (i + 1))))), (ak, .inl (X.2.1, 800, .inl (aI (ovr (cK (cpyI tf f (tn / tch * tch)) tch tbl ((tn / tch * tch) / tch)) kk (i + 1))))), (ar, .inl (X.2.1, 64, .inl (aI r'_129))), (gb, .inr (1, [.ref gr, .int (iI (pk (pblkB (cpyI tf f (tn / tch * tch)) tch tbl ((tn / tch * tch) / tch) (mahead (ovr (bmean (cpyI tf f (tn / tch * tch)) tch tbl ((tn / tch * tch) / tch)) mf (i + 1)) tch i) i ((ovr (cF (cpyI tf f (tn / tch * tch)) tch tbl ((tn / tch * tch) / tch)) ff (i + 1)) i) ((ovr (cK (cpyI tf f (tn / tch * tch)) tch tbl ((tn / tch * tch) / tch)) kk (i + 1)) i) y).1 (8 * ((pblkB (cpyI tf f (tn / tch * tch)) tch tbl ((tn / tch * tch) / tch) (mahead (ovr (bmean (cpyI tf f (tn / tch * tch)) tch tbl ((tn / tch * tch) / tch)) mf (i + 1)) tch i) i ((ovr (cF (cpyI tf f (tn / tch * tch)) tch tbl ((tn / tch * tch) / tch)) ff (i + 1)) i) ((ovr (cK (cpyI tf f (tn / tch * tch)) tch tbl ((tn / tch * tch) / tch)) kk (i + 1)) i) y).2 / 8)) ((pblkB (cpyI tf f (tn / tch * tch)) tch tbl ((tn / tch * tch) / tch) (mahead (ovr (bmean (cpyI tf f (tn / tch * tch)) tch tbl ((tn / tch * tch) / tch)) mf (i + 1)) tch i) i ((ovr (cF (cpyI tf f (tn / tch * tch)) tch tbl ((tn / tch * tch) / tch)) ff (i + 1)) i) ((ovr (cK (cpyI tf f (tn / tch * tch)) tch tbl ((tn / tch * tch) / tch)) kk (i + 1)) i) y).2 % 8))), .int (iI ((pblkB (cpyI tf f (tn / tch * tch)) tch tbl ((tn / tch * tch) / tch) (mahead (ovr (bmean (cpyI tf f (tn / tch * tch)) tch tbl ((tn / tch * tch) / tch)) mf (i + 1)) tch i) i ((ovr (cF (cpyI tf f (tn / tch * tch)) tch tbl ((tn / tch * tch) / tch)) ff (i + 1)) i) ((ovr (cK (cpyI tf f (tn / tch * tch)) tch tbl ((tn / tch * tch) / tch)) kk (i + 1)) i) y).2 % 8))])), (gr, .inr (2, [.ref ga, .int (iI ((pblkB (cpyI tf f (tn / tch * tch)) tch tbl ((tn / tch * tch) / tch) (mahead (ovr (bmean (cpyI tf f (tn / tch * tch)) tch tbl ((tn / tch * tch) / tch)) mf (i + 1)) tch i) i ((ovr (cF (cpyI tf f (tn / tch * tch)) tch tbl ((tn / tch * tch) / tch)) ff (i + 1)) i) ((ovr (cK (cpyI tf f (tn / tch * tch)) tch tbl ((tn / tch * tch) / tch)) kk (i + 1)) i) y).2 / 8))])), (ga, .inl (X.2.2, 3000, .inl (aI (rowOf o (pblkB (cpyI tf f (tn / tch * tch)) tch tbl ((tn / tch * tch) / tch) (mahead (ovr (bmean (cpyI tf f (tn / tch * tch)) tch tbl ((tn / tch * tch) / tch)) mf (i + 1)) tch i) i ((ovr (cF (cpyI tf f (tn / tch * tch)) tch tbl ((tn / tch * tch) / tch)) ff (i + 1)) i) ((ovr (cK (cpyI tf f (tn / tch * tch)) tch tbl ((tn / tch * tch) / tch)) kk (i + 1)) i) y).1 (pblkB (cpyI tf f (tn / tch * tch)) tch tbl ((tn / tch * tch) / tch) (mahead (ovr (bmean (cpyI tf f (tn / tch * tch)) tch tbl ((tn / tch * tch) / tch)) mf (i + 1)) tch i) i ((ovr (cF (cpyI tf f (tn / tch * tch)) tch tbl ((tn / tch * tch) / tch)) ff (i + 1)) i) ((ovr (cK (cpyI tf f (tn / tch * tch)) tch tbl ((tn / tch * tch) / tch)) kk (i + 1)) i) y).2)))), (ht, .inr (4, [.ref at_, .int (iI tch), .int (iI tbl), .int (iI tn)])), (at_, .inl (X.2.1, 800, .inl (aI tf)))]) [2, 3, 4, 5, 6, 7, 8, 9, 10, 11, 12, 0, 1] rfl rfl rfl ?_
    refine J_eq (pc' := 132) (st' := []) rfl rfl ?_
    refine J_ws (ws' := [(h, .inr (6, [.ref hs, .ref hm2, .ref gb, .ref af, .ref ak, .ref ar, .int (iI rc'_129), .int (iI (nblk tch tbl ((tn / tch * tch) / tch)))])), (hs, .inr (4, [.ref as_, .int (iI tch), .int (iI tbl), .int (iI (tn / tch * tch))])), (as_, .inl (X.2.1, 800, .inl (aI (cpyI tf f (tn / tch * tch))))), (hm2, .inr (3, [.ref am])), (am, .inl (X.2.1, 800, .inl (aI (ovr (bmean (cpyI tf f (tn / tch * tch)) tch tbl ((tn / tch * tch) / tch)) mf (i + 1))))), (af, .inl (X.2.1, 800, .inl (aI (ovr (cF (cpyI tf f (tn / tch * tch)) tch tbl ((tn / tch * tch) / tch)) ff (i + 1))))), (ak, .inl (X.2.1, 800, .inl (aI (ovr (cK (cpyI tf f (tn / tch * tch)) tch tbl ((tn / tch * tch) / tch)) kk (i + 1))))), (ar, .inl (X.2.1, 64, .inl (aI r'_129))), (gb, .inr (1, [.ref gr, .int (iI (pk (pblk (cpyI tf f (tn / tch * tch)) tch tbl ((tn / tch * tch) / tch) i y).1 (8 * ((pblk (cpyI tf f (tn / tch * tch)) tch tbl ((tn / tch * tch) / tch) i y).2 / 8)) ((pblk (cpyI tf f (tn / tch * tch)) tch tbl ((tn / tch * tch) / tch) i y).2 % 8))), .int (iI ((pblk (cpyI tf f (tn / tch * tch)) tch tbl ((tn / tch * tch) / tch) i y).2 % 8))])), (gr, .inr (2, [.ref ga, .int (iI ((pblk (cpyI tf f (tn / tch * tch)) tch tbl ((tn / tch * tch) / tch) i y).2 / 8))])), (ga, .inl (X.2.2, 3000, .inl (aI (rowOf o (pblk (cpyI tf f (tn / tch * tch)) tch tbl ((tn / tch * tch) / tch) i y).1 (pblk (cpyI tf f (tn / tch * tch)) tch tbl ((tn / tch * tch) / tch) i y).2)))), (ht, .inr (4, [.ref at_, .int (iI tch), .int (iI tbl), .int (iI tn)])), (at_, .inl (X.2.1, 800, .inl (aI tf)))]) (by rw [show (pblkB (cpyI tf f (tn / tch * tch)) tch tbl ((tn / tch * tch) / tch) (mahead (ovr (bmean (cpyI tf f (tn / tch * tch)) tch tbl ((tn / tch * tch) / tch)) mf (i + 1)) tch i) i ((ovr (cF (cpyI tf f (tn / tch * tch)) tch tbl ((tn / tch * tch) / tch)) ff (i + 1)) i) ((ovr (cK (cpyI tf f (tn / tch * tch)) tch tbl ((tn / tch * tch) / tch)) kk (i + 1)) i) y) = (pblk (cpyI tf f (tn / tch * tch)) tch tbl ((tn / tch * tch) / tch) i y) from by rw [emu, ovr_in ⟨hi.1, by omega⟩, ovr_in ⟨hi.1, by omega⟩]; rfl]) ?_
    refine J_iinc (q := 0) (lv' := [(2, .int (iI (i + 1))), (0, .ref h), (1, .ref ht)]) cx dX6_compose_132 rfl (by decide) rfl ?_
    refine J_goto (tgt := 102) cx dX6_compose_135 (by decide) ?_
    exact ih_102 (i + 1) (ovr (bmean (cpyI tf f (tn / tch * tch)) tch tbl ((tn / tch * tch) / tch)) mf (i + 1)) (ovr (cF (cpyI tf f (tn / tch * tch)) tch tbl ((tn / tch * tch) / tch)) ff (i + 1)) (ovr (cK (cpyI tf f (tn / tch * tch)) tch tbl ((tn / tch * tch) / tch)) kk (i + 1)) r'_129 rc'_129 (pblk (cpyI tf f (tn / tch * tch)) tch tbl ((tn / tch * tch) / tch) i y) ⟨(by omega), (rfl), (rfl), (rfl), (by rw [hy]; exact pall_s (by omega)), (by rw [pblk_n hF0 hmu2 hbs, ss_s hi.1]; omega), (by rw [ss_s hi.1]; omega)⟩ (by omega)
end
