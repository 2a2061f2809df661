section
-- ===== PART A: goes FIRST, ahead of the names: the tables' words, and 'selects' of the private methods out of them =====
/-- a private method of a class that the tables say can be made, by its rows of tables_1 -/
def lw_okq (q : MethodName × Nat) : Prop := (q.1.cls ≠ "java/lang/invoke/MethodHandle" ∧ q.1.cls ≠ "java/lang/invoke/VarHandle") ∧ Cond.instantiable q.1.cls q.2 ∈ tables_1 ∧ Cond.privateMethod q.1 ∈ tables_1 ∧ Cond.instanceMethod q.1 ∈ tables_1
theorem lw_p0 : lw_okq (⟨"TapeMachine$Reader", "append", "(I)Z"⟩, 5) := ⟨⟨by decide +kernel, by decide +kernel⟩, List.mem_of_getElem? (i := 14) (by decide +kernel), List.mem_of_getElem? (i := 103) (by decide +kernel), List.mem_of_getElem? (i := 104) (by decide +kernel)⟩
theorem lw_p1 : lw_okq (⟨"TapeMachine$Reader", "unread", "()I"⟩, 5) := ⟨⟨by decide +kernel, by decide +kernel⟩, List.mem_of_getElem? (i := 14) (by decide +kernel), List.mem_of_getElem? (i := 111) (by decide +kernel), List.mem_of_getElem? (i := 112) (by decide +kernel)⟩
theorem lw_p2 : lw_okq (⟨"TapeMachine", "wordAt", "(I)I"⟩, 15) := ⟨⟨by decide +kernel, by decide +kernel⟩, List.mem_of_getElem? (i := 6) (by decide +kernel), List.mem_of_getElem? (i := 122) (by decide +kernel), List.mem_of_getElem? (i := 123) (by decide +kernel)⟩
theorem lw_p3 : lw_okq (⟨"TapeMachine", "putWord", "(II)V"⟩, 15) := ⟨⟨by decide +kernel, by decide +kernel⟩, List.mem_of_getElem? (i := 6) (by decide +kernel), List.mem_of_getElem? (i := 126) (by decide +kernel), List.mem_of_getElem? (i := 127) (by decide +kernel)⟩
theorem lw_p4 : lw_okq (⟨"TapeMachine", "step", "()V"⟩, 15) := ⟨⟨by decide +kernel, by decide +kernel⟩, List.mem_of_getElem? (i := 6) (by decide +kernel), List.mem_of_getElem? (i := 153) (by decide +kernel), List.mem_of_getElem? (i := 154) (by decide +kernel)⟩
theorem lw_p5 : lw_okq (⟨"TapeMachine", "interrupt", "()V"⟩, 15) := ⟨⟨by decide +kernel, by decide +kernel⟩, List.mem_of_getElem? (i := 6) (by decide +kernel), List.mem_of_getElem? (i := 157) (by decide +kernel), List.mem_of_getElem? (i := 158) (by decide +kernel)⟩
theorem lw_p6 : lw_okq (⟨"TapeMachine$Recent", "add", "(I)V"⟩, 2) := ⟨⟨by decide +kernel, by decide +kernel⟩, List.mem_of_getElem? (i := 39) (by decide +kernel), List.mem_of_getElem? (i := 161) (by decide +kernel), List.mem_of_getElem? (i := 162) (by decide +kernel)⟩
theorem lw_p7 : lw_okq (⟨"TapeMachine", "perform", "(II)V"⟩, 15) := ⟨⟨by decide +kernel, by decide +kernel⟩, List.mem_of_getElem? (i := 6) (by decide +kernel), List.mem_of_getElem? (i := 168) (by decide +kernel), List.mem_of_getElem? (i := 169) (by decide +kernel)⟩
theorem lw_p8 : lw_okq (⟨"TapeMachine", "effectiveAddress", "(II)I"⟩, 15) := ⟨⟨by decide +kernel, by decide +kernel⟩, List.mem_of_getElem? (i := 6) (by decide +kernel), List.mem_of_getElem? (i := 172) (by decide +kernel), List.mem_of_getElem? (i := 173) (by decide +kernel)⟩
theorem lw_p9 : lw_okq (⟨"TapeMachine", "performAddressed", "(II)V"⟩, 15) := ⟨⟨by decide +kernel, by decide +kernel⟩, List.mem_of_getElem? (i := 6) (by decide +kernel), List.mem_of_getElem? (i := 179) (by decide +kernel), List.mem_of_getElem? (i := 180) (by decide +kernel)⟩
theorem lw_p10 : lw_okq (⟨"TapeMachine", "add", "(I)V"⟩, 15) := ⟨⟨by decide +kernel, by decide +kernel⟩, List.mem_of_getElem? (i := 6) (by decide +kernel), List.mem_of_getElem? (i := 183) (by decide +kernel), List.mem_of_getElem? (i := 184) (by decide +kernel)⟩
theorem lw_p11 : lw_okq (⟨"TapeMachine", "skipIf", "(Z)V"⟩, 15) := ⟨⟨by decide +kernel, by decide +kernel⟩, List.mem_of_getElem? (i := 6) (by decide +kernel), List.mem_of_getElem? (i := 187) (by decide +kernel), List.mem_of_getElem? (i := 188) (by decide +kernel)⟩
theorem lw_p12 : lw_okq (⟨"TapeMachine", "performDevice", "(I)V"⟩, 15) := ⟨⟨by decide +kernel, by decide +kernel⟩, List.mem_of_getElem? (i := 6) (by decide +kernel), List.mem_of_getElem? (i := 191) (by decide +kernel), List.mem_of_getElem? (i := 192) (by decide +kernel)⟩
theorem lw_p13 : lw_okq (⟨"TapeMachine$Reader", "restart", "()V"⟩, 5) := ⟨⟨by decide +kernel, by decide +kernel⟩, List.mem_of_getElem? (i := 14) (by decide +kernel), List.mem_of_getElem? (i := 195) (by decide +kernel), List.mem_of_getElem? (i := 196) (by decide +kernel)⟩
theorem lw_p14 : lw_okq (⟨"TapeMachine", "changeAccumulator", "(I)V"⟩, 15) := ⟨⟨by decide +kernel, by decide +kernel⟩, List.mem_of_getElem? (i := 6) (by decide +kernel), List.mem_of_getElem? (i := 199) (by decide +kernel), List.mem_of_getElem? (i := 200) (by decide +kernel)⟩
theorem lw_p15 : lw_okq (⟨"TapeMachine", "turnLeft", "(I)V"⟩, 15) := ⟨⟨by decide +kernel, by decide +kernel⟩, List.mem_of_getElem? (i := 6) (by decide +kernel), List.mem_of_getElem? (i := 203) (by decide +kernel), List.mem_of_getElem? (i := 204) (by decide +kernel)⟩
def lw_privs_1 : List (MethodName × Nat) := [(⟨"TapeMachine$Reader", "append", "(I)Z"⟩, 5), (⟨"TapeMachine$Reader", "unread", "()I"⟩, 5), (⟨"TapeMachine", "wordAt", "(I)I"⟩, 15), (⟨"TapeMachine", "putWord", "(II)V"⟩, 15), (⟨"TapeMachine", "step", "()V"⟩, 15), (⟨"TapeMachine", "interrupt", "()V"⟩, 15), (⟨"TapeMachine$Recent", "add", "(I)V"⟩, 2), (⟨"TapeMachine", "perform", "(II)V"⟩, 15), (⟨"TapeMachine", "effectiveAddress", "(II)I"⟩, 15), (⟨"TapeMachine", "performAddressed", "(II)V"⟩, 15), (⟨"TapeMachine", "add", "(I)V"⟩, 15), (⟨"TapeMachine", "skipIf", "(Z)V"⟩, 15), (⟨"TapeMachine", "performDevice", "(I)V"⟩, 15), (⟨"TapeMachine$Reader", "restart", "()V"⟩, 5), (⟨"TapeMachine", "changeAccumulator", "(I)V"⟩, 15), (⟨"TapeMachine", "turnLeft", "(I)V"⟩, 15)]
theorem lw_r1 : ∀ q ∈ lw_privs_1, lw_okq q := List.forall_mem_cons.mpr ⟨lw_p0, List.forall_mem_cons.mpr ⟨lw_p1, List.forall_mem_cons.mpr ⟨lw_p2, List.forall_mem_cons.mpr ⟨lw_p3, List.forall_mem_cons.mpr ⟨lw_p4, List.forall_mem_cons.mpr ⟨lw_p5, List.forall_mem_cons.mpr ⟨lw_p6, List.forall_mem_cons.mpr ⟨lw_p7, List.forall_mem_cons.mpr ⟨lw_p8, List.forall_mem_cons.mpr ⟨lw_p9, List.forall_mem_cons.mpr ⟨lw_p10, List.forall_mem_cons.mpr ⟨lw_p11, List.forall_mem_cons.mpr ⟨lw_p12, List.forall_mem_cons.mpr ⟨lw_p13, List.forall_mem_cons.mpr ⟨lw_p14, List.forall_mem_cons.mpr ⟨lw_p15, fun _ h => absurd h List.not_mem_nil⟩⟩⟩⟩⟩⟩⟩⟩⟩⟩⟩⟩⟩⟩⟩⟩
theorem lw_p16 : lw_okq (⟨"TapeMachine", "testAccumulator", "(I)V"⟩, 15) := ⟨⟨by decide +kernel, by decide +kernel⟩, List.mem_of_getElem? (i := 6) (by decide +kernel), List.mem_of_getElem? (i := 207) (by decide +kernel), List.mem_of_getElem? (i := 208) (by decide +kernel)⟩
theorem lw_p17 : lw_okq (⟨"TapeMachine", "exchangeWithMq", "(I)V"⟩, 15) := ⟨⟨by decide +kernel, by decide +kernel⟩, List.mem_of_getElem? (i := 6) (by decide +kernel), List.mem_of_getElem? (i := 211) (by decide +kernel), List.mem_of_getElem? (i := 212) (by decide +kernel)⟩
theorem lw_p18 : lw_okq (⟨"TapeMachine$Recent", "fromLatest", "(I)I"⟩, 2) := ⟨⟨by decide +kernel, by decide +kernel⟩, List.mem_of_getElem? (i := 39) (by decide +kernel), List.mem_of_getElem? (i := 219) (by decide +kernel), List.mem_of_getElem? (i := 220) (by decide +kernel)⟩
theorem lw_p19 : lw_okq (⟨"TapeMachineModel", "step", "()V"⟩, 11) := ⟨⟨by decide +kernel, by decide +kernel⟩, List.mem_of_getElem? (i := 235) (by decide +kernel), List.mem_of_getElem? (i := 307) (by decide +kernel), List.mem_of_getElem? (i := 308) (by decide +kernel)⟩
theorem lw_p20 : lw_okq (⟨"TapeMachineModel", "place", "(II)I"⟩, 11) := ⟨⟨by decide +kernel, by decide +kernel⟩, List.mem_of_getElem? (i := 235) (by decide +kernel), List.mem_of_getElem? (i := 314) (by decide +kernel), List.mem_of_getElem? (i := 315) (by decide +kernel)⟩
theorem lw_p21 : lw_okq (⟨"TapeMachineModel", "reference", "(II)V"⟩, 11) := ⟨⟨by decide +kernel, by decide +kernel⟩, List.mem_of_getElem? (i := 235) (by decide +kernel), List.mem_of_getElem? (i := 321) (by decide +kernel), List.mem_of_getElem? (i := 322) (by decide +kernel)⟩
theorem lw_p22 : lw_okq (⟨"TapeMachineModel", "add", "(I)V"⟩, 11) := ⟨⟨by decide +kernel, by decide +kernel⟩, List.mem_of_getElem? (i := 235) (by decide +kernel), List.mem_of_getElem? (i := 325) (by decide +kernel), List.mem_of_getElem? (i := 326) (by decide +kernel)⟩
theorem lw_p23 : lw_okq (⟨"TapeMachineModel", "skip", "()V"⟩, 11) := ⟨⟨by decide +kernel, by decide +kernel⟩, List.mem_of_getElem? (i := 235) (by decide +kernel), List.mem_of_getElem? (i := 329) (by decide +kernel), List.mem_of_getElem? (i := 330) (by decide +kernel)⟩
theorem lw_p24 : lw_okq (⟨"TapeMachineModel", "device", "(I)V"⟩, 11) := ⟨⟨by decide +kernel, by decide +kernel⟩, List.mem_of_getElem? (i := 235) (by decide +kernel), List.mem_of_getElem? (i := 333) (by decide +kernel), List.mem_of_getElem? (i := 334) (by decide +kernel)⟩
theorem lw_p25 : lw_okq (⟨"TapeMachineModel", "advance", "()V"⟩, 11) := ⟨⟨by decide +kernel, by decide +kernel⟩, List.mem_of_getElem? (i := 235) (by decide +kernel), List.mem_of_getElem? (i := 337) (by decide +kernel), List.mem_of_getElem? (i := 338) (by decide +kernel)⟩
theorem lw_p26 : lw_okq (⟨"TapeMachineModel", "first", "(I)V"⟩, 11) := ⟨⟨by decide +kernel, by decide +kernel⟩, List.mem_of_getElem? (i := 235) (by decide +kernel), List.mem_of_getElem? (i := 341) (by decide +kernel), List.mem_of_getElem? (i := 342) (by decide +kernel)⟩
theorem lw_p27 : lw_okq (⟨"TapeMachineModel", "second", "(I)V"⟩, 11) := ⟨⟨by decide +kernel, by decide +kernel⟩, List.mem_of_getElem? (i := 235) (by decide +kernel), List.mem_of_getElem? (i := 345) (by decide +kernel), List.mem_of_getElem? (i := 346) (by decide +kernel)⟩
theorem lw_p28 : lw_okq (⟨"TapeMachineModel", "third", "(I)V"⟩, 11) := ⟨⟨by decide +kernel, by decide +kernel⟩, List.mem_of_getElem? (i := 235) (by decide +kernel), List.mem_of_getElem? (i := 349) (by decide +kernel), List.mem_of_getElem? (i := 350) (by decide +kernel)⟩
def lw_privs_2 : List (MethodName × Nat) := [(⟨"TapeMachine", "testAccumulator", "(I)V"⟩, 15), (⟨"TapeMachine", "exchangeWithMq", "(I)V"⟩, 15), (⟨"TapeMachine$Recent", "fromLatest", "(I)I"⟩, 2), (⟨"TapeMachineModel", "step", "()V"⟩, 11), (⟨"TapeMachineModel", "place", "(II)I"⟩, 11), (⟨"TapeMachineModel", "reference", "(II)V"⟩, 11), (⟨"TapeMachineModel", "add", "(I)V"⟩, 11), (⟨"TapeMachineModel", "skip", "()V"⟩, 11), (⟨"TapeMachineModel", "device", "(I)V"⟩, 11), (⟨"TapeMachineModel", "advance", "()V"⟩, 11), (⟨"TapeMachineModel", "first", "(I)V"⟩, 11), (⟨"TapeMachineModel", "second", "(I)V"⟩, 11), (⟨"TapeMachineModel", "third", "(I)V"⟩, 11)]
theorem lw_r2 : ∀ q ∈ lw_privs_2, lw_okq q := List.forall_mem_cons.mpr ⟨lw_p16, List.forall_mem_cons.mpr ⟨lw_p17, List.forall_mem_cons.mpr ⟨lw_p18, List.forall_mem_cons.mpr ⟨lw_p19, List.forall_mem_cons.mpr ⟨lw_p20, List.forall_mem_cons.mpr ⟨lw_p21, List.forall_mem_cons.mpr ⟨lw_p22, List.forall_mem_cons.mpr ⟨lw_p23, List.forall_mem_cons.mpr ⟨lw_p24, List.forall_mem_cons.mpr ⟨lw_p25, List.forall_mem_cons.mpr ⟨lw_p26, List.forall_mem_cons.mpr ⟨lw_p27, List.forall_mem_cons.mpr ⟨lw_p28, fun _ h => absurd h List.not_mem_nil⟩⟩⟩⟩⟩⟩⟩⟩⟩⟩⟩⟩⟩
def lw_privs : List (MethodName × Nat) := lw_privs_1 ++ (lw_privs_2)
def lw_tbl : List Cond := k2_sels lw_privs ++ tables_1
theorem lw_privs_ok : ∀ q ∈ lw_privs, lw_okq q := by
  show ∀ q ∈ lw_privs_1 ++ (lw_privs_2), lw_okq q
  exact List.forall_mem_append.mpr ⟨lw_r1, lw_r2⟩
end
section
def RX0 : String := "TapeMachine$Reader"
def TX0 : u_T := fun k => match k with
  | 0 => ("TapeMachine$Reader", "tape", "[I", true)
  | 1 => ("TapeMachine$Reader", "fed", "I", false)
  | 2 => ("TapeMachine$Reader", "taken", "I", false)
  | 3 => ("TapeMachine$Reader", "buffer", "I", false)
  | _ => ("TapeMachine$Reader", "flag", "Z", false)
def tyX0 : Nat → FieldType := fun k => match k with
  | 0 => .array .int
  | 1 => .int
  | 2 => .int
  | 3 => .int
  | _ => .boolean
abbrev wsX00 : List Cond := u_ws RX0 TX0 5
theorem nmX0 : ∀ a, a < 5 → ∀ b, b < 5 → a ≠ b → (TX0 a).2.1 ≠ (TX0 b).2.1 := by decide +kernel
theorem tyX0_ok : ∀ k, k < 5 → parseFieldDescriptor (TX0 k).2.2.1 = some (tyX0 k) := by decide +kernel
abbrev cX0_init : ByteArray := prog_2_method_1_code
def yX0_init : MethodName := ⟨RX0, "<init>", "()V"⟩
abbrev cX0_append : ByteArray := prog_2_method_2_code
def yX0_append : MethodName := ⟨RX0, "append", "(I)Z"⟩
abbrev cX0_unread : ByteArray := prog_2_method_3_code
def yX0_unread : MethodName := ⟨RX0, "unread", "()I"⟩
abbrev cX0_restart : ByteArray := prog_2_method_4_code
def yX0_restart : MethodName := ⟨RX0, "restart", "()V"⟩
def RX1 : String := "TapeMachine$Recent"
def TX1 : u_T := fun k => match k with
  | 0 => ("TapeMachine$Recent", "row", "[I", true)
  | _ => ("TapeMachine$Recent", "count", "I", false)
def tyX1 : Nat → FieldType := fun k => match k with
  | 0 => .array .int
  | _ => .int
abbrev wsX10 : List Cond := u_ws RX1 TX1 2
theorem nmX1 : ∀ a, a < 2 → ∀ b, b < 2 → a ≠ b → (TX1 a).2.1 ≠ (TX1 b).2.1 := by decide +kernel
theorem tyX1_ok : ∀ k, k < 2 → parseFieldDescriptor (TX1 k).2.2.1 = some (tyX1 k) := by decide +kernel
abbrev cX1_init : ByteArray := prog_3_method_1_code
def yX1_init : MethodName := ⟨RX1, "<init>", "()V"⟩
abbrev cX1_add : ByteArray := prog_3_method_2_code
def yX1_add : MethodName := ⟨RX1, "add", "(I)V"⟩
abbrev cX1_fromLatest : ByteArray := prog_3_method_3_code
def yX1_fromLatest : MethodName := ⟨RX1, "fromLatest", "(I)I"⟩
def RX2 : String := "TapeMachine"
def TX2 : u_T := fun k => match k with
  | 0 => ("TapeMachine", "core", "[I", true)
  | 1 => ("TapeMachine", "reader", "LTapeMachine$Reader;", true)
  | 2 => ("TapeMachine", "prints", "LTapeMachine$Recent;", true)
  | 3 => ("TapeMachine", "steps", "LTapeMachine$Recent;", true)
  | 4 => ("TapeMachine", "ac", "I", false)
  | 5 => ("TapeMachine", "link", "I", false)
  | 6 => ("TapeMachine", "pc", "I", false)
  | 7 => ("TapeMachine", "mq", "I", false)
  | 8 => ("TapeMachine", "sr", "I", false)
  | 9 => ("TapeMachine", "halted", "Z", false)
  | 10 => ("TapeMachine", "ion", "Z", false)
  | 11 => ("TapeMachine", "delay", "Z", false)
  | 12 => ("TapeMachine", "printerFlag", "Z", false)
  | 13 => ("TapeMachine", "interruptCount", "I", false)
  | _ => ("TapeMachine", "skipCount", "I", false)
def tyX2 : Nat → FieldType := fun k => match k with
  | 0 => .array .int
  | 1 => .object "TapeMachine$Reader"
  | 2 => .object "TapeMachine$Recent"
  | 3 => .object "TapeMachine$Recent"
  | 4 => .int
  | 5 => .int
  | 6 => .int
  | 7 => .int
  | 8 => .int
  | 9 => .boolean
  | 10 => .boolean
  | 11 => .boolean
  | 12 => .boolean
  | 13 => .int
  | _ => .int
abbrev wsX20 : List Cond := u_ws RX2 TX2 15
theorem nmX2 : ∀ a, a < 15 → ∀ b, b < 15 → a ≠ b → (TX2 a).2.1 ≠ (TX2 b).2.1 := by decide +kernel
theorem tyX2_ok : ∀ k, k < 15 → parseFieldDescriptor (TX2 k).2.2.1 = some (tyX2 k) := by decide +kernel
abbrev cX2_init : ByteArray := prog_1_method_1_code
def yX2_init : MethodName := ⟨RX2, "<init>", "()V"⟩
abbrev cX2_feed : ByteArray := prog_1_method_2_code
def yX2_feed : MethodName := ⟨RX2, "feed", "(I)Z"⟩
abbrev cX2_waiting : ByteArray := prog_1_method_3_code
def yX2_waiting : MethodName := ⟨RX2, "waiting", "()I"⟩
abbrev cX2_poke : ByteArray := prog_1_method_4_code
def yX2_poke : MethodName := ⟨RX2, "poke", "(II)I"⟩
abbrev cX2_peek : ByteArray := prog_1_method_5_code
def yX2_peek : MethodName := ⟨RX2, "peek", "(I)I"⟩
abbrev cX2_set : ByteArray := prog_1_method_6_code
def yX2_set : MethodName := ⟨RX2, "set", "(II)Z"⟩
abbrev cX2_register : ByteArray := prog_1_method_7_code
def yX2_register : MethodName := ⟨RX2, "register", "(I)I"⟩
abbrev cX2_go : ByteArray := prog_1_method_8_code
def yX2_go : MethodName := ⟨RX2, "go", "()Z"⟩
abbrev cX2_run : ByteArray := prog_1_method_9_code
def yX2_run : MethodName := ⟨RX2, "run", "(I)I"⟩
abbrev cX2_printed : ByteArray := prog_1_method_10_code
def yX2_printed : MethodName := ⟨RX2, "printed", "(I)I"⟩
abbrev cX2_trace : ByteArray := prog_1_method_11_code
def yX2_trace : MethodName := ⟨RX2, "trace", "(I)I"⟩
abbrev cX2_interrupts : ByteArray := prog_1_method_12_code
def yX2_interrupts : MethodName := ⟨RX2, "interrupts", "()I"⟩
abbrev cX2_skips : ByteArray := prog_1_method_13_code
def yX2_skips : MethodName := ⟨RX2, "skips", "()I"⟩
abbrev cX2_isAddress : ByteArray := prog_1_method_14_code
def yX2_isAddress : MethodName := ⟨RX2, "isAddress", "(I)Z"⟩
abbrev cX2_bit : ByteArray := prog_1_method_15_code
def yX2_bit : MethodName := ⟨RX2, "bit", "(Z)I"⟩
abbrev cX2_has : ByteArray := prog_1_method_16_code
def yX2_has : MethodName := ⟨RX2, "has", "(II)Z"⟩
abbrev cX2_next : ByteArray := prog_1_method_17_code
def yX2_next : MethodName := ⟨RX2, "next", "(I)I"⟩
abbrev cX2_wordAt : ByteArray := prog_1_method_18_code
def yX2_wordAt : MethodName := ⟨RX2, "wordAt", "(I)I"⟩
abbrev cX2_putWord : ByteArray := prog_1_method_19_code
def yX2_putWord : MethodName := ⟨RX2, "putWord", "(II)V"⟩
abbrev cX2_skipIf : ByteArray := prog_1_method_20_code
def yX2_skipIf : MethodName := ⟨RX2, "skipIf", "(Z)V"⟩
abbrev cX2_step : ByteArray := prog_1_method_21_code
def yX2_step : MethodName := ⟨RX2, "step", "()V"⟩
abbrev cX2_interrupt : ByteArray := prog_1_method_22_code
def yX2_interrupt : MethodName := ⟨RX2, "interrupt", "()V"⟩
abbrev cX2_perform : ByteArray := prog_1_method_23_code
def yX2_perform : MethodName := ⟨RX2, "perform", "(II)V"⟩
abbrev cX2_effectiveAddress : ByteArray := prog_1_method_24_code
def yX2_effectiveAddress : MethodName := ⟨RX2, "effectiveAddress", "(II)I"⟩
abbrev cX2_performAddressed : ByteArray := prog_1_method_25_code
def yX2_performAddressed : MethodName := ⟨RX2, "performAddressed", "(II)V"⟩
abbrev cX2_add : ByteArray := prog_1_method_26_code
def yX2_add : MethodName := ⟨RX2, "add", "(I)V"⟩
abbrev cX2_performDevice : ByteArray := prog_1_method_27_code
def yX2_performDevice : MethodName := ⟨RX2, "performDevice", "(I)V"⟩
abbrev cX2_changeAccumulator : ByteArray := prog_1_method_28_code
def yX2_changeAccumulator : MethodName := ⟨RX2, "changeAccumulator", "(I)V"⟩
abbrev cX2_turnLeft : ByteArray := prog_1_method_29_code
def yX2_turnLeft : MethodName := ⟨RX2, "turnLeft", "(I)V"⟩
abbrev cX2_testAccumulator : ByteArray := prog_1_method_30_code
def yX2_testAccumulator : MethodName := ⟨RX2, "testAccumulator", "(I)V"⟩
abbrev cX2_exchangeWithMq : ByteArray := prog_1_method_31_code
def yX2_exchangeWithMq : MethodName := ⟨RX2, "exchangeWithMq", "(I)V"⟩
def RX3 : String := "TapeMachineModel"
def TX3 : u_T := fun k => match k with
  | 0 => ("TapeMachineModel", "core", "[I", true)
  | 1 => ("TapeMachineModel", "\x72", "[I", true)
  | 2 => ("TapeMachineModel", "tape", "[I", true)
  | 3 => ("TapeMachineModel", "out", "[I", true)
  | 4 => ("TapeMachineModel", "places", "[I", true)
  | 5 => ("TapeMachineModel", "fed", "I", false)
  | 6 => ("TapeMachineModel", "read", "I", false)
  | 7 => ("TapeMachineModel", "printed", "I", false)
  | 8 => ("TapeMachineModel", "steps", "I", false)
  | 9 => ("TapeMachineModel", "interrupts", "I", false)
  | _ => ("TapeMachineModel", "skips", "I", false)
def tyX3 : Nat → FieldType := fun k => match k with
  | 0 => .array .int
  | 1 => .array .int
  | 2 => .array .int
  | 3 => .array .int
  | 4 => .array .int
  | 5 => .int
  | 6 => .int
  | 7 => .int
  | 8 => .int
  | 9 => .int
  | _ => .int
abbrev wsX30 : List Cond := u_ws RX3 TX3 11
theorem nmX3 : ∀ a, a < 11 → ∀ b, b < 11 → a ≠ b → (TX3 a).2.1 ≠ (TX3 b).2.1 := by decide +kernel
theorem tyX3_ok : ∀ k, k < 11 → parseFieldDescriptor (TX3 k).2.2.1 = some (tyX3 k) := by decide +kernel
abbrev cX3_init : ByteArray := prog_5_method_1_code
def yX3_init : MethodName := ⟨RX3, "<init>", "()V"⟩
abbrev cX3_feed : ByteArray := prog_5_method_2_code
def yX3_feed : MethodName := ⟨RX3, "feed", "(I)Z"⟩
abbrev cX3_waiting : ByteArray := prog_5_method_3_code
def yX3_waiting : MethodName := ⟨RX3, "waiting", "()I"⟩
abbrev cX3_poke : ByteArray := prog_5_method_4_code
def yX3_poke : MethodName := ⟨RX3, "poke", "(II)I"⟩
abbrev cX3_peek : ByteArray := prog_5_method_5_code
def yX3_peek : MethodName := ⟨RX3, "peek", "(I)I"⟩
abbrev cX3_set : ByteArray := prog_5_method_6_code
def yX3_set : MethodName := ⟨RX3, "set", "(II)Z"⟩
abbrev cX3_register : ByteArray := prog_5_method_7_code
def yX3_register : MethodName := ⟨RX3, "register", "(I)I"⟩
abbrev cX3_go : ByteArray := prog_5_method_8_code
def yX3_go : MethodName := ⟨RX3, "go", "()Z"⟩
abbrev cX3_has : ByteArray := prog_5_method_9_code
def yX3_has : MethodName := ⟨RX3, "has", "(II)Z"⟩
abbrev cX3_after : ByteArray := prog_5_method_10_code
def yX3_after : MethodName := ⟨RX3, "after", "(I)I"⟩
abbrev cX3_skip : ByteArray := prog_5_method_11_code
def yX3_skip : MethodName := ⟨RX3, "skip", "()V"⟩
abbrev cX3_advance : ByteArray := prog_5_method_12_code
def yX3_advance : MethodName := ⟨RX3, "advance", "()V"⟩
abbrev cX3_add : ByteArray := prog_5_method_13_code
def yX3_add : MethodName := ⟨RX3, "add", "(I)V"⟩
abbrev cX3_step : ByteArray := prog_5_method_14_code
def yX3_step : MethodName := ⟨RX3, "step", "()V"⟩
abbrev cX3_place : ByteArray := prog_5_method_15_code
def yX3_place : MethodName := ⟨RX3, "place", "(II)I"⟩
abbrev cX3_reference : ByteArray := prog_5_method_16_code
def yX3_reference : MethodName := ⟨RX3, "reference", "(II)V"⟩
abbrev cX3_device : ByteArray := prog_5_method_17_code
def yX3_device : MethodName := ⟨RX3, "device", "(I)V"⟩
abbrev cX3_first : ByteArray := prog_5_method_18_code
def yX3_first : MethodName := ⟨RX3, "first", "(I)V"⟩
abbrev cX3_second : ByteArray := prog_5_method_19_code
def yX3_second : MethodName := ⟨RX3, "second", "(I)V"⟩
abbrev cX3_third : ByteArray := prog_5_method_20_code
def yX3_third : MethodName := ⟨RX3, "third", "(I)V"⟩
abbrev cX3_run : ByteArray := prog_5_method_21_code
def yX3_run : MethodName := ⟨RX3, "run", "(I)I"⟩
abbrev cX3_printed : ByteArray := prog_5_method_22_code
def yX3_printed : MethodName := ⟨RX3, "printed", "(I)I"⟩
abbrev cX3_trace : ByteArray := prog_5_method_23_code
def yX3_trace : MethodName := ⟨RX3, "trace", "(I)I"⟩
abbrev cX3_interrupts : ByteArray := prog_5_method_24_code
def yX3_interrupts : MethodName := ⟨RX3, "interrupts", "()I"⟩
abbrev cX3_skips : ByteArray := prog_5_method_25_code
def yX3_skips : MethodName := ⟨RX3, "skips", "()I"⟩
def RL : String := "TapeMachineLaw"
abbrev cL_law : ByteArray := code
def yL_law : MethodName := ⟨RL, "law", "([I)Z"⟩
abbrev vwCl : List vw_C := [(RX0, TX0, 5), (RX1, TX1, 2), (RX2, TX2, 15), (RX3, TX3, 11)]
end
section
theorem dX0_init_0 : decode cX0_init 0 = .ok (.aload_n 0, 1) := by decide +kernel
theorem dX0_init_1 : decode cX0_init 1 = .ok (.invokespecial 3, 3) := by decide +kernel
theorem dX0_init_4 : decode cX0_init 4 = .ok (.aload_n 0, 1) := by decide +kernel
theorem dX0_init_5 : decode cX0_init 5 = .ok (.sipush 400, 3) := by decide +kernel
theorem dX0_init_8 : decode cX0_init 8 = .ok (.newarray .int, 2) := by decide +kernel
theorem dX0_init_10 : decode cX0_init 10 = .ok (.putfield 9, 3) := by decide +kernel
theorem dX0_init_13 : decode cX0_init 13 = .ok (.return_, 1) := by decide +kernel
theorem dX0_append_0 : decode cX0_append 0 = .ok (.iload_n 1, 1) := by decide +kernel
theorem dX0_append_1 : decode cX0_append 1 = .ok (.ifCond .lt 20, 3) := by decide +kernel
theorem dX0_append_4 : decode cX0_append 4 = .ok (.iload_n 1, 1) := by decide +kernel
theorem dX0_append_5 : decode cX0_append 5 = .ok (.sipush 255, 3) := by decide +kernel
theorem dX0_append_8 : decode cX0_append 8 = .ok (.if_icmp .gt 13, 3) := by decide +kernel
theorem dX0_append_11 : decode cX0_append 11 = .ok (.aload_n 0, 1) := by decide +kernel
theorem dX0_append_12 : decode cX0_append 12 = .ok (.getfield 15, 3) := by decide +kernel
theorem dX0_append_15 : decode cX0_append 15 = .ok (.sipush 400, 3) := by decide +kernel
theorem dX0_append_18 : decode cX0_append 18 = .ok (.if_icmp .lt 5, 3) := by decide +kernel
theorem dX0_append_21 : decode cX0_append 21 = .ok (.iconst 0, 1) := by decide +kernel
theorem dX0_append_22 : decode cX0_append 22 = .ok (.ireturn, 1) := by decide +kernel
theorem dX0_append_23 : decode cX0_append 23 = .ok (.aload_n 0, 1) := by decide +kernel
theorem dX0_append_24 : decode cX0_append 24 = .ok (.getfield 9, 3) := by decide +kernel
theorem dX0_append_27 : decode cX0_append 27 = .ok (.aload_n 0, 1) := by decide +kernel
theorem dX0_append_28 : decode cX0_append 28 = .ok (.getfield 15, 3) := by decide +kernel
theorem dX0_append_31 : decode cX0_append 31 = .ok (.iload_n 1, 1) := by decide +kernel
theorem dX0_append_32 : decode cX0_append 32 = .ok (.iastore, 1) := by decide +kernel
theorem dX0_append_33 : decode cX0_append 33 = .ok (.aload_n 0, 1) := by decide +kernel
theorem dX0_append_34 : decode cX0_append 34 = .ok (.dup, 1) := by decide +kernel
theorem dX0_append_35 : decode cX0_append 35 = .ok (.getfield 15, 3) := by decide +kernel
theorem dX0_append_38 : decode cX0_append 38 = .ok (.iconst 1, 1) := by decide +kernel
theorem dX0_append_39 : decode cX0_append 39 = .ok (.iadd, 1) := by decide +kernel
theorem dX0_append_40 : decode cX0_append 40 = .ok (.putfield 15, 3) := by decide +kernel
theorem dX0_append_43 : decode cX0_append 43 = .ok (.iconst 1, 1) := by decide +kernel
theorem dX0_append_44 : decode cX0_append 44 = .ok (.ireturn, 1) := by decide +kernel
theorem dX0_unread_0 : decode cX0_unread 0 = .ok (.aload_n 0, 1) := by decide +kernel
theorem dX0_unread_1 : decode cX0_unread 1 = .ok (.getfield 15, 3) := by decide +kernel
theorem dX0_unread_4 : decode cX0_unread 4 = .ok (.aload_n 0, 1) := by decide +kernel
theorem dX0_unread_5 : decode cX0_unread 5 = .ok (.getfield 19, 3) := by decide +kernel
theorem dX0_unread_8 : decode cX0_unread 8 = .ok (.isub, 1) := by decide +kernel
theorem dX0_unread_9 : decode cX0_unread 9 = .ok (.ireturn, 1) := by decide +kernel
theorem dX0_restart_0 : decode cX0_restart 0 = .ok (.aload_n 0, 1) := by decide +kernel
theorem dX0_restart_1 : decode cX0_restart 1 = .ok (.iconst 0, 1) := by decide +kernel
theorem dX0_restart_2 : decode cX0_restart 2 = .ok (.putfield 22, 3) := by decide +kernel
theorem dX0_restart_5 : decode cX0_restart 5 = .ok (.aload_n 0, 1) := by decide +kernel
theorem dX0_restart_6 : decode cX0_restart 6 = .ok (.getfield 19, 3) := by decide +kernel
theorem dX0_restart_9 : decode cX0_restart 9 = .ok (.aload_n 0, 1) := by decide +kernel
theorem dX0_restart_10 : decode cX0_restart 10 = .ok (.getfield 15, 3) := by decide +kernel
theorem dX0_restart_13 : decode cX0_restart 13 = .ok (.if_icmp .ge 31, 3) := by decide +kernel
theorem dX0_restart_16 : decode cX0_restart 16 = .ok (.aload_n 0, 1) := by decide +kernel
theorem dX0_restart_17 : decode cX0_restart 17 = .ok (.aload_n 0, 1) := by decide +kernel
theorem dX0_restart_18 : decode cX0_restart 18 = .ok (.getfield 9, 3) := by decide +kernel
theorem dX0_restart_21 : decode cX0_restart 21 = .ok (.aload_n 0, 1) := by decide +kernel
theorem dX0_restart_22 : decode cX0_restart 22 = .ok (.getfield 19, 3) := by decide +kernel
theorem dX0_restart_25 : decode cX0_restart 25 = .ok (.iaload, 1) := by decide +kernel
theorem dX0_restart_26 : decode cX0_restart 26 = .ok (.putfield 26, 3) := by decide +kernel
theorem dX0_restart_29 : decode cX0_restart 29 = .ok (.aload_n 0, 1) := by decide +kernel
theorem dX0_restart_30 : decode cX0_restart 30 = .ok (.dup, 1) := by decide +kernel
theorem dX0_restart_31 : decode cX0_restart 31 = .ok (.getfield 19, 3) := by decide +kernel
theorem dX0_restart_34 : decode cX0_restart 34 = .ok (.iconst 1, 1) := by decide +kernel
theorem dX0_restart_35 : decode cX0_restart 35 = .ok (.iadd, 1) := by decide +kernel
theorem dX0_restart_36 : decode cX0_restart 36 = .ok (.putfield 19, 3) := by decide +kernel
theorem dX0_restart_39 : decode cX0_restart 39 = .ok (.aload_n 0, 1) := by decide +kernel
theorem dX0_restart_40 : decode cX0_restart 40 = .ok (.iconst 1, 1) := by decide +kernel
theorem dX0_restart_41 : decode cX0_restart 41 = .ok (.putfield 22, 3) := by decide +kernel
theorem dX0_restart_44 : decode cX0_restart 44 = .ok (.return_, 1) := by decide +kernel
theorem dX1_init_0 : decode cX1_init 0 = .ok (.aload_n 0, 1) := by decide +kernel
theorem dX1_init_1 : decode cX1_init 1 = .ok (.invokespecial 3, 3) := by decide +kernel
theorem dX1_init_4 : decode cX1_init 4 = .ok (.aload_n 0, 1) := by decide +kernel
theorem dX1_init_5 : decode cX1_init 5 = .ok (.bipush 64, 2) := by decide +kernel
theorem dX1_init_7 : decode cX1_init 7 = .ok (.newarray .int, 2) := by decide +kernel
theorem dX1_init_9 : decode cX1_init 9 = .ok (.putfield 9, 3) := by decide +kernel
theorem dX1_init_12 : decode cX1_init 12 = .ok (.return_, 1) := by decide +kernel
theorem dX1_add_0 : decode cX1_add 0 = .ok (.aload_n 0, 1) := by decide +kernel
theorem dX1_add_1 : decode cX1_add 1 = .ok (.getfield 9, 3) := by decide +kernel
theorem dX1_add_4 : decode cX1_add 4 = .ok (.aload_n 0, 1) := by decide +kernel
theorem dX1_add_5 : decode cX1_add 5 = .ok (.getfield 15, 3) := by decide +kernel
theorem dX1_add_8 : decode cX1_add 8 = .ok (.bipush 63, 2) := by decide +kernel
theorem dX1_add_10 : decode cX1_add 10 = .ok (.iand, 1) := by decide +kernel
theorem dX1_add_11 : decode cX1_add 11 = .ok (.iload_n 1, 1) := by decide +kernel
theorem dX1_add_12 : decode cX1_add 12 = .ok (.iastore, 1) := by decide +kernel
theorem dX1_add_13 : decode cX1_add 13 = .ok (.aload_n 0, 1) := by decide +kernel
theorem dX1_add_14 : decode cX1_add 14 = .ok (.dup, 1) := by decide +kernel
theorem dX1_add_15 : decode cX1_add 15 = .ok (.getfield 15, 3) := by decide +kernel
theorem dX1_add_18 : decode cX1_add 18 = .ok (.iconst 1, 1) := by decide +kernel
theorem dX1_add_19 : decode cX1_add 19 = .ok (.iadd, 1) := by decide +kernel
theorem dX1_add_20 : decode cX1_add 20 = .ok (.putfield 15, 3) := by decide +kernel
theorem dX1_add_23 : decode cX1_add 23 = .ok (.return_, 1) := by decide +kernel
theorem dX1_fromLatest_0 : decode cX1_fromLatest 0 = .ok (.iload_n 1, 1) := by decide +kernel
theorem dX1_fromLatest_1 : decode cX1_fromLatest 1 = .ok (.ifCond .lt 17, 3) := by decide +kernel
theorem dX1_fromLatest_4 : decode cX1_fromLatest 4 = .ok (.iload_n 1, 1) := by decide +kernel
theorem dX1_fromLatest_5 : decode cX1_fromLatest 5 = .ok (.bipush 64, 2) := by decide +kernel
theorem dX1_fromLatest_7 : decode cX1_fromLatest 7 = .ok (.if_icmp .ge 11, 3) := by decide +kernel
theorem dX1_fromLatest_10 : decode cX1_fromLatest 10 = .ok (.iload_n 1, 1) := by decide +kernel
theorem dX1_fromLatest_11 : decode cX1_fromLatest 11 = .ok (.aload_n 0, 1) := by decide +kernel
theorem dX1_fromLatest_12 : decode cX1_fromLatest 12 = .ok (.getfield 15, 3) := by decide +kernel
theorem dX1_fromLatest_15 : decode cX1_fromLatest 15 = .ok (.if_icmp .lt 5, 3) := by decide +kernel
theorem dX1_fromLatest_18 : decode cX1_fromLatest 18 = .ok (.iconst (-1), 1) := by decide +kernel
theorem dX1_fromLatest_19 : decode cX1_fromLatest 19 = .ok (.ireturn, 1) := by decide +kernel
theorem dX1_fromLatest_20 : decode cX1_fromLatest 20 = .ok (.aload_n 0, 1) := by decide +kernel
theorem dX1_fromLatest_21 : decode cX1_fromLatest 21 = .ok (.getfield 9, 3) := by decide +kernel
theorem dX1_fromLatest_24 : decode cX1_fromLatest 24 = .ok (.aload_n 0, 1) := by decide +kernel
theorem dX1_fromLatest_25 : decode cX1_fromLatest 25 = .ok (.getfield 15, 3) := by decide +kernel
theorem dX1_fromLatest_28 : decode cX1_fromLatest 28 = .ok (.iconst 1, 1) := by decide +kernel
theorem dX1_fromLatest_29 : decode cX1_fromLatest 29 = .ok (.isub, 1) := by decide +kernel
theorem dX1_fromLatest_30 : decode cX1_fromLatest 30 = .ok (.iload_n 1, 1) := by decide +kernel
theorem dX1_fromLatest_31 : decode cX1_fromLatest 31 = .ok (.isub, 1) := by decide +kernel
theorem dX1_fromLatest_32 : decode cX1_fromLatest 32 = .ok (.bipush 63, 2) := by decide +kernel
theorem dX1_fromLatest_34 : decode cX1_fromLatest 34 = .ok (.iand, 1) := by decide +kernel
theorem dX1_fromLatest_35 : decode cX1_fromLatest 35 = .ok (.iaload, 1) := by decide +kernel
theorem dX1_fromLatest_36 : decode cX1_fromLatest 36 = .ok (.ireturn, 1) := by decide +kernel
theorem dX2_init_0 : decode cX2_init 0 = .ok (.aload_n 0, 1) := by decide +kernel
theorem dX2_init_1 : decode cX2_init 1 = .ok (.invokespecial 1, 3) := by decide +kernel
theorem dX2_init_4 : decode cX2_init 4 = .ok (.aload_n 0, 1) := by decide +kernel
theorem dX2_init_5 : decode cX2_init 5 = .ok (.sipush 4096, 3) := by decide +kernel
theorem dX2_init_8 : decode cX2_init 8 = .ok (.newarray .int, 2) := by decide +kernel
theorem dX2_init_10 : decode cX2_init 10 = .ok (.putfield 9, 3) := by decide +kernel
theorem dX2_init_13 : decode cX2_init 13 = .ok (.aload_n 0, 1) := by decide +kernel
theorem dX2_init_14 : decode cX2_init 14 = .ok (.new 13, 3) := by decide +kernel
theorem dX2_init_17 : decode cX2_init 17 = .ok (.dup, 1) := by decide +kernel
theorem dX2_init_18 : decode cX2_init 18 = .ok (.invokespecial 15, 3) := by decide +kernel
theorem dX2_init_21 : decode cX2_init 21 = .ok (.putfield 16, 3) := by decide +kernel
theorem dX2_init_24 : decode cX2_init 24 = .ok (.aload_n 0, 1) := by decide +kernel
theorem dX2_init_25 : decode cX2_init 25 = .ok (.new 20, 3) := by decide +kernel
theorem dX2_init_28 : decode cX2_init 28 = .ok (.dup, 1) := by decide +kernel
theorem dX2_init_29 : decode cX2_init 29 = .ok (.invokespecial 22, 3) := by decide +kernel
theorem dX2_init_32 : decode cX2_init 32 = .ok (.putfield 23, 3) := by decide +kernel
theorem dX2_init_35 : decode cX2_init 35 = .ok (.aload_n 0, 1) := by decide +kernel
theorem dX2_init_36 : decode cX2_init 36 = .ok (.new 20, 3) := by decide +kernel
theorem dX2_init_39 : decode cX2_init 39 = .ok (.dup, 1) := by decide +kernel
theorem dX2_init_40 : decode cX2_init 40 = .ok (.invokespecial 22, 3) := by decide +kernel
theorem dX2_init_43 : decode cX2_init 43 = .ok (.putfield 27, 3) := by decide +kernel
theorem dX2_init_46 : decode cX2_init 46 = .ok (.return_, 1) := by decide +kernel
theorem dX2_feed_0 : decode cX2_feed 0 = .ok (.aload_n 0, 1) := by decide +kernel
theorem dX2_feed_1 : decode cX2_feed 1 = .ok (.getfield 16, 3) := by decide +kernel
theorem dX2_feed_4 : decode cX2_feed 4 = .ok (.iload_n 1, 1) := by decide +kernel
theorem dX2_feed_5 : decode cX2_feed 5 = .ok (.invokevirtual 30, 3) := by decide +kernel
theorem dX2_feed_8 : decode cX2_feed 8 = .ok (.ireturn, 1) := by decide +kernel
theorem dX2_waiting_0 : decode cX2_waiting 0 = .ok (.aload_n 0, 1) := by decide +kernel
theorem dX2_waiting_1 : decode cX2_waiting 1 = .ok (.getfield 16, 3) := by decide +kernel
theorem dX2_waiting_4 : decode cX2_waiting 4 = .ok (.invokevirtual 34, 3) := by decide +kernel
theorem dX2_waiting_7 : decode cX2_waiting 7 = .ok (.ireturn, 1) := by decide +kernel
theorem dX2_poke_0 : decode cX2_poke 0 = .ok (.iload_n 1, 1) := by decide +kernel
theorem dX2_poke_1 : decode cX2_poke 1 = .ok (.invokestatic 38, 3) := by decide +kernel
theorem dX2_poke_4 : decode cX2_poke 4 = .ok (.ifCond .ne 5, 3) := by decide +kernel
theorem dX2_poke_7 : decode cX2_poke 7 = .ok (.iconst (-1), 1) := by decide +kernel
theorem dX2_poke_8 : decode cX2_poke 8 = .ok (.ireturn, 1) := by decide +kernel
theorem dX2_poke_9 : decode cX2_poke 9 = .ok (.aload_n 0, 1) := by decide +kernel
theorem dX2_poke_10 : decode cX2_poke 10 = .ok (.iload_n 1, 1) := by decide +kernel
theorem dX2_poke_11 : decode cX2_poke 11 = .ok (.invokevirtual 41, 3) := by decide +kernel
theorem dX2_poke_14 : decode cX2_poke 14 = .ok (.istore_n 3, 1) := by decide +kernel
theorem dX2_poke_15 : decode cX2_poke 15 = .ok (.aload_n 0, 1) := by decide +kernel
theorem dX2_poke_16 : decode cX2_poke 16 = .ok (.iload_n 1, 1) := by decide +kernel
theorem dX2_poke_17 : decode cX2_poke 17 = .ok (.iload_n 2, 1) := by decide +kernel
theorem dX2_poke_18 : decode cX2_poke 18 = .ok (.invokevirtual 45, 3) := by decide +kernel
theorem dX2_poke_21 : decode cX2_poke 21 = .ok (.iload_n 3, 1) := by decide +kernel
theorem dX2_poke_22 : decode cX2_poke 22 = .ok (.ireturn, 1) := by decide +kernel
theorem dX2_peek_0 : decode cX2_peek 0 = .ok (.iload_n 1, 1) := by decide +kernel
theorem dX2_peek_1 : decode cX2_peek 1 = .ok (.invokestatic 38, 3) := by decide +kernel
theorem dX2_peek_4 : decode cX2_peek 4 = .ok (.ifCond .eq 11, 3) := by decide +kernel
theorem dX2_peek_7 : decode cX2_peek 7 = .ok (.aload_n 0, 1) := by decide +kernel
theorem dX2_peek_8 : decode cX2_peek 8 = .ok (.iload_n 1, 1) := by decide +kernel
theorem dX2_peek_9 : decode cX2_peek 9 = .ok (.invokevirtual 41, 3) := by decide +kernel
theorem dX2_peek_12 : decode cX2_peek 12 = .ok (.goto 4, 3) := by decide +kernel
theorem dX2_peek_15 : decode cX2_peek 15 = .ok (.iconst (-1), 1) := by decide +kernel
theorem dX2_peek_16 : decode cX2_peek 16 = .ok (.ireturn, 1) := by decide +kernel
theorem dX2_set_0 : decode cX2_set 0 = .ok (.iload_n 1, 1) := by decide +kernel
theorem dX2_set_1 : decode cX2_set 1 = .ok (.tableswitch 88 0 4 #[35, 46, 55, 66, 77], 35) := by decide +kernel
theorem dX2_set_36 : decode cX2_set 36 = .ok (.aload_n 0, 1) := by decide +kernel
theorem dX2_set_37 : decode cX2_set 37 = .ok (.iload_n 2, 1) := by decide +kernel
theorem dX2_set_38 : decode cX2_set 38 = .ok (.sipush 4095, 3) := by decide +kernel
theorem dX2_set_41 : decode cX2_set 41 = .ok (.iand, 1) := by decide +kernel
theorem dX2_set_42 : decode cX2_set 42 = .ok (.putfield 49, 3) := by decide +kernel
theorem dX2_set_45 : decode cX2_set 45 = .ok (.iconst 1, 1) := by decide +kernel
theorem dX2_set_46 : decode cX2_set 46 = .ok (.ireturn, 1) := by decide +kernel
theorem dX2_set_47 : decode cX2_set 47 = .ok (.aload_n 0, 1) := by decide +kernel
theorem dX2_set_48 : decode cX2_set 48 = .ok (.iload_n 2, 1) := by decide +kernel
theorem dX2_set_49 : decode cX2_set 49 = .ok (.iconst 1, 1) := by decide +kernel
theorem dX2_set_50 : decode cX2_set 50 = .ok (.iand, 1) := by decide +kernel
theorem dX2_set_51 : decode cX2_set 51 = .ok (.putfield 53, 3) := by decide +kernel
theorem dX2_set_54 : decode cX2_set 54 = .ok (.iconst 1, 1) := by decide +kernel
theorem dX2_set_55 : decode cX2_set 55 = .ok (.ireturn, 1) := by decide +kernel
theorem dX2_set_56 : decode cX2_set 56 = .ok (.aload_n 0, 1) := by decide +kernel
theorem dX2_set_57 : decode cX2_set 57 = .ok (.iload_n 2, 1) := by decide +kernel
theorem dX2_set_58 : decode cX2_set 58 = .ok (.sipush 4095, 3) := by decide +kernel
theorem dX2_set_61 : decode cX2_set 61 = .ok (.iand, 1) := by decide +kernel
theorem dX2_set_62 : decode cX2_set 62 = .ok (.putfield 56, 3) := by decide +kernel
theorem dX2_set_65 : decode cX2_set 65 = .ok (.iconst 1, 1) := by decide +kernel
theorem dX2_set_66 : decode cX2_set 66 = .ok (.ireturn, 1) := by decide +kernel
theorem dX2_set_67 : decode cX2_set 67 = .ok (.aload_n 0, 1) := by decide +kernel
theorem dX2_set_68 : decode cX2_set 68 = .ok (.iload_n 2, 1) := by decide +kernel
theorem dX2_set_69 : decode cX2_set 69 = .ok (.sipush 4095, 3) := by decide +kernel
theorem dX2_set_72 : decode cX2_set 72 = .ok (.iand, 1) := by decide +kernel
theorem dX2_set_73 : decode cX2_set 73 = .ok (.putfield 59, 3) := by decide +kernel
theorem dX2_set_76 : decode cX2_set 76 = .ok (.iconst 1, 1) := by decide +kernel
theorem dX2_set_77 : decode cX2_set 77 = .ok (.ireturn, 1) := by decide +kernel
theorem dX2_set_78 : decode cX2_set 78 = .ok (.aload_n 0, 1) := by decide +kernel
theorem dX2_set_79 : decode cX2_set 79 = .ok (.iload_n 2, 1) := by decide +kernel
theorem dX2_set_80 : decode cX2_set 80 = .ok (.sipush 4095, 3) := by decide +kernel
theorem dX2_set_83 : decode cX2_set 83 = .ok (.iand, 1) := by decide +kernel
theorem dX2_set_84 : decode cX2_set 84 = .ok (.putfield 62, 3) := by decide +kernel
theorem dX2_set_87 : decode cX2_set 87 = .ok (.iconst 1, 1) := by decide +kernel
theorem dX2_set_88 : decode cX2_set 88 = .ok (.ireturn, 1) := by decide +kernel
theorem dX2_set_89 : decode cX2_set 89 = .ok (.iconst 0, 1) := by decide +kernel
theorem dX2_set_90 : decode cX2_set 90 = .ok (.ireturn, 1) := by decide +kernel
theorem dX2_register_0 : decode cX2_register 0 = .ok (.iload_n 1, 1) := by decide +kernel
theorem dX2_register_1 : decode cX2_register 1 = .ok (.tableswitch 135 0 10 #[59, 64, 69, 74, 79, 84, 92, 100, 111, 119, 127], 59) := by decide +kernel
theorem dX2_register_60 : decode cX2_register 60 = .ok (.aload_n 0, 1) := by decide +kernel
theorem dX2_register_61 : decode cX2_register 61 = .ok (.getfield 49, 3) := by decide +kernel
theorem dX2_register_64 : decode cX2_register 64 = .ok (.ireturn, 1) := by decide +kernel
theorem dX2_register_65 : decode cX2_register 65 = .ok (.aload_n 0, 1) := by decide +kernel
theorem dX2_register_66 : decode cX2_register 66 = .ok (.getfield 53, 3) := by decide +kernel
theorem dX2_register_69 : decode cX2_register 69 = .ok (.ireturn, 1) := by decide +kernel
theorem dX2_register_70 : decode cX2_register 70 = .ok (.aload_n 0, 1) := by decide +kernel
theorem dX2_register_71 : decode cX2_register 71 = .ok (.getfield 56, 3) := by decide +kernel
theorem dX2_register_74 : decode cX2_register 74 = .ok (.ireturn, 1) := by decide +kernel
theorem dX2_register_75 : decode cX2_register 75 = .ok (.aload_n 0, 1) := by decide +kernel
theorem dX2_register_76 : decode cX2_register 76 = .ok (.getfield 59, 3) := by decide +kernel
theorem dX2_register_79 : decode cX2_register 79 = .ok (.ireturn, 1) := by decide +kernel
theorem dX2_register_80 : decode cX2_register 80 = .ok (.aload_n 0, 1) := by decide +kernel
theorem dX2_register_81 : decode cX2_register 81 = .ok (.getfield 62, 3) := by decide +kernel
theorem dX2_register_84 : decode cX2_register 84 = .ok (.ireturn, 1) := by decide +kernel
theorem dX2_register_85 : decode cX2_register 85 = .ok (.aload_n 0, 1) := by decide +kernel
theorem dX2_register_86 : decode cX2_register 86 = .ok (.getfield 65, 3) := by decide +kernel
theorem dX2_register_89 : decode cX2_register 89 = .ok (.invokestatic 69, 3) := by decide +kernel
theorem dX2_register_92 : decode cX2_register 92 = .ok (.ireturn, 1) := by decide +kernel
theorem dX2_register_93 : decode cX2_register 93 = .ok (.aload_n 0, 1) := by decide +kernel
theorem dX2_register_94 : decode cX2_register 94 = .ok (.getfield 73, 3) := by decide +kernel
theorem dX2_register_97 : decode cX2_register 97 = .ok (.invokestatic 69, 3) := by decide +kernel
theorem dX2_register_100 : decode cX2_register 100 = .ok (.ireturn, 1) := by decide +kernel
theorem dX2_register_101 : decode cX2_register 101 = .ok (.aload_n 0, 1) := by decide +kernel
theorem dX2_register_102 : decode cX2_register 102 = .ok (.getfield 16, 3) := by decide +kernel
theorem dX2_register_105 : decode cX2_register 105 = .ok (.getfield 76, 3) := by decide +kernel
theorem dX2_register_108 : decode cX2_register 108 = .ok (.invokestatic 69, 3) := by decide +kernel
theorem dX2_register_111 : decode cX2_register 111 = .ok (.ireturn, 1) := by decide +kernel
theorem dX2_register_112 : decode cX2_register 112 = .ok (.aload_n 0, 1) := by decide +kernel
theorem dX2_register_113 : decode cX2_register 113 = .ok (.getfield 16, 3) := by decide +kernel
theorem dX2_register_116 : decode cX2_register 116 = .ok (.getfield 79, 3) := by decide +kernel
theorem dX2_register_119 : decode cX2_register 119 = .ok (.ireturn, 1) := by decide +kernel
theorem dX2_register_120 : decode cX2_register 120 = .ok (.aload_n 0, 1) := by decide +kernel
theorem dX2_register_121 : decode cX2_register 121 = .ok (.getfield 82, 3) := by decide +kernel
theorem dX2_register_124 : decode cX2_register 124 = .ok (.invokestatic 69, 3) := by decide +kernel
theorem dX2_register_127 : decode cX2_register 127 = .ok (.ireturn, 1) := by decide +kernel
theorem dX2_register_128 : decode cX2_register 128 = .ok (.aload_n 0, 1) := by decide +kernel
theorem dX2_register_129 : decode cX2_register 129 = .ok (.getfield 85, 3) := by decide +kernel
theorem dX2_register_132 : decode cX2_register 132 = .ok (.invokestatic 69, 3) := by decide +kernel
theorem dX2_register_135 : decode cX2_register 135 = .ok (.ireturn, 1) := by decide +kernel
theorem dX2_register_136 : decode cX2_register 136 = .ok (.iconst (-1), 1) := by decide +kernel
theorem dX2_register_137 : decode cX2_register 137 = .ok (.ireturn, 1) := by decide +kernel
theorem dX2_go_0 : decode cX2_go 0 = .ok (.aload_n 0, 1) := by decide +kernel
theorem dX2_go_1 : decode cX2_go 1 = .ok (.getfield 85, 3) := by decide +kernel
theorem dX2_go_4 : decode cX2_go 4 = .ok (.istore_n 1, 1) := by decide +kernel
theorem dX2_go_5 : decode cX2_go 5 = .ok (.aload_n 0, 1) := by decide +kernel
theorem dX2_go_6 : decode cX2_go 6 = .ok (.iconst 0, 1) := by decide +kernel
theorem dX2_go_7 : decode cX2_go 7 = .ok (.putfield 85, 3) := by decide +kernel
theorem dX2_go_10 : decode cX2_go 10 = .ok (.iload_n 1, 1) := by decide +kernel
theorem dX2_go_11 : decode cX2_go 11 = .ok (.ireturn, 1) := by decide +kernel
theorem dX2_run_0 : decode cX2_run 0 = .ok (.iload_n 1, 1) := by decide +kernel
theorem dX2_run_1 : decode cX2_run 1 = .ok (.ifCond .lt 10, 3) := by decide +kernel
theorem dX2_run_4 : decode cX2_run 4 = .ok (.iload_n 1, 1) := by decide +kernel
theorem dX2_run_5 : decode cX2_run 5 = .ok (.sipush 2000, 3) := by decide +kernel
theorem dX2_run_8 : decode cX2_run 8 = .ok (.if_icmp .le 5, 3) := by decide +kernel
theorem dX2_run_11 : decode cX2_run 11 = .ok (.iconst 0, 1) := by decide +kernel
theorem dX2_run_12 : decode cX2_run 12 = .ok (.ireturn, 1) := by decide +kernel
theorem dX2_run_13 : decode cX2_run 13 = .ok (.iconst 0, 1) := by decide +kernel
theorem dX2_run_14 : decode cX2_run 14 = .ok (.istore_n 2, 1) := by decide +kernel
theorem dX2_run_15 : decode cX2_run 15 = .ok (.iload_n 2, 1) := by decide +kernel
theorem dX2_run_16 : decode cX2_run 16 = .ok (.iload_n 1, 1) := by decide +kernel
theorem dX2_run_17 : decode cX2_run 17 = .ok (.if_icmp .ge 20, 3) := by decide +kernel
theorem dX2_run_20 : decode cX2_run 20 = .ok (.aload_n 0, 1) := by decide +kernel
theorem dX2_run_21 : decode cX2_run 21 = .ok (.getfield 85, 3) := by decide +kernel
theorem dX2_run_24 : decode cX2_run 24 = .ok (.ifCond .ne 13, 3) := by decide +kernel
theorem dX2_run_27 : decode cX2_run 27 = .ok (.aload_n 0, 1) := by decide +kernel
theorem dX2_run_28 : decode cX2_run 28 = .ok (.invokevirtual 88, 3) := by decide +kernel
theorem dX2_run_31 : decode cX2_run 31 = .ok (.iinc 2 1, 3) := by decide +kernel
theorem dX2_run_34 : decode cX2_run 34 = .ok (.goto (-19), 3) := by decide +kernel
theorem dX2_run_37 : decode cX2_run 37 = .ok (.iload_n 2, 1) := by decide +kernel
theorem dX2_run_38 : decode cX2_run 38 = .ok (.ireturn, 1) := by decide +kernel
theorem dX2_printed_0 : decode cX2_printed 0 = .ok (.iload_n 1, 1) := by decide +kernel
theorem dX2_printed_1 : decode cX2_printed 1 = .ok (.iconst (-1), 1) := by decide +kernel
theorem dX2_printed_2 : decode cX2_printed 2 = .ok (.if_icmp .ne 13, 3) := by decide +kernel
theorem dX2_printed_5 : decode cX2_printed 5 = .ok (.aload_n 0, 1) := by decide +kernel
theorem dX2_printed_6 : decode cX2_printed 6 = .ok (.getfield 23, 3) := by decide +kernel
theorem dX2_printed_9 : decode cX2_printed 9 = .ok (.getfield 91, 3) := by decide +kernel
theorem dX2_printed_12 : decode cX2_printed 12 = .ok (.goto 11, 3) := by decide +kernel
theorem dX2_printed_15 : decode cX2_printed 15 = .ok (.aload_n 0, 1) := by decide +kernel
theorem dX2_printed_16 : decode cX2_printed 16 = .ok (.getfield 23, 3) := by decide +kernel
theorem dX2_printed_19 : decode cX2_printed 19 = .ok (.iload_n 1, 1) := by decide +kernel
theorem dX2_printed_20 : decode cX2_printed 20 = .ok (.invokevirtual 94, 3) := by decide +kernel
theorem dX2_printed_23 : decode cX2_printed 23 = .ok (.ireturn, 1) := by decide +kernel
theorem dX2_trace_0 : decode cX2_trace 0 = .ok (.aload_n 0, 1) := by decide +kernel
theorem dX2_trace_1 : decode cX2_trace 1 = .ok (.getfield 27, 3) := by decide +kernel
theorem dX2_trace_4 : decode cX2_trace 4 = .ok (.iload_n 1, 1) := by decide +kernel
theorem dX2_trace_5 : decode cX2_trace 5 = .ok (.invokevirtual 94, 3) := by decide +kernel
theorem dX2_trace_8 : decode cX2_trace 8 = .ok (.ireturn, 1) := by decide +kernel
theorem dX2_interrupts_0 : decode cX2_interrupts 0 = .ok (.aload_n 0, 1) := by decide +kernel
theorem dX2_interrupts_1 : decode cX2_interrupts 1 = .ok (.getfield 97, 3) := by decide +kernel
theorem dX2_interrupts_4 : decode cX2_interrupts 4 = .ok (.ireturn, 1) := by decide +kernel
theorem dX2_skips_0 : decode cX2_skips 0 = .ok (.aload_n 0, 1) := by decide +kernel
theorem dX2_skips_1 : decode cX2_skips 1 = .ok (.getfield 100, 3) := by decide +kernel
theorem dX2_skips_4 : decode cX2_skips 4 = .ok (.ireturn, 1) := by decide +kernel
theorem dX2_isAddress_0 : decode cX2_isAddress 0 = .ok (.iload_n 0, 1) := by decide +kernel
theorem dX2_isAddress_1 : decode cX2_isAddress 1 = .ok (.ifCond .lt 14, 3) := by decide +kernel
theorem dX2_isAddress_4 : decode cX2_isAddress 4 = .ok (.iload_n 0, 1) := by decide +kernel
theorem dX2_isAddress_5 : decode cX2_isAddress 5 = .ok (.sipush 4096, 3) := by decide +kernel
theorem dX2_isAddress_8 : decode cX2_isAddress 8 = .ok (.if_icmp .ge 7, 3) := by decide +kernel
theorem dX2_isAddress_11 : decode cX2_isAddress 11 = .ok (.iconst 1, 1) := by decide +kernel
theorem dX2_isAddress_12 : decode cX2_isAddress 12 = .ok (.goto 4, 3) := by decide +kernel
theorem dX2_isAddress_15 : decode cX2_isAddress 15 = .ok (.iconst 0, 1) := by decide +kernel
theorem dX2_isAddress_16 : decode cX2_isAddress 16 = .ok (.ireturn, 1) := by decide +kernel
theorem dX2_bit_0 : decode cX2_bit 0 = .ok (.iload_n 0, 1) := by decide +kernel
theorem dX2_bit_1 : decode cX2_bit 1 = .ok (.ifCond .eq 7, 3) := by decide +kernel
theorem dX2_bit_4 : decode cX2_bit 4 = .ok (.iconst 1, 1) := by decide +kernel
theorem dX2_bit_5 : decode cX2_bit 5 = .ok (.goto 4, 3) := by decide +kernel
theorem dX2_bit_8 : decode cX2_bit 8 = .ok (.iconst 0, 1) := by decide +kernel
theorem dX2_bit_9 : decode cX2_bit 9 = .ok (.ireturn, 1) := by decide +kernel
theorem dX2_has_0 : decode cX2_has 0 = .ok (.iload_n 0, 1) := by decide +kernel
theorem dX2_has_1 : decode cX2_has 1 = .ok (.iload_n 1, 1) := by decide +kernel
theorem dX2_has_2 : decode cX2_has 2 = .ok (.iand, 1) := by decide +kernel
theorem dX2_has_3 : decode cX2_has 3 = .ok (.ifCond .eq 7, 3) := by decide +kernel
theorem dX2_has_6 : decode cX2_has 6 = .ok (.iconst 1, 1) := by decide +kernel
theorem dX2_has_7 : decode cX2_has 7 = .ok (.goto 4, 3) := by decide +kernel
theorem dX2_has_10 : decode cX2_has 10 = .ok (.iconst 0, 1) := by decide +kernel
theorem dX2_has_11 : decode cX2_has 11 = .ok (.ireturn, 1) := by decide +kernel
theorem dX2_next_0 : decode cX2_next 0 = .ok (.iload_n 0, 1) := by decide +kernel
theorem dX2_next_1 : decode cX2_next 1 = .ok (.iconst 1, 1) := by decide +kernel
theorem dX2_next_2 : decode cX2_next 2 = .ok (.iadd, 1) := by decide +kernel
theorem dX2_next_3 : decode cX2_next 3 = .ok (.sipush 4095, 3) := by decide +kernel
theorem dX2_next_6 : decode cX2_next 6 = .ok (.iand, 1) := by decide +kernel
theorem dX2_next_7 : decode cX2_next 7 = .ok (.ireturn, 1) := by decide +kernel
theorem dX2_wordAt_0 : decode cX2_wordAt 0 = .ok (.aload_n 0, 1) := by decide +kernel
theorem dX2_wordAt_1 : decode cX2_wordAt 1 = .ok (.getfield 9, 3) := by decide +kernel
theorem dX2_wordAt_4 : decode cX2_wordAt 4 = .ok (.iload_n 1, 1) := by decide +kernel
theorem dX2_wordAt_5 : decode cX2_wordAt 5 = .ok (.sipush 4095, 3) := by decide +kernel
theorem dX2_wordAt_8 : decode cX2_wordAt 8 = .ok (.iand, 1) := by decide +kernel
theorem dX2_wordAt_9 : decode cX2_wordAt 9 = .ok (.iaload, 1) := by decide +kernel
theorem dX2_wordAt_10 : decode cX2_wordAt 10 = .ok (.ireturn, 1) := by decide +kernel
theorem dX2_putWord_0 : decode cX2_putWord 0 = .ok (.aload_n 0, 1) := by decide +kernel
theorem dX2_putWord_1 : decode cX2_putWord 1 = .ok (.getfield 9, 3) := by decide +kernel
theorem dX2_putWord_4 : decode cX2_putWord 4 = .ok (.iload_n 1, 1) := by decide +kernel
theorem dX2_putWord_5 : decode cX2_putWord 5 = .ok (.sipush 4095, 3) := by decide +kernel
theorem dX2_putWord_8 : decode cX2_putWord 8 = .ok (.iand, 1) := by decide +kernel
theorem dX2_putWord_9 : decode cX2_putWord 9 = .ok (.iload_n 2, 1) := by decide +kernel
theorem dX2_putWord_10 : decode cX2_putWord 10 = .ok (.sipush 4095, 3) := by decide +kernel
theorem dX2_putWord_13 : decode cX2_putWord 13 = .ok (.iand, 1) := by decide +kernel
theorem dX2_putWord_14 : decode cX2_putWord 14 = .ok (.iastore, 1) := by decide +kernel
theorem dX2_putWord_15 : decode cX2_putWord 15 = .ok (.return_, 1) := by decide +kernel
theorem dX2_skipIf_0 : decode cX2_skipIf 0 = .ok (.iload_n 1, 1) := by decide +kernel
theorem dX2_skipIf_1 : decode cX2_skipIf 1 = .ok (.ifCond .eq 24, 3) := by decide +kernel
theorem dX2_skipIf_4 : decode cX2_skipIf 4 = .ok (.aload_n 0, 1) := by decide +kernel
theorem dX2_skipIf_5 : decode cX2_skipIf 5 = .ok (.aload_n 0, 1) := by decide +kernel
theorem dX2_skipIf_6 : decode cX2_skipIf 6 = .ok (.getfield 56, 3) := by decide +kernel
theorem dX2_skipIf_9 : decode cX2_skipIf 9 = .ok (.invokestatic 103, 3) := by decide +kernel
theorem dX2_skipIf_12 : decode cX2_skipIf 12 = .ok (.putfield 56, 3) := by decide +kernel
theorem dX2_skipIf_15 : decode cX2_skipIf 15 = .ok (.aload_n 0, 1) := by decide +kernel
theorem dX2_skipIf_16 : decode cX2_skipIf 16 = .ok (.dup, 1) := by decide +kernel
theorem dX2_skipIf_17 : decode cX2_skipIf 17 = .ok (.getfield 100, 3) := by decide +kernel
theorem dX2_skipIf_20 : decode cX2_skipIf 20 = .ok (.iconst 1, 1) := by decide +kernel
theorem dX2_skipIf_21 : decode cX2_skipIf 21 = .ok (.iadd, 1) := by decide +kernel
theorem dX2_skipIf_22 : decode cX2_skipIf 22 = .ok (.putfield 100, 3) := by decide +kernel
theorem dX2_skipIf_25 : decode cX2_skipIf 25 = .ok (.return_, 1) := by decide +kernel
theorem dX2_step_0 : decode cX2_step 0 = .ok (.aload_n 0, 1) := by decide +kernel
theorem dX2_step_1 : decode cX2_step 1 = .ok (.getfield 65, 3) := by decide +kernel
theorem dX2_step_4 : decode cX2_step 4 = .ok (.ifCond .eq 24, 3) := by decide +kernel
theorem dX2_step_7 : decode cX2_step 7 = .ok (.aload_n 0, 1) := by decide +kernel
theorem dX2_step_8 : decode cX2_step 8 = .ok (.getfield 16, 3) := by decide +kernel
theorem dX2_step_11 : decode cX2_step 11 = .ok (.getfield 76, 3) := by decide +kernel
theorem dX2_step_14 : decode cX2_step 14 = .ok (.ifCond .ne 10, 3) := by decide +kernel
theorem dX2_step_17 : decode cX2_step 17 = .ok (.aload_n 0, 1) := by decide +kernel
theorem dX2_step_18 : decode cX2_step 18 = .ok (.getfield 82, 3) := by decide +kernel
theorem dX2_step_21 : decode cX2_step 21 = .ok (.ifCond .eq 7, 3) := by decide +kernel
theorem dX2_step_24 : decode cX2_step 24 = .ok (.aload_n 0, 1) := by decide +kernel
theorem dX2_step_25 : decode cX2_step 25 = .ok (.invokevirtual 106, 3) := by decide +kernel
theorem dX2_step_28 : decode cX2_step 28 = .ok (.aload_n 0, 1) := by decide +kernel
theorem dX2_step_29 : decode cX2_step 29 = .ok (.getfield 73, 3) := by decide +kernel
theorem dX2_step_32 : decode cX2_step 32 = .ok (.ifCond .eq 13, 3) := by decide +kernel
theorem dX2_step_35 : decode cX2_step 35 = .ok (.aload_n 0, 1) := by decide +kernel
theorem dX2_step_36 : decode cX2_step 36 = .ok (.iconst 0, 1) := by decide +kernel
theorem dX2_step_37 : decode cX2_step 37 = .ok (.putfield 73, 3) := by decide +kernel
theorem dX2_step_40 : decode cX2_step 40 = .ok (.aload_n 0, 1) := by decide +kernel
theorem dX2_step_41 : decode cX2_step 41 = .ok (.iconst 1, 1) := by decide +kernel
theorem dX2_step_42 : decode cX2_step 42 = .ok (.putfield 65, 3) := by decide +kernel
theorem dX2_step_45 : decode cX2_step 45 = .ok (.aload_n 0, 1) := by decide +kernel
theorem dX2_step_46 : decode cX2_step 46 = .ok (.getfield 56, 3) := by decide +kernel
theorem dX2_step_49 : decode cX2_step 49 = .ok (.istore_n 1, 1) := by decide +kernel
theorem dX2_step_50 : decode cX2_step 50 = .ok (.aload_n 0, 1) := by decide +kernel
theorem dX2_step_51 : decode cX2_step 51 = .ok (.iload_n 1, 1) := by decide +kernel
theorem dX2_step_52 : decode cX2_step 52 = .ok (.invokevirtual 41, 3) := by decide +kernel
theorem dX2_step_55 : decode cX2_step 55 = .ok (.istore_n 2, 1) := by decide +kernel
theorem dX2_step_56 : decode cX2_step 56 = .ok (.aload_n 0, 1) := by decide +kernel
theorem dX2_step_57 : decode cX2_step 57 = .ok (.getfield 27, 3) := by decide +kernel
theorem dX2_step_60 : decode cX2_step 60 = .ok (.iload_n 1, 1) := by decide +kernel
theorem dX2_step_61 : decode cX2_step 61 = .ok (.invokevirtual 109, 3) := by decide +kernel
theorem dX2_step_64 : decode cX2_step 64 = .ok (.aload_n 0, 1) := by decide +kernel
theorem dX2_step_65 : decode cX2_step 65 = .ok (.iload_n 1, 1) := by decide +kernel
theorem dX2_step_66 : decode cX2_step 66 = .ok (.invokestatic 103, 3) := by decide +kernel
theorem dX2_step_69 : decode cX2_step 69 = .ok (.putfield 56, 3) := by decide +kernel
theorem dX2_step_72 : decode cX2_step 72 = .ok (.aload_n 0, 1) := by decide +kernel
theorem dX2_step_73 : decode cX2_step 73 = .ok (.iload_n 2, 1) := by decide +kernel
theorem dX2_step_74 : decode cX2_step 74 = .ok (.iload_n 1, 1) := by decide +kernel
theorem dX2_step_75 : decode cX2_step 75 = .ok (.invokevirtual 113, 3) := by decide +kernel
theorem dX2_step_78 : decode cX2_step 78 = .ok (.return_, 1) := by decide +kernel
theorem dX2_interrupt_0 : decode cX2_interrupt 0 = .ok (.aload_n 0, 1) := by decide +kernel
theorem dX2_interrupt_1 : decode cX2_interrupt 1 = .ok (.iconst 0, 1) := by decide +kernel
theorem dX2_interrupt_2 : decode cX2_interrupt 2 = .ok (.aload_n 0, 1) := by decide +kernel
theorem dX2_interrupt_3 : decode cX2_interrupt 3 = .ok (.getfield 56, 3) := by decide +kernel
theorem dX2_interrupt_6 : decode cX2_interrupt 6 = .ok (.invokevirtual 45, 3) := by decide +kernel
theorem dX2_interrupt_9 : decode cX2_interrupt 9 = .ok (.aload_n 0, 1) := by decide +kernel
theorem dX2_interrupt_10 : decode cX2_interrupt 10 = .ok (.iconst 1, 1) := by decide +kernel
theorem dX2_interrupt_11 : decode cX2_interrupt 11 = .ok (.putfield 56, 3) := by decide +kernel
theorem dX2_interrupt_14 : decode cX2_interrupt 14 = .ok (.aload_n 0, 1) := by decide +kernel
theorem dX2_interrupt_15 : decode cX2_interrupt 15 = .ok (.iconst 0, 1) := by decide +kernel
theorem dX2_interrupt_16 : decode cX2_interrupt 16 = .ok (.putfield 65, 3) := by decide +kernel
theorem dX2_interrupt_19 : decode cX2_interrupt 19 = .ok (.aload_n 0, 1) := by decide +kernel
theorem dX2_interrupt_20 : decode cX2_interrupt 20 = .ok (.dup, 1) := by decide +kernel
theorem dX2_interrupt_21 : decode cX2_interrupt 21 = .ok (.getfield 97, 3) := by decide +kernel
theorem dX2_interrupt_24 : decode cX2_interrupt 24 = .ok (.iconst 1, 1) := by decide +kernel
theorem dX2_interrupt_25 : decode cX2_interrupt 25 = .ok (.iadd, 1) := by decide +kernel
theorem dX2_interrupt_26 : decode cX2_interrupt 26 = .ok (.putfield 97, 3) := by decide +kernel
theorem dX2_interrupt_29 : decode cX2_interrupt 29 = .ok (.return_, 1) := by decide +kernel
theorem dX2_perform_0 : decode cX2_perform 0 = .ok (.iload_n 1, 1) := by decide +kernel
theorem dX2_perform_1 : decode cX2_perform 1 = .ok (.bipush 9, 2) := by decide +kernel
theorem dX2_perform_3 : decode cX2_perform 3 = .ok (.ishr, 1) := by decide +kernel
theorem dX2_perform_4 : decode cX2_perform 4 = .ok (.istore_n 3, 1) := by decide +kernel
theorem dX2_perform_5 : decode cX2_perform 5 = .ok (.iload_n 3, 1) := by decide +kernel
theorem dX2_perform_6 : decode cX2_perform 6 = .ok (.bipush 6, 2) := by decide +kernel
theorem dX2_perform_8 : decode cX2_perform 8 = .ok (.if_icmp .ge 17, 3) := by decide +kernel
theorem dX2_perform_11 : decode cX2_perform 11 = .ok (.aload_n 0, 1) := by decide +kernel
theorem dX2_perform_12 : decode cX2_perform 12 = .ok (.iload_n 3, 1) := by decide +kernel
theorem dX2_perform_13 : decode cX2_perform 13 = .ok (.aload_n 0, 1) := by decide +kernel
theorem dX2_perform_14 : decode cX2_perform 14 = .ok (.iload_n 1, 1) := by decide +kernel
theorem dX2_perform_15 : decode cX2_perform 15 = .ok (.iload_n 2, 1) := by decide +kernel
theorem dX2_perform_16 : decode cX2_perform 16 = .ok (.invokevirtual 116, 3) := by decide +kernel
theorem dX2_perform_19 : decode cX2_perform 19 = .ok (.invokevirtual 120, 3) := by decide +kernel
theorem dX2_perform_22 : decode cX2_perform 22 = .ok (.goto 56, 3) := by decide +kernel
theorem dX2_perform_25 : decode cX2_perform 25 = .ok (.iload_n 3, 1) := by decide +kernel
theorem dX2_perform_26 : decode cX2_perform 26 = .ok (.bipush 6, 2) := by decide +kernel
theorem dX2_perform_28 : decode cX2_perform 28 = .ok (.if_icmp .ne 11, 3) := by decide +kernel
theorem dX2_perform_31 : decode cX2_perform 31 = .ok (.aload_n 0, 1) := by decide +kernel
theorem dX2_perform_32 : decode cX2_perform 32 = .ok (.iload_n 1, 1) := by decide +kernel
theorem dX2_perform_33 : decode cX2_perform 33 = .ok (.invokevirtual 123, 3) := by decide +kernel
theorem dX2_perform_36 : decode cX2_perform 36 = .ok (.goto 42, 3) := by decide +kernel
theorem dX2_perform_39 : decode cX2_perform 39 = .ok (.iload_n 1, 1) := by decide +kernel
theorem dX2_perform_40 : decode cX2_perform 40 = .ok (.sipush 256, 3) := by decide +kernel
theorem dX2_perform_43 : decode cX2_perform 43 = .ok (.invokestatic 126, 3) := by decide +kernel
theorem dX2_perform_46 : decode cX2_perform 46 = .ok (.ifCond .ne 11, 3) := by decide +kernel
theorem dX2_perform_49 : decode cX2_perform 49 = .ok (.aload_n 0, 1) := by decide +kernel
theorem dX2_perform_50 : decode cX2_perform 50 = .ok (.iload_n 1, 1) := by decide +kernel
theorem dX2_perform_51 : decode cX2_perform 51 = .ok (.invokevirtual 130, 3) := by decide +kernel
theorem dX2_perform_54 : decode cX2_perform 54 = .ok (.goto 24, 3) := by decide +kernel
theorem dX2_perform_57 : decode cX2_perform 57 = .ok (.iload_n 1, 1) := by decide +kernel
theorem dX2_perform_58 : decode cX2_perform 58 = .ok (.iconst 1, 1) := by decide +kernel
theorem dX2_perform_59 : decode cX2_perform 59 = .ok (.invokestatic 126, 3) := by decide +kernel
theorem dX2_perform_62 : decode cX2_perform 62 = .ok (.ifCond .ne 11, 3) := by decide +kernel
theorem dX2_perform_65 : decode cX2_perform 65 = .ok (.aload_n 0, 1) := by decide +kernel
theorem dX2_perform_66 : decode cX2_perform 66 = .ok (.iload_n 1, 1) := by decide +kernel
theorem dX2_perform_67 : decode cX2_perform 67 = .ok (.invokevirtual 133, 3) := by decide +kernel
theorem dX2_perform_70 : decode cX2_perform 70 = .ok (.goto 8, 3) := by decide +kernel
theorem dX2_perform_73 : decode cX2_perform 73 = .ok (.aload_n 0, 1) := by decide +kernel
theorem dX2_perform_74 : decode cX2_perform 74 = .ok (.iload_n 1, 1) := by decide +kernel
theorem dX2_perform_75 : decode cX2_perform 75 = .ok (.invokevirtual 136, 3) := by decide +kernel
theorem dX2_perform_78 : decode cX2_perform 78 = .ok (.return_, 1) := by decide +kernel
theorem dX2_effectiveAddress_0 : decode cX2_effectiveAddress 0 = .ok (.iload_n 1, 1) := by decide +kernel
theorem dX2_effectiveAddress_1 : decode cX2_effectiveAddress 1 = .ok (.bipush 127, 2) := by decide +kernel
theorem dX2_effectiveAddress_3 : decode cX2_effectiveAddress 3 = .ok (.iand, 1) := by decide +kernel
theorem dX2_effectiveAddress_4 : decode cX2_effectiveAddress 4 = .ok (.istore_n 3, 1) := by decide +kernel
theorem dX2_effectiveAddress_5 : decode cX2_effectiveAddress 5 = .ok (.iload_n 1, 1) := by decide +kernel
theorem dX2_effectiveAddress_6 : decode cX2_effectiveAddress 6 = .ok (.sipush 128, 3) := by decide +kernel
theorem dX2_effectiveAddress_9 : decode cX2_effectiveAddress 9 = .ok (.invokestatic 126, 3) := by decide +kernel
theorem dX2_effectiveAddress_12 : decode cX2_effectiveAddress 12 = .ok (.ifCond .eq 11, 3) := by decide +kernel
theorem dX2_effectiveAddress_15 : decode cX2_effectiveAddress 15 = .ok (.iload_n 3, 1) := by decide +kernel
theorem dX2_effectiveAddress_16 : decode cX2_effectiveAddress 16 = .ok (.iload_n 2, 1) := by decide +kernel
theorem dX2_effectiveAddress_17 : decode cX2_effectiveAddress 17 = .ok (.sipush 3968, 3) := by decide +kernel
theorem dX2_effectiveAddress_20 : decode cX2_effectiveAddress 20 = .ok (.iand, 1) := by decide +kernel
theorem dX2_effectiveAddress_21 : decode cX2_effectiveAddress 21 = .ok (.iadd, 1) := by decide +kernel
theorem dX2_effectiveAddress_22 : decode cX2_effectiveAddress 22 = .ok (.istore_n 3, 1) := by decide +kernel
theorem dX2_effectiveAddress_23 : decode cX2_effectiveAddress 23 = .ok (.iload_n 1, 1) := by decide +kernel
theorem dX2_effectiveAddress_24 : decode cX2_effectiveAddress 24 = .ok (.sipush 256, 3) := by decide +kernel
theorem dX2_effectiveAddress_27 : decode cX2_effectiveAddress 27 = .ok (.invokestatic 126, 3) := by decide +kernel
theorem dX2_effectiveAddress_30 : decode cX2_effectiveAddress 30 = .ok (.ifCond .ne 5, 3) := by decide +kernel
theorem dX2_effectiveAddress_33 : decode cX2_effectiveAddress 33 = .ok (.iload_n 3, 1) := by decide +kernel
theorem dX2_effectiveAddress_34 : decode cX2_effectiveAddress 34 = .ok (.ireturn, 1) := by decide +kernel
theorem dX2_effectiveAddress_35 : decode cX2_effectiveAddress 35 = .ok (.iload_n 3, 1) := by decide +kernel
theorem dX2_effectiveAddress_36 : decode cX2_effectiveAddress 36 = .ok (.bipush 8, 2) := by decide +kernel
theorem dX2_effectiveAddress_38 : decode cX2_effectiveAddress 38 = .ok (.if_icmp .lt 22, 3) := by decide +kernel
theorem dX2_effectiveAddress_41 : decode cX2_effectiveAddress 41 = .ok (.iload_n 3, 1) := by decide +kernel
theorem dX2_effectiveAddress_42 : decode cX2_effectiveAddress 42 = .ok (.bipush 15, 2) := by decide +kernel
theorem dX2_effectiveAddress_44 : decode cX2_effectiveAddress 44 = .ok (.if_icmp .gt 16, 3) := by decide +kernel
theorem dX2_effectiveAddress_47 : decode cX2_effectiveAddress 47 = .ok (.aload_n 0, 1) := by decide +kernel
theorem dX2_effectiveAddress_48 : decode cX2_effectiveAddress 48 = .ok (.iload_n 3, 1) := by decide +kernel
theorem dX2_effectiveAddress_49 : decode cX2_effectiveAddress 49 = .ok (.aload_n 0, 1) := by decide +kernel
theorem dX2_effectiveAddress_50 : decode cX2_effectiveAddress 50 = .ok (.iload_n 3, 1) := by decide +kernel
theorem dX2_effectiveAddress_51 : decode cX2_effectiveAddress 51 = .ok (.invokevirtual 41, 3) := by decide +kernel
theorem dX2_effectiveAddress_54 : decode cX2_effectiveAddress 54 = .ok (.invokestatic 103, 3) := by decide +kernel
theorem dX2_effectiveAddress_57 : decode cX2_effectiveAddress 57 = .ok (.invokevirtual 45, 3) := by decide +kernel
theorem dX2_effectiveAddress_60 : decode cX2_effectiveAddress 60 = .ok (.aload_n 0, 1) := by decide +kernel
theorem dX2_effectiveAddress_61 : decode cX2_effectiveAddress 61 = .ok (.iload_n 3, 1) := by decide +kernel
theorem dX2_effectiveAddress_62 : decode cX2_effectiveAddress 62 = .ok (.invokevirtual 41, 3) := by decide +kernel
theorem dX2_effectiveAddress_65 : decode cX2_effectiveAddress 65 = .ok (.ireturn, 1) := by decide +kernel
theorem dX2_performAddressed_0 : decode cX2_performAddressed 0 = .ok (.iload_n 1, 1) := by decide +kernel
theorem dX2_performAddressed_1 : decode cX2_performAddressed 1 = .ok (.tableswitch 134 0 4 #[35, 52, 64, 97, 114], 35) := by decide +kernel
theorem dX2_performAddressed_36 : decode cX2_performAddressed 36 = .ok (.aload_n 0, 1) := by decide +kernel
theorem dX2_performAddressed_37 : decode cX2_performAddressed 37 = .ok (.dup, 1) := by decide +kernel
theorem dX2_performAddressed_38 : decode cX2_performAddressed 38 = .ok (.getfield 49, 3) := by decide +kernel
theorem dX2_performAddressed_41 : decode cX2_performAddressed 41 = .ok (.aload_n 0, 1) := by decide +kernel
theorem dX2_performAddressed_42 : decode cX2_performAddressed 42 = .ok (.iload_n 2, 1) := by decide +kernel
theorem dX2_performAddressed_43 : decode cX2_performAddressed 43 = .ok (.invokevirtual 41, 3) := by decide +kernel
theorem dX2_performAddressed_46 : decode cX2_performAddressed 46 = .ok (.iand, 1) := by decide +kernel
theorem dX2_performAddressed_47 : decode cX2_performAddressed 47 = .ok (.putfield 49, 3) := by decide +kernel
theorem dX2_performAddressed_50 : decode cX2_performAddressed 50 = .ok (.goto 90, 3) := by decide +kernel
theorem dX2_performAddressed_53 : decode cX2_performAddressed 53 = .ok (.aload_n 0, 1) := by decide +kernel
theorem dX2_performAddressed_54 : decode cX2_performAddressed 54 = .ok (.aload_n 0, 1) := by decide +kernel
theorem dX2_performAddressed_55 : decode cX2_performAddressed 55 = .ok (.iload_n 2, 1) := by decide +kernel
theorem dX2_performAddressed_56 : decode cX2_performAddressed 56 = .ok (.invokevirtual 41, 3) := by decide +kernel
theorem dX2_performAddressed_59 : decode cX2_performAddressed 59 = .ok (.invokevirtual 139, 3) := by decide +kernel
theorem dX2_performAddressed_62 : decode cX2_performAddressed 62 = .ok (.goto 78, 3) := by decide +kernel
theorem dX2_performAddressed_65 : decode cX2_performAddressed 65 = .ok (.aload_n 0, 1) := by decide +kernel
theorem dX2_performAddressed_66 : decode cX2_performAddressed 66 = .ok (.iload_n 2, 1) := by decide +kernel
theorem dX2_performAddressed_67 : decode cX2_performAddressed 67 = .ok (.aload_n 0, 1) := by decide +kernel
theorem dX2_performAddressed_68 : decode cX2_performAddressed 68 = .ok (.iload_n 2, 1) := by decide +kernel
theorem dX2_performAddressed_69 : decode cX2_performAddressed 69 = .ok (.invokevirtual 41, 3) := by decide +kernel
theorem dX2_performAddressed_72 : decode cX2_performAddressed 72 = .ok (.invokestatic 103, 3) := by decide +kernel
theorem dX2_performAddressed_75 : decode cX2_performAddressed 75 = .ok (.invokevirtual 45, 3) := by decide +kernel
theorem dX2_performAddressed_78 : decode cX2_performAddressed 78 = .ok (.aload_n 0, 1) := by decide +kernel
theorem dX2_performAddressed_79 : decode cX2_performAddressed 79 = .ok (.aload_n 0, 1) := by decide +kernel
theorem dX2_performAddressed_80 : decode cX2_performAddressed 80 = .ok (.iload_n 2, 1) := by decide +kernel
theorem dX2_performAddressed_81 : decode cX2_performAddressed 81 = .ok (.invokevirtual 41, 3) := by decide +kernel
theorem dX2_performAddressed_84 : decode cX2_performAddressed 84 = .ok (.ifCond .ne 7, 3) := by decide +kernel
theorem dX2_performAddressed_87 : decode cX2_performAddressed 87 = .ok (.iconst 1, 1) := by decide +kernel
theorem dX2_performAddressed_88 : decode cX2_performAddressed 88 = .ok (.goto 4, 3) := by decide +kernel
theorem dX2_performAddressed_91 : decode cX2_performAddressed 91 = .ok (.iconst 0, 1) := by decide +kernel
theorem dX2_performAddressed_92 : decode cX2_performAddressed 92 = .ok (.invokevirtual 140, 3) := by decide +kernel
theorem dX2_performAddressed_95 : decode cX2_performAddressed 95 = .ok (.goto 45, 3) := by decide +kernel
theorem dX2_performAddressed_98 : decode cX2_performAddressed 98 = .ok (.aload_n 0, 1) := by decide +kernel
theorem dX2_performAddressed_99 : decode cX2_performAddressed 99 = .ok (.iload_n 2, 1) := by decide +kernel
theorem dX2_performAddressed_100 : decode cX2_performAddressed 100 = .ok (.aload_n 0, 1) := by decide +kernel
theorem dX2_performAddressed_101 : decode cX2_performAddressed 101 = .ok (.getfield 49, 3) := by decide +kernel
theorem dX2_performAddressed_104 : decode cX2_performAddressed 104 = .ok (.invokevirtual 45, 3) := by decide +kernel
theorem dX2_performAddressed_107 : decode cX2_performAddressed 107 = .ok (.aload_n 0, 1) := by decide +kernel
theorem dX2_performAddressed_108 : decode cX2_performAddressed 108 = .ok (.iconst 0, 1) := by decide +kernel
theorem dX2_performAddressed_109 : decode cX2_performAddressed 109 = .ok (.putfield 49, 3) := by decide +kernel
theorem dX2_performAddressed_112 : decode cX2_performAddressed 112 = .ok (.goto 28, 3) := by decide +kernel
theorem dX2_performAddressed_115 : decode cX2_performAddressed 115 = .ok (.aload_n 0, 1) := by decide +kernel
theorem dX2_performAddressed_116 : decode cX2_performAddressed 116 = .ok (.iload_n 2, 1) := by decide +kernel
theorem dX2_performAddressed_117 : decode cX2_performAddressed 117 = .ok (.aload_n 0, 1) := by decide +kernel
theorem dX2_performAddressed_118 : decode cX2_performAddressed 118 = .ok (.getfield 56, 3) := by decide +kernel
theorem dX2_performAddressed_121 : decode cX2_performAddressed 121 = .ok (.invokevirtual 45, 3) := by decide +kernel
theorem dX2_performAddressed_124 : decode cX2_performAddressed 124 = .ok (.aload_n 0, 1) := by decide +kernel
theorem dX2_performAddressed_125 : decode cX2_performAddressed 125 = .ok (.iload_n 2, 1) := by decide +kernel
theorem dX2_performAddressed_126 : decode cX2_performAddressed 126 = .ok (.invokestatic 103, 3) := by decide +kernel
theorem dX2_performAddressed_129 : decode cX2_performAddressed 129 = .ok (.putfield 56, 3) := by decide +kernel
theorem dX2_performAddressed_132 : decode cX2_performAddressed 132 = .ok (.goto 8, 3) := by decide +kernel
theorem dX2_performAddressed_135 : decode cX2_performAddressed 135 = .ok (.aload_n 0, 1) := by decide +kernel
theorem dX2_performAddressed_136 : decode cX2_performAddressed 136 = .ok (.iload_n 2, 1) := by decide +kernel
theorem dX2_performAddressed_137 : decode cX2_performAddressed 137 = .ok (.putfield 56, 3) := by decide +kernel
theorem dX2_performAddressed_140 : decode cX2_performAddressed 140 = .ok (.return_, 1) := by decide +kernel
theorem dX2_add_0 : decode cX2_add 0 = .ok (.aload_n 0, 1) := by decide +kernel
theorem dX2_add_1 : decode cX2_add 1 = .ok (.getfield 49, 3) := by decide +kernel
theorem dX2_add_4 : decode cX2_add 4 = .ok (.iload_n 1, 1) := by decide +kernel
theorem dX2_add_5 : decode cX2_add 5 = .ok (.iadd, 1) := by decide +kernel
theorem dX2_add_6 : decode cX2_add 6 = .ok (.istore_n 2, 1) := by decide +kernel
theorem dX2_add_7 : decode cX2_add 7 = .ok (.iload_n 2, 1) := by decide +kernel
theorem dX2_add_8 : decode cX2_add 8 = .ok (.sipush 4095, 3) := by decide +kernel
theorem dX2_add_11 : decode cX2_add 11 = .ok (.if_icmp .le 13, 3) := by decide +kernel
theorem dX2_add_14 : decode cX2_add 14 = .ok (.aload_n 0, 1) := by decide +kernel
theorem dX2_add_15 : decode cX2_add 15 = .ok (.dup, 1) := by decide +kernel
theorem dX2_add_16 : decode cX2_add 16 = .ok (.getfield 53, 3) := by decide +kernel
theorem dX2_add_19 : decode cX2_add 19 = .ok (.iconst 1, 1) := by decide +kernel
theorem dX2_add_20 : decode cX2_add 20 = .ok (.ixor, 1) := by decide +kernel
theorem dX2_add_21 : decode cX2_add 21 = .ok (.putfield 53, 3) := by decide +kernel
theorem dX2_add_24 : decode cX2_add 24 = .ok (.aload_n 0, 1) := by decide +kernel
theorem dX2_add_25 : decode cX2_add 25 = .ok (.iload_n 2, 1) := by decide +kernel
theorem dX2_add_26 : decode cX2_add 26 = .ok (.sipush 4095, 3) := by decide +kernel
theorem dX2_add_29 : decode cX2_add 29 = .ok (.iand, 1) := by decide +kernel
theorem dX2_add_30 : decode cX2_add 30 = .ok (.putfield 49, 3) := by decide +kernel
theorem dX2_add_33 : decode cX2_add 33 = .ok (.return_, 1) := by decide +kernel
theorem dX2_performDevice_0 : decode cX2_performDevice 0 = .ok (.iload_n 1, 1) := by decide +kernel
theorem dX2_performDevice_1 : decode cX2_performDevice 1 = .ok (.tableswitch 310 3073 3110 #[167, 175, 310, 310, 310, 310, 310, 310, 310, 310, 310, 310, 310, 310, 310, 310, 310, 310, 310, 310, 310, 310, 310, 188, 199, 213, 310, 228, 310, 247, 310, 310, 268, 279, 310, 287, 310, 287], 167) := by decide +kernel
theorem dX2_performDevice_168 : decode cX2_performDevice 168 = .ok (.aload_n 0, 1) := by decide +kernel
theorem dX2_performDevice_169 : decode cX2_performDevice 169 = .ok (.iconst 1, 1) := by decide +kernel
theorem dX2_performDevice_170 : decode cX2_performDevice 170 = .ok (.putfield 73, 3) := by decide +kernel
theorem dX2_performDevice_173 : decode cX2_performDevice 173 = .ok (.goto 138, 3) := by decide +kernel
theorem dX2_performDevice_176 : decode cX2_performDevice 176 = .ok (.aload_n 0, 1) := by decide +kernel
theorem dX2_performDevice_177 : decode cX2_performDevice 177 = .ok (.iconst 0, 1) := by decide +kernel
theorem dX2_performDevice_178 : decode cX2_performDevice 178 = .ok (.putfield 65, 3) := by decide +kernel
theorem dX2_performDevice_181 : decode cX2_performDevice 181 = .ok (.aload_n 0, 1) := by decide +kernel
theorem dX2_performDevice_182 : decode cX2_performDevice 182 = .ok (.iconst 0, 1) := by decide +kernel
theorem dX2_performDevice_183 : decode cX2_performDevice 183 = .ok (.putfield 73, 3) := by decide +kernel
theorem dX2_performDevice_186 : decode cX2_performDevice 186 = .ok (.goto 125, 3) := by decide +kernel
theorem dX2_performDevice_189 : decode cX2_performDevice 189 = .ok (.aload_n 0, 1) := by decide +kernel
theorem dX2_performDevice_190 : decode cX2_performDevice 190 = .ok (.getfield 16, 3) := by decide +kernel
theorem dX2_performDevice_193 : decode cX2_performDevice 193 = .ok (.iconst 0, 1) := by decide +kernel
theorem dX2_performDevice_194 : decode cX2_performDevice 194 = .ok (.putfield 76, 3) := by decide +kernel
theorem dX2_performDevice_197 : decode cX2_performDevice 197 = .ok (.goto 114, 3) := by decide +kernel
theorem dX2_performDevice_200 : decode cX2_performDevice 200 = .ok (.aload_n 0, 1) := by decide +kernel
theorem dX2_performDevice_201 : decode cX2_performDevice 201 = .ok (.aload_n 0, 1) := by decide +kernel
theorem dX2_performDevice_202 : decode cX2_performDevice 202 = .ok (.getfield 16, 3) := by decide +kernel
theorem dX2_performDevice_205 : decode cX2_performDevice 205 = .ok (.getfield 76, 3) := by decide +kernel
theorem dX2_performDevice_208 : decode cX2_performDevice 208 = .ok (.invokevirtual 140, 3) := by decide +kernel
theorem dX2_performDevice_211 : decode cX2_performDevice 211 = .ok (.goto 100, 3) := by decide +kernel
theorem dX2_performDevice_214 : decode cX2_performDevice 214 = .ok (.aload_n 0, 1) := by decide +kernel
theorem dX2_performDevice_215 : decode cX2_performDevice 215 = .ok (.iconst 0, 1) := by decide +kernel
theorem dX2_performDevice_216 : decode cX2_performDevice 216 = .ok (.putfield 49, 3) := by decide +kernel
theorem dX2_performDevice_219 : decode cX2_performDevice 219 = .ok (.aload_n 0, 1) := by decide +kernel
theorem dX2_performDevice_220 : decode cX2_performDevice 220 = .ok (.getfield 16, 3) := by decide +kernel
theorem dX2_performDevice_223 : decode cX2_performDevice 223 = .ok (.invokevirtual 144, 3) := by decide +kernel
theorem dX2_performDevice_226 : decode cX2_performDevice 226 = .ok (.goto 85, 3) := by decide +kernel
theorem dX2_performDevice_229 : decode cX2_performDevice 229 = .ok (.aload_n 0, 1) := by decide +kernel
theorem dX2_performDevice_230 : decode cX2_performDevice 230 = .ok (.dup, 1) := by decide +kernel
theorem dX2_performDevice_231 : decode cX2_performDevice 231 = .ok (.getfield 49, 3) := by decide +kernel
theorem dX2_performDevice_234 : decode cX2_performDevice 234 = .ok (.aload_n 0, 1) := by decide +kernel
theorem dX2_performDevice_235 : decode cX2_performDevice 235 = .ok (.getfield 16, 3) := by decide +kernel
theorem dX2_performDevice_238 : decode cX2_performDevice 238 = .ok (.getfield 79, 3) := by decide +kernel
theorem dX2_performDevice_241 : decode cX2_performDevice 241 = .ok (.ior, 1) := by decide +kernel
theorem dX2_performDevice_242 : decode cX2_performDevice 242 = .ok (.putfield 49, 3) := by decide +kernel
theorem dX2_performDevice_245 : decode cX2_performDevice 245 = .ok (.goto 66, 3) := by decide +kernel
theorem dX2_performDevice_248 : decode cX2_performDevice 248 = .ok (.aload_n 0, 1) := by decide +kernel
theorem dX2_performDevice_249 : decode cX2_performDevice 249 = .ok (.aload_n 0, 1) := by decide +kernel
theorem dX2_performDevice_250 : decode cX2_performDevice 250 = .ok (.getfield 16, 3) := by decide +kernel
theorem dX2_performDevice_253 : decode cX2_performDevice 253 = .ok (.getfield 79, 3) := by decide +kernel
theorem dX2_performDevice_256 : decode cX2_performDevice 256 = .ok (.putfield 49, 3) := by decide +kernel
theorem dX2_performDevice_259 : decode cX2_performDevice 259 = .ok (.aload_n 0, 1) := by decide +kernel
theorem dX2_performDevice_260 : decode cX2_performDevice 260 = .ok (.getfield 16, 3) := by decide +kernel
theorem dX2_performDevice_263 : decode cX2_performDevice 263 = .ok (.invokevirtual 144, 3) := by decide +kernel
theorem dX2_performDevice_266 : decode cX2_performDevice 266 = .ok (.goto 45, 3) := by decide +kernel
theorem dX2_performDevice_269 : decode cX2_performDevice 269 = .ok (.aload_n 0, 1) := by decide +kernel
theorem dX2_performDevice_270 : decode cX2_performDevice 270 = .ok (.aload_n 0, 1) := by decide +kernel
theorem dX2_performDevice_271 : decode cX2_performDevice 271 = .ok (.getfield 82, 3) := by decide +kernel
theorem dX2_performDevice_274 : decode cX2_performDevice 274 = .ok (.invokevirtual 140, 3) := by decide +kernel
theorem dX2_performDevice_277 : decode cX2_performDevice 277 = .ok (.goto 34, 3) := by decide +kernel
theorem dX2_performDevice_280 : decode cX2_performDevice 280 = .ok (.aload_n 0, 1) := by decide +kernel
theorem dX2_performDevice_281 : decode cX2_performDevice 281 = .ok (.iconst 0, 1) := by decide +kernel
theorem dX2_performDevice_282 : decode cX2_performDevice 282 = .ok (.putfield 82, 3) := by decide +kernel
theorem dX2_performDevice_285 : decode cX2_performDevice 285 = .ok (.goto 26, 3) := by decide +kernel
theorem dX2_performDevice_288 : decode cX2_performDevice 288 = .ok (.aload_n 0, 1) := by decide +kernel
theorem dX2_performDevice_289 : decode cX2_performDevice 289 = .ok (.getfield 23, 3) := by decide +kernel
theorem dX2_performDevice_292 : decode cX2_performDevice 292 = .ok (.aload_n 0, 1) := by decide +kernel
theorem dX2_performDevice_293 : decode cX2_performDevice 293 = .ok (.getfield 49, 3) := by decide +kernel
theorem dX2_performDevice_296 : decode cX2_performDevice 296 = .ok (.sipush 255, 3) := by decide +kernel
theorem dX2_performDevice_299 : decode cX2_performDevice 299 = .ok (.iand, 1) := by decide +kernel
theorem dX2_performDevice_300 : decode cX2_performDevice 300 = .ok (.invokevirtual 109, 3) := by decide +kernel
theorem dX2_performDevice_303 : decode cX2_performDevice 303 = .ok (.aload_n 0, 1) := by decide +kernel
theorem dX2_performDevice_304 : decode cX2_performDevice 304 = .ok (.iconst 1, 1) := by decide +kernel
theorem dX2_performDevice_305 : decode cX2_performDevice 305 = .ok (.putfield 82, 3) := by decide +kernel
theorem dX2_performDevice_308 : decode cX2_performDevice 308 = .ok (.goto 3, 3) := by decide +kernel
theorem dX2_performDevice_311 : decode cX2_performDevice 311 = .ok (.return_, 1) := by decide +kernel
theorem dX2_changeAccumulator_0 : decode cX2_changeAccumulator 0 = .ok (.iload_n 1, 1) := by decide +kernel
theorem dX2_changeAccumulator_1 : decode cX2_changeAccumulator 1 = .ok (.sipush 128, 3) := by decide +kernel
theorem dX2_changeAccumulator_4 : decode cX2_changeAccumulator 4 = .ok (.invokestatic 126, 3) := by decide +kernel
theorem dX2_changeAccumulator_7 : decode cX2_changeAccumulator 7 = .ok (.ifCond .eq 8, 3) := by decide +kernel
theorem dX2_changeAccumulator_10 : decode cX2_changeAccumulator 10 = .ok (.aload_n 0, 1) := by decide +kernel
theorem dX2_changeAccumulator_11 : decode cX2_changeAccumulator 11 = .ok (.iconst 0, 1) := by decide +kernel
theorem dX2_changeAccumulator_12 : decode cX2_changeAccumulator 12 = .ok (.putfield 49, 3) := by decide +kernel
theorem dX2_changeAccumulator_15 : decode cX2_changeAccumulator 15 = .ok (.iload_n 1, 1) := by decide +kernel
theorem dX2_changeAccumulator_16 : decode cX2_changeAccumulator 16 = .ok (.bipush 64, 2) := by decide +kernel
theorem dX2_changeAccumulator_18 : decode cX2_changeAccumulator 18 = .ok (.invokestatic 126, 3) := by decide +kernel
theorem dX2_changeAccumulator_21 : decode cX2_changeAccumulator 21 = .ok (.ifCond .eq 8, 3) := by decide +kernel
theorem dX2_changeAccumulator_24 : decode cX2_changeAccumulator 24 = .ok (.aload_n 0, 1) := by decide +kernel
theorem dX2_changeAccumulator_25 : decode cX2_changeAccumulator 25 = .ok (.iconst 0, 1) := by decide +kernel
theorem dX2_changeAccumulator_26 : decode cX2_changeAccumulator 26 = .ok (.putfield 53, 3) := by decide +kernel
theorem dX2_changeAccumulator_29 : decode cX2_changeAccumulator 29 = .ok (.iload_n 1, 1) := by decide +kernel
theorem dX2_changeAccumulator_30 : decode cX2_changeAccumulator 30 = .ok (.bipush 32, 2) := by decide +kernel
theorem dX2_changeAccumulator_32 : decode cX2_changeAccumulator 32 = .ok (.invokestatic 126, 3) := by decide +kernel
theorem dX2_changeAccumulator_35 : decode cX2_changeAccumulator 35 = .ok (.ifCond .eq 15, 3) := by decide +kernel
theorem dX2_changeAccumulator_38 : decode cX2_changeAccumulator 38 = .ok (.aload_n 0, 1) := by decide +kernel
theorem dX2_changeAccumulator_39 : decode cX2_changeAccumulator 39 = .ok (.dup, 1) := by decide +kernel
theorem dX2_changeAccumulator_40 : decode cX2_changeAccumulator 40 = .ok (.getfield 49, 3) := by decide +kernel
theorem dX2_changeAccumulator_43 : decode cX2_changeAccumulator 43 = .ok (.sipush 4095, 3) := by decide +kernel
theorem dX2_changeAccumulator_46 : decode cX2_changeAccumulator 46 = .ok (.ixor, 1) := by decide +kernel
theorem dX2_changeAccumulator_47 : decode cX2_changeAccumulator 47 = .ok (.putfield 49, 3) := by decide +kernel
theorem dX2_changeAccumulator_50 : decode cX2_changeAccumulator 50 = .ok (.iload_n 1, 1) := by decide +kernel
theorem dX2_changeAccumulator_51 : decode cX2_changeAccumulator 51 = .ok (.bipush 16, 2) := by decide +kernel
theorem dX2_changeAccumulator_53 : decode cX2_changeAccumulator 53 = .ok (.invokestatic 126, 3) := by decide +kernel
theorem dX2_changeAccumulator_56 : decode cX2_changeAccumulator 56 = .ok (.ifCond .eq 13, 3) := by decide +kernel
theorem dX2_changeAccumulator_59 : decode cX2_changeAccumulator 59 = .ok (.aload_n 0, 1) := by decide +kernel
theorem dX2_changeAccumulator_60 : decode cX2_changeAccumulator 60 = .ok (.dup, 1) := by decide +kernel
theorem dX2_changeAccumulator_61 : decode cX2_changeAccumulator 61 = .ok (.getfield 53, 3) := by decide +kernel
theorem dX2_changeAccumulator_64 : decode cX2_changeAccumulator 64 = .ok (.iconst 1, 1) := by decide +kernel
theorem dX2_changeAccumulator_65 : decode cX2_changeAccumulator 65 = .ok (.ixor, 1) := by decide +kernel
theorem dX2_changeAccumulator_66 : decode cX2_changeAccumulator 66 = .ok (.putfield 53, 3) := by decide +kernel
theorem dX2_changeAccumulator_69 : decode cX2_changeAccumulator 69 = .ok (.iload_n 1, 1) := by decide +kernel
theorem dX2_changeAccumulator_70 : decode cX2_changeAccumulator 70 = .ok (.iconst 1, 1) := by decide +kernel
theorem dX2_changeAccumulator_71 : decode cX2_changeAccumulator 71 = .ok (.invokestatic 126, 3) := by decide +kernel
theorem dX2_changeAccumulator_74 : decode cX2_changeAccumulator 74 = .ok (.ifCond .eq 8, 3) := by decide +kernel
theorem dX2_changeAccumulator_77 : decode cX2_changeAccumulator 77 = .ok (.aload_n 0, 1) := by decide +kernel
theorem dX2_changeAccumulator_78 : decode cX2_changeAccumulator 78 = .ok (.iconst 1, 1) := by decide +kernel
theorem dX2_changeAccumulator_79 : decode cX2_changeAccumulator 79 = .ok (.invokevirtual 139, 3) := by decide +kernel
theorem dX2_changeAccumulator_82 : decode cX2_changeAccumulator 82 = .ok (.iload_n 1, 1) := by decide +kernel
theorem dX2_changeAccumulator_83 : decode cX2_changeAccumulator 83 = .ok (.iconst 2, 1) := by decide +kernel
theorem dX2_changeAccumulator_84 : decode cX2_changeAccumulator 84 = .ok (.invokestatic 126, 3) := by decide +kernel
theorem dX2_changeAccumulator_87 : decode cX2_changeAccumulator 87 = .ok (.ifCond .eq 7, 3) := by decide +kernel
theorem dX2_changeAccumulator_90 : decode cX2_changeAccumulator 90 = .ok (.iconst 2, 1) := by decide +kernel
theorem dX2_changeAccumulator_91 : decode cX2_changeAccumulator 91 = .ok (.goto 4, 3) := by decide +kernel
theorem dX2_changeAccumulator_94 : decode cX2_changeAccumulator 94 = .ok (.iconst 1, 1) := by decide +kernel
theorem dX2_changeAccumulator_95 : decode cX2_changeAccumulator 95 = .ok (.istore_n 2, 1) := by decide +kernel
theorem dX2_changeAccumulator_96 : decode cX2_changeAccumulator 96 = .ok (.iload_n 1, 1) := by decide +kernel
theorem dX2_changeAccumulator_97 : decode cX2_changeAccumulator 97 = .ok (.iconst 4, 1) := by decide +kernel
theorem dX2_changeAccumulator_98 : decode cX2_changeAccumulator 98 = .ok (.invokestatic 126, 3) := by decide +kernel
theorem dX2_changeAccumulator_101 : decode cX2_changeAccumulator 101 = .ok (.istore_n 3, 1) := by decide +kernel
theorem dX2_changeAccumulator_102 : decode cX2_changeAccumulator 102 = .ok (.iload_n 1, 1) := by decide +kernel
theorem dX2_changeAccumulator_103 : decode cX2_changeAccumulator 103 = .ok (.bipush 8, 2) := by decide +kernel
theorem dX2_changeAccumulator_105 : decode cX2_changeAccumulator 105 = .ok (.invokestatic 126, 3) := by decide +kernel
theorem dX2_changeAccumulator_108 : decode cX2_changeAccumulator 108 = .ok (.istore 4, 2) := by decide +kernel
theorem dX2_changeAccumulator_110 : decode cX2_changeAccumulator 110 = .ok (.iload_n 3, 1) := by decide +kernel
theorem dX2_changeAccumulator_111 : decode cX2_changeAccumulator 111 = .ok (.ifCond .eq 16, 3) := by decide +kernel
theorem dX2_changeAccumulator_114 : decode cX2_changeAccumulator 114 = .ok (.iload 4, 2) := by decide +kernel
theorem dX2_changeAccumulator_116 : decode cX2_changeAccumulator 116 = .ok (.ifCond .ne 11, 3) := by decide +kernel
theorem dX2_changeAccumulator_119 : decode cX2_changeAccumulator 119 = .ok (.aload_n 0, 1) := by decide +kernel
theorem dX2_changeAccumulator_120 : decode cX2_changeAccumulator 120 = .ok (.iload_n 2, 1) := by decide +kernel
theorem dX2_changeAccumulator_121 : decode cX2_changeAccumulator 121 = .ok (.invokevirtual 147, 3) := by decide +kernel
theorem dX2_changeAccumulator_124 : decode cX2_changeAccumulator 124 = .ok (.goto 20, 3) := by decide +kernel
theorem dX2_changeAccumulator_127 : decode cX2_changeAccumulator 127 = .ok (.iload 4, 2) := by decide +kernel
theorem dX2_changeAccumulator_129 : decode cX2_changeAccumulator 129 = .ok (.ifCond .eq 15, 3) := by decide +kernel
theorem dX2_changeAccumulator_132 : decode cX2_changeAccumulator 132 = .ok (.iload_n 3, 1) := by decide +kernel
theorem dX2_changeAccumulator_133 : decode cX2_changeAccumulator 133 = .ok (.ifCond .ne 11, 3) := by decide +kernel
theorem dX2_changeAccumulator_136 : decode cX2_changeAccumulator 136 = .ok (.aload_n 0, 1) := by decide +kernel
theorem dX2_changeAccumulator_137 : decode cX2_changeAccumulator 137 = .ok (.bipush 13, 2) := by decide +kernel
theorem dX2_changeAccumulator_139 : decode cX2_changeAccumulator 139 = .ok (.iload_n 2, 1) := by decide +kernel
theorem dX2_changeAccumulator_140 : decode cX2_changeAccumulator 140 = .ok (.isub, 1) := by decide +kernel
theorem dX2_changeAccumulator_141 : decode cX2_changeAccumulator 141 = .ok (.invokevirtual 147, 3) := by decide +kernel
theorem dX2_changeAccumulator_144 : decode cX2_changeAccumulator 144 = .ok (.return_, 1) := by decide +kernel
theorem dX2_turnLeft_0 : decode cX2_turnLeft 0 = .ok (.aload_n 0, 1) := by decide +kernel
theorem dX2_turnLeft_1 : decode cX2_turnLeft 1 = .ok (.getfield 53, 3) := by decide +kernel
theorem dX2_turnLeft_4 : decode cX2_turnLeft 4 = .ok (.bipush 12, 2) := by decide +kernel
theorem dX2_turnLeft_6 : decode cX2_turnLeft 6 = .ok (.ishl, 1) := by decide +kernel
theorem dX2_turnLeft_7 : decode cX2_turnLeft 7 = .ok (.aload_n 0, 1) := by decide +kernel
theorem dX2_turnLeft_8 : decode cX2_turnLeft 8 = .ok (.getfield 49, 3) := by decide +kernel
theorem dX2_turnLeft_11 : decode cX2_turnLeft 11 = .ok (.ior, 1) := by decide +kernel
theorem dX2_turnLeft_12 : decode cX2_turnLeft 12 = .ok (.istore_n 2, 1) := by decide +kernel
theorem dX2_turnLeft_13 : decode cX2_turnLeft 13 = .ok (.iload_n 2, 1) := by decide +kernel
theorem dX2_turnLeft_14 : decode cX2_turnLeft 14 = .ok (.iload_n 1, 1) := by decide +kernel
theorem dX2_turnLeft_15 : decode cX2_turnLeft 15 = .ok (.ishl, 1) := by decide +kernel
theorem dX2_turnLeft_16 : decode cX2_turnLeft 16 = .ok (.iload_n 2, 1) := by decide +kernel
theorem dX2_turnLeft_17 : decode cX2_turnLeft 17 = .ok (.bipush 13, 2) := by decide +kernel
theorem dX2_turnLeft_19 : decode cX2_turnLeft 19 = .ok (.iload_n 1, 1) := by decide +kernel
theorem dX2_turnLeft_20 : decode cX2_turnLeft 20 = .ok (.isub, 1) := by decide +kernel
theorem dX2_turnLeft_21 : decode cX2_turnLeft 21 = .ok (.ishr, 1) := by decide +kernel
theorem dX2_turnLeft_22 : decode cX2_turnLeft 22 = .ok (.ior, 1) := by decide +kernel
theorem dX2_turnLeft_23 : decode cX2_turnLeft 23 = .ok (.sipush 8191, 3) := by decide +kernel
theorem dX2_turnLeft_26 : decode cX2_turnLeft 26 = .ok (.iand, 1) := by decide +kernel
theorem dX2_turnLeft_27 : decode cX2_turnLeft 27 = .ok (.istore_n 3, 1) := by decide +kernel
theorem dX2_turnLeft_28 : decode cX2_turnLeft 28 = .ok (.aload_n 0, 1) := by decide +kernel
theorem dX2_turnLeft_29 : decode cX2_turnLeft 29 = .ok (.iload_n 3, 1) := by decide +kernel
theorem dX2_turnLeft_30 : decode cX2_turnLeft 30 = .ok (.bipush 12, 2) := by decide +kernel
theorem dX2_turnLeft_32 : decode cX2_turnLeft 32 = .ok (.ishr, 1) := by decide +kernel
theorem dX2_turnLeft_33 : decode cX2_turnLeft 33 = .ok (.putfield 53, 3) := by decide +kernel
theorem dX2_turnLeft_36 : decode cX2_turnLeft 36 = .ok (.aload_n 0, 1) := by decide +kernel
theorem dX2_turnLeft_37 : decode cX2_turnLeft 37 = .ok (.iload_n 3, 1) := by decide +kernel
theorem dX2_turnLeft_38 : decode cX2_turnLeft 38 = .ok (.sipush 4095, 3) := by decide +kernel
theorem dX2_turnLeft_41 : decode cX2_turnLeft 41 = .ok (.iand, 1) := by decide +kernel
theorem dX2_turnLeft_42 : decode cX2_turnLeft 42 = .ok (.putfield 49, 3) := by decide +kernel
theorem dX2_turnLeft_45 : decode cX2_turnLeft 45 = .ok (.return_, 1) := by decide +kernel
theorem dX2_testAccumulator_0 : decode cX2_testAccumulator 0 = .ok (.iload_n 1, 1) := by decide +kernel
theorem dX2_testAccumulator_1 : decode cX2_testAccumulator 1 = .ok (.bipush 64, 2) := by decide +kernel
theorem dX2_testAccumulator_3 : decode cX2_testAccumulator 3 = .ok (.invokestatic 126, 3) := by decide +kernel
theorem dX2_testAccumulator_6 : decode cX2_testAccumulator 6 = .ok (.ifCond .eq 13, 3) := by decide +kernel
theorem dX2_testAccumulator_9 : decode cX2_testAccumulator 9 = .ok (.aload_n 0, 1) := by decide +kernel
theorem dX2_testAccumulator_10 : decode cX2_testAccumulator 10 = .ok (.getfield 49, 3) := by decide +kernel
theorem dX2_testAccumulator_13 : decode cX2_testAccumulator 13 = .ok (.sipush 2048, 3) := by decide +kernel
theorem dX2_testAccumulator_16 : decode cX2_testAccumulator 16 = .ok (.if_icmp .ge 36, 3) := by decide +kernel
theorem dX2_testAccumulator_19 : decode cX2_testAccumulator 19 = .ok (.iload_n 1, 1) := by decide +kernel
theorem dX2_testAccumulator_20 : decode cX2_testAccumulator 20 = .ok (.bipush 32, 2) := by decide +kernel
theorem dX2_testAccumulator_22 : decode cX2_testAccumulator 22 = .ok (.invokestatic 126, 3) := by decide +kernel
theorem dX2_testAccumulator_25 : decode cX2_testAccumulator 25 = .ok (.ifCond .eq 10, 3) := by decide +kernel
theorem dX2_testAccumulator_28 : decode cX2_testAccumulator 28 = .ok (.aload_n 0, 1) := by decide +kernel
theorem dX2_testAccumulator_29 : decode cX2_testAccumulator 29 = .ok (.getfield 49, 3) := by decide +kernel
theorem dX2_testAccumulator_32 : decode cX2_testAccumulator 32 = .ok (.ifCond .eq 20, 3) := by decide +kernel
theorem dX2_testAccumulator_35 : decode cX2_testAccumulator 35 = .ok (.iload_n 1, 1) := by decide +kernel
theorem dX2_testAccumulator_36 : decode cX2_testAccumulator 36 = .ok (.bipush 16, 2) := by decide +kernel
theorem dX2_testAccumulator_38 : decode cX2_testAccumulator 38 = .ok (.invokestatic 126, 3) := by decide +kernel
theorem dX2_testAccumulator_41 : decode cX2_testAccumulator 41 = .ok (.ifCond .eq 15, 3) := by decide +kernel
theorem dX2_testAccumulator_44 : decode cX2_testAccumulator 44 = .ok (.aload_n 0, 1) := by decide +kernel
theorem dX2_testAccumulator_45 : decode cX2_testAccumulator 45 = .ok (.getfield 53, 3) := by decide +kernel
theorem dX2_testAccumulator_48 : decode cX2_testAccumulator 48 = .ok (.iconst 1, 1) := by decide +kernel
theorem dX2_testAccumulator_49 : decode cX2_testAccumulator 49 = .ok (.if_icmp .ne 7, 3) := by decide +kernel
theorem dX2_testAccumulator_52 : decode cX2_testAccumulator 52 = .ok (.iconst 1, 1) := by decide +kernel
theorem dX2_testAccumulator_53 : decode cX2_testAccumulator 53 = .ok (.goto 4, 3) := by decide +kernel
theorem dX2_testAccumulator_56 : decode cX2_testAccumulator 56 = .ok (.iconst 0, 1) := by decide +kernel
theorem dX2_testAccumulator_57 : decode cX2_testAccumulator 57 = .ok (.istore_n 2, 1) := by decide +kernel
theorem dX2_testAccumulator_58 : decode cX2_testAccumulator 58 = .ok (.aload_n 0, 1) := by decide +kernel
theorem dX2_testAccumulator_59 : decode cX2_testAccumulator 59 = .ok (.iload_n 2, 1) := by decide +kernel
theorem dX2_testAccumulator_60 : decode cX2_testAccumulator 60 = .ok (.iload_n 1, 1) := by decide +kernel
theorem dX2_testAccumulator_61 : decode cX2_testAccumulator 61 = .ok (.bipush 8, 2) := by decide +kernel
theorem dX2_testAccumulator_63 : decode cX2_testAccumulator 63 = .ok (.invokestatic 126, 3) := by decide +kernel
theorem dX2_testAccumulator_66 : decode cX2_testAccumulator 66 = .ok (.if_icmp .eq 7, 3) := by decide +kernel
theorem dX2_testAccumulator_69 : decode cX2_testAccumulator 69 = .ok (.iconst 1, 1) := by decide +kernel
theorem dX2_testAccumulator_70 : decode cX2_testAccumulator 70 = .ok (.goto 4, 3) := by decide +kernel
theorem dX2_testAccumulator_73 : decode cX2_testAccumulator 73 = .ok (.iconst 0, 1) := by decide +kernel
theorem dX2_testAccumulator_74 : decode cX2_testAccumulator 74 = .ok (.invokevirtual 140, 3) := by decide +kernel
theorem dX2_testAccumulator_77 : decode cX2_testAccumulator 77 = .ok (.iload_n 1, 1) := by decide +kernel
theorem dX2_testAccumulator_78 : decode cX2_testAccumulator 78 = .ok (.sipush 128, 3) := by decide +kernel
theorem dX2_testAccumulator_81 : decode cX2_testAccumulator 81 = .ok (.invokestatic 126, 3) := by decide +kernel
theorem dX2_testAccumulator_84 : decode cX2_testAccumulator 84 = .ok (.ifCond .eq 8, 3) := by decide +kernel
theorem dX2_testAccumulator_87 : decode cX2_testAccumulator 87 = .ok (.aload_n 0, 1) := by decide +kernel
theorem dX2_testAccumulator_88 : decode cX2_testAccumulator 88 = .ok (.iconst 0, 1) := by decide +kernel
theorem dX2_testAccumulator_89 : decode cX2_testAccumulator 89 = .ok (.putfield 49, 3) := by decide +kernel
theorem dX2_testAccumulator_92 : decode cX2_testAccumulator 92 = .ok (.iload_n 1, 1) := by decide +kernel
theorem dX2_testAccumulator_93 : decode cX2_testAccumulator 93 = .ok (.iconst 4, 1) := by decide +kernel
theorem dX2_testAccumulator_94 : decode cX2_testAccumulator 94 = .ok (.invokestatic 126, 3) := by decide +kernel
theorem dX2_testAccumulator_97 : decode cX2_testAccumulator 97 = .ok (.ifCond .eq 16, 3) := by decide +kernel
theorem dX2_testAccumulator_100 : decode cX2_testAccumulator 100 = .ok (.aload_n 0, 1) := by decide +kernel
theorem dX2_testAccumulator_101 : decode cX2_testAccumulator 101 = .ok (.dup, 1) := by decide +kernel
theorem dX2_testAccumulator_102 : decode cX2_testAccumulator 102 = .ok (.getfield 49, 3) := by decide +kernel
theorem dX2_testAccumulator_105 : decode cX2_testAccumulator 105 = .ok (.aload_n 0, 1) := by decide +kernel
theorem dX2_testAccumulator_106 : decode cX2_testAccumulator 106 = .ok (.getfield 62, 3) := by decide +kernel
theorem dX2_testAccumulator_109 : decode cX2_testAccumulator 109 = .ok (.ior, 1) := by decide +kernel
theorem dX2_testAccumulator_110 : decode cX2_testAccumulator 110 = .ok (.putfield 49, 3) := by decide +kernel
theorem dX2_testAccumulator_113 : decode cX2_testAccumulator 113 = .ok (.iload_n 1, 1) := by decide +kernel
theorem dX2_testAccumulator_114 : decode cX2_testAccumulator 114 = .ok (.iconst 2, 1) := by decide +kernel
theorem dX2_testAccumulator_115 : decode cX2_testAccumulator 115 = .ok (.invokestatic 126, 3) := by decide +kernel
theorem dX2_testAccumulator_118 : decode cX2_testAccumulator 118 = .ok (.ifCond .eq 8, 3) := by decide +kernel
theorem dX2_testAccumulator_121 : decode cX2_testAccumulator 121 = .ok (.aload_n 0, 1) := by decide +kernel
theorem dX2_testAccumulator_122 : decode cX2_testAccumulator 122 = .ok (.iconst 1, 1) := by decide +kernel
theorem dX2_testAccumulator_123 : decode cX2_testAccumulator 123 = .ok (.putfield 85, 3) := by decide +kernel
theorem dX2_testAccumulator_126 : decode cX2_testAccumulator 126 = .ok (.return_, 1) := by decide +kernel
theorem dX2_exchangeWithMq_0 : decode cX2_exchangeWithMq 0 = .ok (.iload_n 1, 1) := by decide +kernel
theorem dX2_exchangeWithMq_1 : decode cX2_exchangeWithMq 1 = .ok (.sipush 128, 3) := by decide +kernel
theorem dX2_exchangeWithMq_4 : decode cX2_exchangeWithMq 4 = .ok (.invokestatic 126, 3) := by decide +kernel
theorem dX2_exchangeWithMq_7 : decode cX2_exchangeWithMq 7 = .ok (.ifCond .eq 8, 3) := by decide +kernel
theorem dX2_exchangeWithMq_10 : decode cX2_exchangeWithMq 10 = .ok (.aload_n 0, 1) := by decide +kernel
theorem dX2_exchangeWithMq_11 : decode cX2_exchangeWithMq 11 = .ok (.iconst 0, 1) := by decide +kernel
theorem dX2_exchangeWithMq_12 : decode cX2_exchangeWithMq 12 = .ok (.putfield 49, 3) := by decide +kernel
theorem dX2_exchangeWithMq_15 : decode cX2_exchangeWithMq 15 = .ok (.iload_n 1, 1) := by decide +kernel
theorem dX2_exchangeWithMq_16 : decode cX2_exchangeWithMq 16 = .ok (.bipush 64, 2) := by decide +kernel
theorem dX2_exchangeWithMq_18 : decode cX2_exchangeWithMq 18 = .ok (.invokestatic 126, 3) := by decide +kernel
theorem dX2_exchangeWithMq_21 : decode cX2_exchangeWithMq 21 = .ok (.istore_n 2, 1) := by decide +kernel
theorem dX2_exchangeWithMq_22 : decode cX2_exchangeWithMq 22 = .ok (.iload_n 1, 1) := by decide +kernel
theorem dX2_exchangeWithMq_23 : decode cX2_exchangeWithMq 23 = .ok (.bipush 16, 2) := by decide +kernel
theorem dX2_exchangeWithMq_25 : decode cX2_exchangeWithMq 25 = .ok (.invokestatic 126, 3) := by decide +kernel
theorem dX2_exchangeWithMq_28 : decode cX2_exchangeWithMq 28 = .ok (.istore_n 3, 1) := by decide +kernel
theorem dX2_exchangeWithMq_29 : decode cX2_exchangeWithMq 29 = .ok (.aload_n 0, 1) := by decide +kernel
theorem dX2_exchangeWithMq_30 : decode cX2_exchangeWithMq 30 = .ok (.getfield 59, 3) := by decide +kernel
theorem dX2_exchangeWithMq_33 : decode cX2_exchangeWithMq 33 = .ok (.istore 4, 2) := by decide +kernel
theorem dX2_exchangeWithMq_35 : decode cX2_exchangeWithMq 35 = .ok (.iload_n 3, 1) := by decide +kernel
theorem dX2_exchangeWithMq_36 : decode cX2_exchangeWithMq 36 = .ok (.ifCond .eq 16, 3) := by decide +kernel
theorem dX2_exchangeWithMq_39 : decode cX2_exchangeWithMq 39 = .ok (.aload_n 0, 1) := by decide +kernel
theorem dX2_exchangeWithMq_40 : decode cX2_exchangeWithMq 40 = .ok (.aload_n 0, 1) := by decide +kernel
theorem dX2_exchangeWithMq_41 : decode cX2_exchangeWithMq 41 = .ok (.getfield 49, 3) := by decide +kernel
theorem dX2_exchangeWithMq_44 : decode cX2_exchangeWithMq 44 = .ok (.putfield 59, 3) := by decide +kernel
theorem dX2_exchangeWithMq_47 : decode cX2_exchangeWithMq 47 = .ok (.aload_n 0, 1) := by decide +kernel
theorem dX2_exchangeWithMq_48 : decode cX2_exchangeWithMq 48 = .ok (.iconst 0, 1) := by decide +kernel
theorem dX2_exchangeWithMq_49 : decode cX2_exchangeWithMq 49 = .ok (.putfield 49, 3) := by decide +kernel
theorem dX2_exchangeWithMq_52 : decode cX2_exchangeWithMq 52 = .ok (.iload_n 2, 1) := by decide +kernel
theorem dX2_exchangeWithMq_53 : decode cX2_exchangeWithMq 53 = .ok (.ifCond .eq 14, 3) := by decide +kernel
theorem dX2_exchangeWithMq_56 : decode cX2_exchangeWithMq 56 = .ok (.aload_n 0, 1) := by decide +kernel
theorem dX2_exchangeWithMq_57 : decode cX2_exchangeWithMq 57 = .ok (.dup, 1) := by decide +kernel
theorem dX2_exchangeWithMq_58 : decode cX2_exchangeWithMq 58 = .ok (.getfield 49, 3) := by decide +kernel
theorem dX2_exchangeWithMq_61 : decode cX2_exchangeWithMq 61 = .ok (.iload 4, 2) := by decide +kernel
theorem dX2_exchangeWithMq_63 : decode cX2_exchangeWithMq 63 = .ok (.ior, 1) := by decide +kernel
theorem dX2_exchangeWithMq_64 : decode cX2_exchangeWithMq 64 = .ok (.putfield 49, 3) := by decide +kernel
theorem dX2_exchangeWithMq_67 : decode cX2_exchangeWithMq 67 = .ok (.return_, 1) := by decide +kernel
end
section
theorem dX3_init_0 : decode cX3_init 0 = .ok (.aload_n 0, 1) := by decide +kernel
theorem dX3_init_1 : decode cX3_init 1 = .ok (.invokespecial 1, 3) := by decide +kernel
theorem dX3_init_4 : decode cX3_init 4 = .ok (.aload_n 0, 1) := by decide +kernel
theorem dX3_init_5 : decode cX3_init 5 = .ok (.sipush 4096, 3) := by decide +kernel
theorem dX3_init_8 : decode cX3_init 8 = .ok (.newarray .int, 2) := by decide +kernel
theorem dX3_init_10 : decode cX3_init 10 = .ok (.putfield 7, 3) := by decide +kernel
theorem dX3_init_13 : decode cX3_init 13 = .ok (.aload_n 0, 1) := by decide +kernel
theorem dX3_init_14 : decode cX3_init 14 = .ok (.bipush 11, 2) := by decide +kernel
theorem dX3_init_16 : decode cX3_init 16 = .ok (.newarray .int, 2) := by decide +kernel
theorem dX3_init_18 : decode cX3_init 18 = .ok (.putfield 13, 3) := by decide +kernel
theorem dX3_init_21 : decode cX3_init 21 = .ok (.aload_n 0, 1) := by decide +kernel
theorem dX3_init_22 : decode cX3_init 22 = .ok (.sipush 400, 3) := by decide +kernel
theorem dX3_init_25 : decode cX3_init 25 = .ok (.newarray .int, 2) := by decide +kernel
theorem dX3_init_27 : decode cX3_init 27 = .ok (.putfield 16, 3) := by decide +kernel
theorem dX3_init_30 : decode cX3_init 30 = .ok (.aload_n 0, 1) := by decide +kernel
theorem dX3_init_31 : decode cX3_init 31 = .ok (.bipush 64, 2) := by decide +kernel
theorem dX3_init_33 : decode cX3_init 33 = .ok (.newarray .int, 2) := by decide +kernel
theorem dX3_init_35 : decode cX3_init 35 = .ok (.putfield 19, 3) := by decide +kernel
theorem dX3_init_38 : decode cX3_init 38 = .ok (.aload_n 0, 1) := by decide +kernel
theorem dX3_init_39 : decode cX3_init 39 = .ok (.bipush 64, 2) := by decide +kernel
theorem dX3_init_41 : decode cX3_init 41 = .ok (.newarray .int, 2) := by decide +kernel
theorem dX3_init_43 : decode cX3_init 43 = .ok (.putfield 22, 3) := by decide +kernel
theorem dX3_init_46 : decode cX3_init 46 = .ok (.aload_n 0, 1) := by decide +kernel
theorem dX3_init_47 : decode cX3_init 47 = .ok (.iconst 0, 1) := by decide +kernel
theorem dX3_init_48 : decode cX3_init 48 = .ok (.putfield 25, 3) := by decide +kernel
theorem dX3_init_51 : decode cX3_init 51 = .ok (.return_, 1) := by decide +kernel
theorem dX3_feed_0 : decode cX3_feed 0 = .ok (.iload_n 1, 1) := by decide +kernel
theorem dX3_feed_1 : decode cX3_feed 1 = .ok (.ifCond .lt 20, 3) := by decide +kernel
theorem dX3_feed_4 : decode cX3_feed 4 = .ok (.iload_n 1, 1) := by decide +kernel
theorem dX3_feed_5 : decode cX3_feed 5 = .ok (.sipush 255, 3) := by decide +kernel
theorem dX3_feed_8 : decode cX3_feed 8 = .ok (.if_icmp .gt 13, 3) := by decide +kernel
theorem dX3_feed_11 : decode cX3_feed 11 = .ok (.aload_n 0, 1) := by decide +kernel
theorem dX3_feed_12 : decode cX3_feed 12 = .ok (.getfield 25, 3) := by decide +kernel
theorem dX3_feed_15 : decode cX3_feed 15 = .ok (.sipush 400, 3) := by decide +kernel
theorem dX3_feed_18 : decode cX3_feed 18 = .ok (.if_icmp .ne 5, 3) := by decide +kernel
theorem dX3_feed_21 : decode cX3_feed 21 = .ok (.iconst 0, 1) := by decide +kernel
theorem dX3_feed_22 : decode cX3_feed 22 = .ok (.ireturn, 1) := by decide +kernel
theorem dX3_feed_23 : decode cX3_feed 23 = .ok (.aload_n 0, 1) := by decide +kernel
theorem dX3_feed_24 : decode cX3_feed 24 = .ok (.getfield 16, 3) := by decide +kernel
theorem dX3_feed_27 : decode cX3_feed 27 = .ok (.aload_n 0, 1) := by decide +kernel
theorem dX3_feed_28 : decode cX3_feed 28 = .ok (.getfield 25, 3) := by decide +kernel
theorem dX3_feed_31 : decode cX3_feed 31 = .ok (.iload_n 1, 1) := by decide +kernel
theorem dX3_feed_32 : decode cX3_feed 32 = .ok (.iastore, 1) := by decide +kernel
theorem dX3_feed_33 : decode cX3_feed 33 = .ok (.aload_n 0, 1) := by decide +kernel
theorem dX3_feed_34 : decode cX3_feed 34 = .ok (.dup, 1) := by decide +kernel
theorem dX3_feed_35 : decode cX3_feed 35 = .ok (.getfield 25, 3) := by decide +kernel
theorem dX3_feed_38 : decode cX3_feed 38 = .ok (.iconst 1, 1) := by decide +kernel
theorem dX3_feed_39 : decode cX3_feed 39 = .ok (.iadd, 1) := by decide +kernel
theorem dX3_feed_40 : decode cX3_feed 40 = .ok (.putfield 25, 3) := by decide +kernel
theorem dX3_feed_43 : decode cX3_feed 43 = .ok (.iconst 1, 1) := by decide +kernel
theorem dX3_feed_44 : decode cX3_feed 44 = .ok (.ireturn, 1) := by decide +kernel
theorem dX3_waiting_0 : decode cX3_waiting 0 = .ok (.aload_n 0, 1) := by decide +kernel
theorem dX3_waiting_1 : decode cX3_waiting 1 = .ok (.getfield 25, 3) := by decide +kernel
theorem dX3_waiting_4 : decode cX3_waiting 4 = .ok (.aload_n 0, 1) := by decide +kernel
theorem dX3_waiting_5 : decode cX3_waiting 5 = .ok (.getfield 29, 3) := by decide +kernel
theorem dX3_waiting_8 : decode cX3_waiting 8 = .ok (.isub, 1) := by decide +kernel
theorem dX3_waiting_9 : decode cX3_waiting 9 = .ok (.ireturn, 1) := by decide +kernel
theorem dX3_poke_0 : decode cX3_poke 0 = .ok (.iload_n 1, 1) := by decide +kernel
theorem dX3_poke_1 : decode cX3_poke 1 = .ok (.ifCond .lt 10, 3) := by decide +kernel
theorem dX3_poke_4 : decode cX3_poke 4 = .ok (.iload_n 1, 1) := by decide +kernel
theorem dX3_poke_5 : decode cX3_poke 5 = .ok (.sipush 4095, 3) := by decide +kernel
theorem dX3_poke_8 : decode cX3_poke 8 = .ok (.if_icmp .le 5, 3) := by decide +kernel
theorem dX3_poke_11 : decode cX3_poke 11 = .ok (.iconst (-1), 1) := by decide +kernel
theorem dX3_poke_12 : decode cX3_poke 12 = .ok (.ireturn, 1) := by decide +kernel
theorem dX3_poke_13 : decode cX3_poke 13 = .ok (.aload_n 0, 1) := by decide +kernel
theorem dX3_poke_14 : decode cX3_poke 14 = .ok (.getfield 7, 3) := by decide +kernel
theorem dX3_poke_17 : decode cX3_poke 17 = .ok (.iload_n 1, 1) := by decide +kernel
theorem dX3_poke_18 : decode cX3_poke 18 = .ok (.iaload, 1) := by decide +kernel
theorem dX3_poke_19 : decode cX3_poke 19 = .ok (.istore_n 3, 1) := by decide +kernel
theorem dX3_poke_20 : decode cX3_poke 20 = .ok (.aload_n 0, 1) := by decide +kernel
theorem dX3_poke_21 : decode cX3_poke 21 = .ok (.getfield 7, 3) := by decide +kernel
theorem dX3_poke_24 : decode cX3_poke 24 = .ok (.iload_n 1, 1) := by decide +kernel
theorem dX3_poke_25 : decode cX3_poke 25 = .ok (.iload_n 2, 1) := by decide +kernel
theorem dX3_poke_26 : decode cX3_poke 26 = .ok (.sipush 4095, 3) := by decide +kernel
theorem dX3_poke_29 : decode cX3_poke 29 = .ok (.iand, 1) := by decide +kernel
theorem dX3_poke_30 : decode cX3_poke 30 = .ok (.iastore, 1) := by decide +kernel
theorem dX3_poke_31 : decode cX3_poke 31 = .ok (.iload_n 3, 1) := by decide +kernel
theorem dX3_poke_32 : decode cX3_poke 32 = .ok (.ireturn, 1) := by decide +kernel
theorem dX3_peek_0 : decode cX3_peek 0 = .ok (.iload_n 1, 1) := by decide +kernel
theorem dX3_peek_1 : decode cX3_peek 1 = .ok (.ifCond .lt 10, 3) := by decide +kernel
theorem dX3_peek_4 : decode cX3_peek 4 = .ok (.iload_n 1, 1) := by decide +kernel
theorem dX3_peek_5 : decode cX3_peek 5 = .ok (.sipush 4095, 3) := by decide +kernel
theorem dX3_peek_8 : decode cX3_peek 8 = .ok (.if_icmp .le 7, 3) := by decide +kernel
theorem dX3_peek_11 : decode cX3_peek 11 = .ok (.iconst (-1), 1) := by decide +kernel
theorem dX3_peek_12 : decode cX3_peek 12 = .ok (.goto 9, 3) := by decide +kernel
theorem dX3_peek_15 : decode cX3_peek 15 = .ok (.aload_n 0, 1) := by decide +kernel
theorem dX3_peek_16 : decode cX3_peek 16 = .ok (.getfield 7, 3) := by decide +kernel
theorem dX3_peek_19 : decode cX3_peek 19 = .ok (.iload_n 1, 1) := by decide +kernel
theorem dX3_peek_20 : decode cX3_peek 20 = .ok (.iaload, 1) := by decide +kernel
theorem dX3_peek_21 : decode cX3_peek 21 = .ok (.ireturn, 1) := by decide +kernel
theorem dX3_set_0 : decode cX3_set 0 = .ok (.iload_n 1, 1) := by decide +kernel
theorem dX3_set_1 : decode cX3_set 1 = .ok (.ifCond .lt 8, 3) := by decide +kernel
theorem dX3_set_4 : decode cX3_set 4 = .ok (.iload_n 1, 1) := by decide +kernel
theorem dX3_set_5 : decode cX3_set 5 = .ok (.iconst 4, 1) := by decide +kernel
theorem dX3_set_6 : decode cX3_set 6 = .ok (.if_icmp .le 5, 3) := by decide +kernel
theorem dX3_set_9 : decode cX3_set 9 = .ok (.iconst 0, 1) := by decide +kernel
theorem dX3_set_10 : decode cX3_set 10 = .ok (.ireturn, 1) := by decide +kernel
theorem dX3_set_11 : decode cX3_set 11 = .ok (.aload_n 0, 1) := by decide +kernel
theorem dX3_set_12 : decode cX3_set 12 = .ok (.getfield 13, 3) := by decide +kernel
theorem dX3_set_15 : decode cX3_set 15 = .ok (.iload_n 1, 1) := by decide +kernel
theorem dX3_set_16 : decode cX3_set 16 = .ok (.iload_n 1, 1) := by decide +kernel
theorem dX3_set_17 : decode cX3_set 17 = .ok (.iconst 1, 1) := by decide +kernel
theorem dX3_set_18 : decode cX3_set 18 = .ok (.if_icmp .ne 9, 3) := by decide +kernel
theorem dX3_set_21 : decode cX3_set 21 = .ok (.iload_n 2, 1) := by decide +kernel
theorem dX3_set_22 : decode cX3_set 22 = .ok (.iconst 1, 1) := by decide +kernel
theorem dX3_set_23 : decode cX3_set 23 = .ok (.iand, 1) := by decide +kernel
theorem dX3_set_24 : decode cX3_set 24 = .ok (.goto 8, 3) := by decide +kernel
theorem dX3_set_27 : decode cX3_set 27 = .ok (.iload_n 2, 1) := by decide +kernel
theorem dX3_set_28 : decode cX3_set 28 = .ok (.sipush 4095, 3) := by decide +kernel
theorem dX3_set_31 : decode cX3_set 31 = .ok (.iand, 1) := by decide +kernel
theorem dX3_set_32 : decode cX3_set 32 = .ok (.iastore, 1) := by decide +kernel
theorem dX3_set_33 : decode cX3_set 33 = .ok (.iconst 1, 1) := by decide +kernel
theorem dX3_set_34 : decode cX3_set 34 = .ok (.ireturn, 1) := by decide +kernel
theorem dX3_register_0 : decode cX3_register 0 = .ok (.iload_n 1, 1) := by decide +kernel
theorem dX3_register_1 : decode cX3_register 1 = .ok (.ifCond .lt 9, 3) := by decide +kernel
theorem dX3_register_4 : decode cX3_register 4 = .ok (.iload_n 1, 1) := by decide +kernel
theorem dX3_register_5 : decode cX3_register 5 = .ok (.bipush 10, 2) := by decide +kernel
theorem dX3_register_7 : decode cX3_register 7 = .ok (.if_icmp .le 7, 3) := by decide +kernel
theorem dX3_register_10 : decode cX3_register 10 = .ok (.iconst (-1), 1) := by decide +kernel
theorem dX3_register_11 : decode cX3_register 11 = .ok (.goto 9, 3) := by decide +kernel
theorem dX3_register_14 : decode cX3_register 14 = .ok (.aload_n 0, 1) := by decide +kernel
theorem dX3_register_15 : decode cX3_register 15 = .ok (.getfield 13, 3) := by decide +kernel
theorem dX3_register_18 : decode cX3_register 18 = .ok (.iload_n 1, 1) := by decide +kernel
theorem dX3_register_19 : decode cX3_register 19 = .ok (.iaload, 1) := by decide +kernel
theorem dX3_register_20 : decode cX3_register 20 = .ok (.ireturn, 1) := by decide +kernel
theorem dX3_go_0 : decode cX3_go 0 = .ok (.aload_n 0, 1) := by decide +kernel
theorem dX3_go_1 : decode cX3_go 1 = .ok (.getfield 13, 3) := by decide +kernel
theorem dX3_go_4 : decode cX3_go 4 = .ok (.bipush 10, 2) := by decide +kernel
theorem dX3_go_6 : decode cX3_go 6 = .ok (.iaload, 1) := by decide +kernel
theorem dX3_go_7 : decode cX3_go 7 = .ok (.iconst 1, 1) := by decide +kernel
theorem dX3_go_8 : decode cX3_go 8 = .ok (.if_icmp .ne 7, 3) := by decide +kernel
theorem dX3_go_11 : decode cX3_go 11 = .ok (.iconst 1, 1) := by decide +kernel
theorem dX3_go_12 : decode cX3_go 12 = .ok (.goto 4, 3) := by decide +kernel
theorem dX3_go_15 : decode cX3_go 15 = .ok (.iconst 0, 1) := by decide +kernel
theorem dX3_go_16 : decode cX3_go 16 = .ok (.istore_n 1, 1) := by decide +kernel
theorem dX3_go_17 : decode cX3_go 17 = .ok (.aload_n 0, 1) := by decide +kernel
theorem dX3_go_18 : decode cX3_go 18 = .ok (.getfield 13, 3) := by decide +kernel
theorem dX3_go_21 : decode cX3_go 21 = .ok (.bipush 10, 2) := by decide +kernel
theorem dX3_go_23 : decode cX3_go 23 = .ok (.iconst 0, 1) := by decide +kernel
theorem dX3_go_24 : decode cX3_go 24 = .ok (.iastore, 1) := by decide +kernel
theorem dX3_go_25 : decode cX3_go 25 = .ok (.iload_n 1, 1) := by decide +kernel
theorem dX3_go_26 : decode cX3_go 26 = .ok (.ireturn, 1) := by decide +kernel
theorem dX3_has_0 : decode cX3_has 0 = .ok (.iload_n 0, 1) := by decide +kernel
theorem dX3_has_1 : decode cX3_has 1 = .ok (.iload_n 1, 1) := by decide +kernel
theorem dX3_has_2 : decode cX3_has 2 = .ok (.idiv, 1) := by decide +kernel
theorem dX3_has_3 : decode cX3_has 3 = .ok (.iconst 2, 1) := by decide +kernel
theorem dX3_has_4 : decode cX3_has 4 = .ok (.irem, 1) := by decide +kernel
theorem dX3_has_5 : decode cX3_has 5 = .ok (.iconst 1, 1) := by decide +kernel
theorem dX3_has_6 : decode cX3_has 6 = .ok (.if_icmp .ne 7, 3) := by decide +kernel
theorem dX3_has_9 : decode cX3_has 9 = .ok (.iconst 1, 1) := by decide +kernel
theorem dX3_has_10 : decode cX3_has 10 = .ok (.goto 4, 3) := by decide +kernel
theorem dX3_has_13 : decode cX3_has 13 = .ok (.iconst 0, 1) := by decide +kernel
theorem dX3_has_14 : decode cX3_has 14 = .ok (.ireturn, 1) := by decide +kernel
theorem dX3_after_0 : decode cX3_after 0 = .ok (.iload_n 0, 1) := by decide +kernel
theorem dX3_after_1 : decode cX3_after 1 = .ok (.sipush 4095, 3) := by decide +kernel
theorem dX3_after_4 : decode cX3_after 4 = .ok (.if_icmp .ne 7, 3) := by decide +kernel
theorem dX3_after_7 : decode cX3_after 7 = .ok (.iconst 0, 1) := by decide +kernel
theorem dX3_after_8 : decode cX3_after 8 = .ok (.goto 6, 3) := by decide +kernel
theorem dX3_after_11 : decode cX3_after 11 = .ok (.iload_n 0, 1) := by decide +kernel
theorem dX3_after_12 : decode cX3_after 12 = .ok (.iconst 1, 1) := by decide +kernel
theorem dX3_after_13 : decode cX3_after 13 = .ok (.iadd, 1) := by decide +kernel
theorem dX3_after_14 : decode cX3_after 14 = .ok (.ireturn, 1) := by decide +kernel
theorem dX3_skip_0 : decode cX3_skip 0 = .ok (.aload_n 0, 1) := by decide +kernel
theorem dX3_skip_1 : decode cX3_skip 1 = .ok (.getfield 13, 3) := by decide +kernel
theorem dX3_skip_4 : decode cX3_skip 4 = .ok (.iconst 2, 1) := by decide +kernel
theorem dX3_skip_5 : decode cX3_skip 5 = .ok (.aload_n 0, 1) := by decide +kernel
theorem dX3_skip_6 : decode cX3_skip 6 = .ok (.getfield 13, 3) := by decide +kernel
theorem dX3_skip_9 : decode cX3_skip 9 = .ok (.iconst 2, 1) := by decide +kernel
theorem dX3_skip_10 : decode cX3_skip 10 = .ok (.iaload, 1) := by decide +kernel
theorem dX3_skip_11 : decode cX3_skip 11 = .ok (.invokestatic 32, 3) := by decide +kernel
theorem dX3_skip_14 : decode cX3_skip 14 = .ok (.iastore, 1) := by decide +kernel
theorem dX3_skip_15 : decode cX3_skip 15 = .ok (.aload_n 0, 1) := by decide +kernel
theorem dX3_skip_16 : decode cX3_skip 16 = .ok (.dup, 1) := by decide +kernel
theorem dX3_skip_17 : decode cX3_skip 17 = .ok (.getfield 36, 3) := by decide +kernel
theorem dX3_skip_20 : decode cX3_skip 20 = .ok (.iconst 1, 1) := by decide +kernel
theorem dX3_skip_21 : decode cX3_skip 21 = .ok (.iadd, 1) := by decide +kernel
theorem dX3_skip_22 : decode cX3_skip 22 = .ok (.putfield 36, 3) := by decide +kernel
theorem dX3_skip_25 : decode cX3_skip 25 = .ok (.return_, 1) := by decide +kernel
theorem dX3_advance_0 : decode cX3_advance 0 = .ok (.aload_n 0, 1) := by decide +kernel
theorem dX3_advance_1 : decode cX3_advance 1 = .ok (.getfield 13, 3) := by decide +kernel
theorem dX3_advance_4 : decode cX3_advance 4 = .ok (.bipush 7, 2) := by decide +kernel
theorem dX3_advance_6 : decode cX3_advance 6 = .ok (.iconst 0, 1) := by decide +kernel
theorem dX3_advance_7 : decode cX3_advance 7 = .ok (.iastore, 1) := by decide +kernel
theorem dX3_advance_8 : decode cX3_advance 8 = .ok (.aload_n 0, 1) := by decide +kernel
theorem dX3_advance_9 : decode cX3_advance 9 = .ok (.getfield 29, 3) := by decide +kernel
theorem dX3_advance_12 : decode cX3_advance 12 = .ok (.aload_n 0, 1) := by decide +kernel
theorem dX3_advance_13 : decode cX3_advance 13 = .ok (.getfield 25, 3) := by decide +kernel
theorem dX3_advance_16 : decode cX3_advance 16 = .ok (.if_icmp .ne 4, 3) := by decide +kernel
theorem dX3_advance_19 : decode cX3_advance 19 = .ok (.return_, 1) := by decide +kernel
theorem dX3_advance_20 : decode cX3_advance 20 = .ok (.aload_n 0, 1) := by decide +kernel
theorem dX3_advance_21 : decode cX3_advance 21 = .ok (.getfield 13, 3) := by decide +kernel
theorem dX3_advance_24 : decode cX3_advance 24 = .ok (.bipush 8, 2) := by decide +kernel
theorem dX3_advance_26 : decode cX3_advance 26 = .ok (.aload_n 0, 1) := by decide +kernel
theorem dX3_advance_27 : decode cX3_advance 27 = .ok (.getfield 16, 3) := by decide +kernel
theorem dX3_advance_30 : decode cX3_advance 30 = .ok (.aload_n 0, 1) := by decide +kernel
theorem dX3_advance_31 : decode cX3_advance 31 = .ok (.getfield 29, 3) := by decide +kernel
theorem dX3_advance_34 : decode cX3_advance 34 = .ok (.iaload, 1) := by decide +kernel
theorem dX3_advance_35 : decode cX3_advance 35 = .ok (.iastore, 1) := by decide +kernel
theorem dX3_advance_36 : decode cX3_advance 36 = .ok (.aload_n 0, 1) := by decide +kernel
theorem dX3_advance_37 : decode cX3_advance 37 = .ok (.dup, 1) := by decide +kernel
theorem dX3_advance_38 : decode cX3_advance 38 = .ok (.getfield 29, 3) := by decide +kernel
theorem dX3_advance_41 : decode cX3_advance 41 = .ok (.iconst 1, 1) := by decide +kernel
theorem dX3_advance_42 : decode cX3_advance 42 = .ok (.iadd, 1) := by decide +kernel
theorem dX3_advance_43 : decode cX3_advance 43 = .ok (.putfield 29, 3) := by decide +kernel
theorem dX3_advance_46 : decode cX3_advance 46 = .ok (.aload_n 0, 1) := by decide +kernel
theorem dX3_advance_47 : decode cX3_advance 47 = .ok (.getfield 13, 3) := by decide +kernel
theorem dX3_advance_50 : decode cX3_advance 50 = .ok (.bipush 7, 2) := by decide +kernel
theorem dX3_advance_52 : decode cX3_advance 52 = .ok (.iconst 1, 1) := by decide +kernel
theorem dX3_advance_53 : decode cX3_advance 53 = .ok (.iastore, 1) := by decide +kernel
theorem dX3_advance_54 : decode cX3_advance 54 = .ok (.return_, 1) := by decide +kernel
theorem dX3_add_0 : decode cX3_add 0 = .ok (.aload_n 0, 1) := by decide +kernel
theorem dX3_add_1 : decode cX3_add 1 = .ok (.getfield 13, 3) := by decide +kernel
theorem dX3_add_4 : decode cX3_add 4 = .ok (.iconst 0, 1) := by decide +kernel
theorem dX3_add_5 : decode cX3_add 5 = .ok (.iaload, 1) := by decide +kernel
theorem dX3_add_6 : decode cX3_add 6 = .ok (.iload_n 1, 1) := by decide +kernel
theorem dX3_add_7 : decode cX3_add 7 = .ok (.iadd, 1) := by decide +kernel
theorem dX3_add_8 : decode cX3_add 8 = .ok (.istore_n 2, 1) := by decide +kernel
theorem dX3_add_9 : decode cX3_add 9 = .ok (.iload_n 2, 1) := by decide +kernel
theorem dX3_add_10 : decode cX3_add 10 = .ok (.sipush 4095, 3) := by decide +kernel
theorem dX3_add_13 : decode cX3_add 13 = .ok (.if_icmp .le 23, 3) := by decide +kernel
theorem dX3_add_16 : decode cX3_add 16 = .ok (.iinc 2 (-4096), 6) := by decide +kernel
theorem dX3_add_22 : decode cX3_add 22 = .ok (.aload_n 0, 1) := by decide +kernel
theorem dX3_add_23 : decode cX3_add 23 = .ok (.getfield 13, 3) := by decide +kernel
theorem dX3_add_26 : decode cX3_add 26 = .ok (.iconst 1, 1) := by decide +kernel
theorem dX3_add_27 : decode cX3_add 27 = .ok (.iconst 1, 1) := by decide +kernel
theorem dX3_add_28 : decode cX3_add 28 = .ok (.aload_n 0, 1) := by decide +kernel
theorem dX3_add_29 : decode cX3_add 29 = .ok (.getfield 13, 3) := by decide +kernel
theorem dX3_add_32 : decode cX3_add 32 = .ok (.iconst 1, 1) := by decide +kernel
theorem dX3_add_33 : decode cX3_add 33 = .ok (.iaload, 1) := by decide +kernel
theorem dX3_add_34 : decode cX3_add 34 = .ok (.isub, 1) := by decide +kernel
theorem dX3_add_35 : decode cX3_add 35 = .ok (.iastore, 1) := by decide +kernel
theorem dX3_add_36 : decode cX3_add 36 = .ok (.aload_n 0, 1) := by decide +kernel
theorem dX3_add_37 : decode cX3_add 37 = .ok (.getfield 13, 3) := by decide +kernel
theorem dX3_add_40 : decode cX3_add 40 = .ok (.iconst 0, 1) := by decide +kernel
theorem dX3_add_41 : decode cX3_add 41 = .ok (.iload_n 2, 1) := by decide +kernel
theorem dX3_add_42 : decode cX3_add 42 = .ok (.iastore, 1) := by decide +kernel
theorem dX3_add_43 : decode cX3_add 43 = .ok (.return_, 1) := by decide +kernel
theorem dX3_step_0 : decode cX3_step 0 = .ok (.aload_n 0, 1) := by decide +kernel
theorem dX3_step_1 : decode cX3_step 1 = .ok (.getfield 13, 3) := by decide +kernel
theorem dX3_step_4 : decode cX3_step 4 = .ok (.iconst 5, 1) := by decide +kernel
theorem dX3_step_5 : decode cX3_step 5 = .ok (.iaload, 1) := by decide +kernel
theorem dX3_step_6 : decode cX3_step 6 = .ok (.iconst 1, 1) := by decide +kernel
theorem dX3_step_7 : decode cX3_step 7 = .ok (.if_icmp .ne 57, 3) := by decide +kernel
theorem dX3_step_10 : decode cX3_step 10 = .ok (.aload_n 0, 1) := by decide +kernel
theorem dX3_step_11 : decode cX3_step 11 = .ok (.getfield 13, 3) := by decide +kernel
theorem dX3_step_14 : decode cX3_step 14 = .ok (.bipush 7, 2) := by decide +kernel
theorem dX3_step_16 : decode cX3_step 16 = .ok (.iaload, 1) := by decide +kernel
theorem dX3_step_17 : decode cX3_step 17 = .ok (.aload_n 0, 1) := by decide +kernel
theorem dX3_step_18 : decode cX3_step 18 = .ok (.getfield 13, 3) := by decide +kernel
theorem dX3_step_21 : decode cX3_step 21 = .ok (.bipush 9, 2) := by decide +kernel
theorem dX3_step_23 : decode cX3_step 23 = .ok (.iaload, 1) := by decide +kernel
theorem dX3_step_24 : decode cX3_step 24 = .ok (.iadd, 1) := by decide +kernel
theorem dX3_step_25 : decode cX3_step 25 = .ok (.ifCond .le 39, 3) := by decide +kernel
theorem dX3_step_28 : decode cX3_step 28 = .ok (.aload_n 0, 1) := by decide +kernel
theorem dX3_step_29 : decode cX3_step 29 = .ok (.getfield 7, 3) := by decide +kernel
theorem dX3_step_32 : decode cX3_step 32 = .ok (.iconst 0, 1) := by decide +kernel
theorem dX3_step_33 : decode cX3_step 33 = .ok (.aload_n 0, 1) := by decide +kernel
theorem dX3_step_34 : decode cX3_step 34 = .ok (.getfield 13, 3) := by decide +kernel
theorem dX3_step_37 : decode cX3_step 37 = .ok (.iconst 2, 1) := by decide +kernel
theorem dX3_step_38 : decode cX3_step 38 = .ok (.iaload, 1) := by decide +kernel
theorem dX3_step_39 : decode cX3_step 39 = .ok (.iastore, 1) := by decide +kernel
theorem dX3_step_40 : decode cX3_step 40 = .ok (.aload_n 0, 1) := by decide +kernel
theorem dX3_step_41 : decode cX3_step 41 = .ok (.getfield 13, 3) := by decide +kernel
theorem dX3_step_44 : decode cX3_step 44 = .ok (.iconst 2, 1) := by decide +kernel
theorem dX3_step_45 : decode cX3_step 45 = .ok (.iconst 1, 1) := by decide +kernel
theorem dX3_step_46 : decode cX3_step 46 = .ok (.iastore, 1) := by decide +kernel
theorem dX3_step_47 : decode cX3_step 47 = .ok (.aload_n 0, 1) := by decide +kernel
theorem dX3_step_48 : decode cX3_step 48 = .ok (.getfield 13, 3) := by decide +kernel
theorem dX3_step_51 : decode cX3_step 51 = .ok (.iconst 5, 1) := by decide +kernel
theorem dX3_step_52 : decode cX3_step 52 = .ok (.iconst 0, 1) := by decide +kernel
theorem dX3_step_53 : decode cX3_step 53 = .ok (.iastore, 1) := by decide +kernel
theorem dX3_step_54 : decode cX3_step 54 = .ok (.aload_n 0, 1) := by decide +kernel
theorem dX3_step_55 : decode cX3_step 55 = .ok (.dup, 1) := by decide +kernel
theorem dX3_step_56 : decode cX3_step 56 = .ok (.getfield 39, 3) := by decide +kernel
theorem dX3_step_59 : decode cX3_step 59 = .ok (.iconst 1, 1) := by decide +kernel
theorem dX3_step_60 : decode cX3_step 60 = .ok (.iadd, 1) := by decide +kernel
theorem dX3_step_61 : decode cX3_step 61 = .ok (.putfield 39, 3) := by decide +kernel
theorem dX3_step_64 : decode cX3_step 64 = .ok (.aload_n 0, 1) := by decide +kernel
theorem dX3_step_65 : decode cX3_step 65 = .ok (.getfield 13, 3) := by decide +kernel
theorem dX3_step_68 : decode cX3_step 68 = .ok (.bipush 6, 2) := by decide +kernel
theorem dX3_step_70 : decode cX3_step 70 = .ok (.iaload, 1) := by decide +kernel
theorem dX3_step_71 : decode cX3_step 71 = .ok (.iconst 1, 1) := by decide +kernel
theorem dX3_step_72 : decode cX3_step 72 = .ok (.if_icmp .ne 18, 3) := by decide +kernel
theorem dX3_step_75 : decode cX3_step 75 = .ok (.aload_n 0, 1) := by decide +kernel
theorem dX3_step_76 : decode cX3_step 76 = .ok (.getfield 13, 3) := by decide +kernel
theorem dX3_step_79 : decode cX3_step 79 = .ok (.bipush 6, 2) := by decide +kernel
theorem dX3_step_81 : decode cX3_step 81 = .ok (.iconst 0, 1) := by decide +kernel
theorem dX3_step_82 : decode cX3_step 82 = .ok (.iastore, 1) := by decide +kernel
theorem dX3_step_83 : decode cX3_step 83 = .ok (.aload_n 0, 1) := by decide +kernel
theorem dX3_step_84 : decode cX3_step 84 = .ok (.getfield 13, 3) := by decide +kernel
theorem dX3_step_87 : decode cX3_step 87 = .ok (.iconst 5, 1) := by decide +kernel
theorem dX3_step_88 : decode cX3_step 88 = .ok (.iconst 1, 1) := by decide +kernel
theorem dX3_step_89 : decode cX3_step 89 = .ok (.iastore, 1) := by decide +kernel
theorem dX3_step_90 : decode cX3_step 90 = .ok (.aload_n 0, 1) := by decide +kernel
theorem dX3_step_91 : decode cX3_step 91 = .ok (.getfield 13, 3) := by decide +kernel
theorem dX3_step_94 : decode cX3_step 94 = .ok (.iconst 2, 1) := by decide +kernel
theorem dX3_step_95 : decode cX3_step 95 = .ok (.iaload, 1) := by decide +kernel
theorem dX3_step_96 : decode cX3_step 96 = .ok (.istore_n 1, 1) := by decide +kernel
theorem dX3_step_97 : decode cX3_step 97 = .ok (.aload_n 0, 1) := by decide +kernel
theorem dX3_step_98 : decode cX3_step 98 = .ok (.getfield 7, 3) := by decide +kernel
theorem dX3_step_101 : decode cX3_step 101 = .ok (.iload_n 1, 1) := by decide +kernel
theorem dX3_step_102 : decode cX3_step 102 = .ok (.iaload, 1) := by decide +kernel
theorem dX3_step_103 : decode cX3_step 103 = .ok (.istore_n 2, 1) := by decide +kernel
theorem dX3_step_104 : decode cX3_step 104 = .ok (.aload_n 0, 1) := by decide +kernel
theorem dX3_step_105 : decode cX3_step 105 = .ok (.getfield 13, 3) := by decide +kernel
theorem dX3_step_108 : decode cX3_step 108 = .ok (.iconst 2, 1) := by decide +kernel
theorem dX3_step_109 : decode cX3_step 109 = .ok (.iload_n 1, 1) := by decide +kernel
theorem dX3_step_110 : decode cX3_step 110 = .ok (.invokestatic 32, 3) := by decide +kernel
theorem dX3_step_113 : decode cX3_step 113 = .ok (.iastore, 1) := by decide +kernel
theorem dX3_step_114 : decode cX3_step 114 = .ok (.bipush 63, 2) := by decide +kernel
theorem dX3_step_116 : decode cX3_step 116 = .ok (.istore_n 3, 1) := by decide +kernel
theorem dX3_step_117 : decode cX3_step 117 = .ok (.iload_n 3, 1) := by decide +kernel
theorem dX3_step_118 : decode cX3_step 118 = .ok (.ifCond .le 23, 3) := by decide +kernel
theorem dX3_step_121 : decode cX3_step 121 = .ok (.aload_n 0, 1) := by decide +kernel
theorem dX3_step_122 : decode cX3_step 122 = .ok (.getfield 22, 3) := by decide +kernel
theorem dX3_step_125 : decode cX3_step 125 = .ok (.iload_n 3, 1) := by decide +kernel
theorem dX3_step_126 : decode cX3_step 126 = .ok (.aload_n 0, 1) := by decide +kernel
theorem dX3_step_127 : decode cX3_step 127 = .ok (.getfield 22, 3) := by decide +kernel
theorem dX3_step_130 : decode cX3_step 130 = .ok (.iload_n 3, 1) := by decide +kernel
theorem dX3_step_131 : decode cX3_step 131 = .ok (.iconst 1, 1) := by decide +kernel
theorem dX3_step_132 : decode cX3_step 132 = .ok (.isub, 1) := by decide +kernel
theorem dX3_step_133 : decode cX3_step 133 = .ok (.iaload, 1) := by decide +kernel
theorem dX3_step_134 : decode cX3_step 134 = .ok (.iastore, 1) := by decide +kernel
theorem dX3_step_135 : decode cX3_step 135 = .ok (.iinc 3 (-1), 3) := by decide +kernel
theorem dX3_step_138 : decode cX3_step 138 = .ok (.goto (-21), 3) := by decide +kernel
theorem dX3_step_141 : decode cX3_step 141 = .ok (.aload_n 0, 1) := by decide +kernel
theorem dX3_step_142 : decode cX3_step 142 = .ok (.getfield 22, 3) := by decide +kernel
theorem dX3_step_145 : decode cX3_step 145 = .ok (.iconst 0, 1) := by decide +kernel
theorem dX3_step_146 : decode cX3_step 146 = .ok (.iload_n 1, 1) := by decide +kernel
theorem dX3_step_147 : decode cX3_step 147 = .ok (.iastore, 1) := by decide +kernel
theorem dX3_step_148 : decode cX3_step 148 = .ok (.aload_n 0, 1) := by decide +kernel
theorem dX3_step_149 : decode cX3_step 149 = .ok (.dup, 1) := by decide +kernel
theorem dX3_step_150 : decode cX3_step 150 = .ok (.getfield 42, 3) := by decide +kernel
theorem dX3_step_153 : decode cX3_step 153 = .ok (.iconst 1, 1) := by decide +kernel
theorem dX3_step_154 : decode cX3_step 154 = .ok (.iadd, 1) := by decide +kernel
theorem dX3_step_155 : decode cX3_step 155 = .ok (.putfield 42, 3) := by decide +kernel
theorem dX3_step_158 : decode cX3_step 158 = .ok (.iload_n 2, 1) := by decide +kernel
theorem dX3_step_159 : decode cX3_step 159 = .ok (.sipush 512, 3) := by decide +kernel
theorem dX3_step_162 : decode cX3_step 162 = .ok (.idiv, 1) := by decide +kernel
theorem dX3_step_163 : decode cX3_step 163 = .ok (.istore_n 3, 1) := by decide +kernel
theorem dX3_step_164 : decode cX3_step 164 = .ok (.iload_n 3, 1) := by decide +kernel
theorem dX3_step_165 : decode cX3_step 165 = .ok (.bipush 6, 2) := by decide +kernel
theorem dX3_step_167 : decode cX3_step 167 = .ok (.if_icmp .ge 21, 3) := by decide +kernel
theorem dX3_step_170 : decode cX3_step 170 = .ok (.aload_n 0, 1) := by decide +kernel
theorem dX3_step_171 : decode cX3_step 171 = .ok (.iload_n 2, 1) := by decide +kernel
theorem dX3_step_172 : decode cX3_step 172 = .ok (.iload_n 1, 1) := by decide +kernel
theorem dX3_step_173 : decode cX3_step 173 = .ok (.invokevirtual 45, 3) := by decide +kernel
theorem dX3_step_176 : decode cX3_step 176 = .ok (.istore 4, 2) := by decide +kernel
theorem dX3_step_178 : decode cX3_step 178 = .ok (.aload_n 0, 1) := by decide +kernel
theorem dX3_step_179 : decode cX3_step 179 = .ok (.iload_n 3, 1) := by decide +kernel
theorem dX3_step_180 : decode cX3_step 180 = .ok (.iload 4, 2) := by decide +kernel
theorem dX3_step_182 : decode cX3_step 182 = .ok (.invokevirtual 49, 3) := by decide +kernel
theorem dX3_step_185 : decode cX3_step 185 = .ok (.goto 56, 3) := by decide +kernel
theorem dX3_step_188 : decode cX3_step 188 = .ok (.iload_n 3, 1) := by decide +kernel
theorem dX3_step_189 : decode cX3_step 189 = .ok (.bipush 6, 2) := by decide +kernel
theorem dX3_step_191 : decode cX3_step 191 = .ok (.if_icmp .ne 11, 3) := by decide +kernel
theorem dX3_step_194 : decode cX3_step 194 = .ok (.aload_n 0, 1) := by decide +kernel
theorem dX3_step_195 : decode cX3_step 195 = .ok (.iload_n 2, 1) := by decide +kernel
theorem dX3_step_196 : decode cX3_step 196 = .ok (.invokevirtual 53, 3) := by decide +kernel
theorem dX3_step_199 : decode cX3_step 199 = .ok (.goto 42, 3) := by decide +kernel
theorem dX3_step_202 : decode cX3_step 202 = .ok (.iload_n 2, 1) := by decide +kernel
theorem dX3_step_203 : decode cX3_step 203 = .ok (.sipush 256, 3) := by decide +kernel
theorem dX3_step_206 : decode cX3_step 206 = .ok (.invokestatic 57, 3) := by decide +kernel
theorem dX3_step_209 : decode cX3_step 209 = .ok (.ifCond .ne 11, 3) := by decide +kernel
theorem dX3_step_212 : decode cX3_step 212 = .ok (.aload_n 0, 1) := by decide +kernel
theorem dX3_step_213 : decode cX3_step 213 = .ok (.iload_n 2, 1) := by decide +kernel
theorem dX3_step_214 : decode cX3_step 214 = .ok (.invokevirtual 61, 3) := by decide +kernel
theorem dX3_step_217 : decode cX3_step 217 = .ok (.goto 24, 3) := by decide +kernel
theorem dX3_step_220 : decode cX3_step 220 = .ok (.iload_n 2, 1) := by decide +kernel
theorem dX3_step_221 : decode cX3_step 221 = .ok (.iconst 1, 1) := by decide +kernel
theorem dX3_step_222 : decode cX3_step 222 = .ok (.invokestatic 57, 3) := by decide +kernel
theorem dX3_step_225 : decode cX3_step 225 = .ok (.ifCond .ne 11, 3) := by decide +kernel
theorem dX3_step_228 : decode cX3_step 228 = .ok (.aload_n 0, 1) := by decide +kernel
theorem dX3_step_229 : decode cX3_step 229 = .ok (.iload_n 2, 1) := by decide +kernel
theorem dX3_step_230 : decode cX3_step 230 = .ok (.invokevirtual 64, 3) := by decide +kernel
theorem dX3_step_233 : decode cX3_step 233 = .ok (.goto 8, 3) := by decide +kernel
theorem dX3_step_236 : decode cX3_step 236 = .ok (.aload_n 0, 1) := by decide +kernel
theorem dX3_step_237 : decode cX3_step 237 = .ok (.iload_n 2, 1) := by decide +kernel
theorem dX3_step_238 : decode cX3_step 238 = .ok (.invokevirtual 67, 3) := by decide +kernel
theorem dX3_step_241 : decode cX3_step 241 = .ok (.return_, 1) := by decide +kernel
theorem dX3_place_0 : decode cX3_place 0 = .ok (.iload_n 1, 1) := by decide +kernel
theorem dX3_place_1 : decode cX3_place 1 = .ok (.sipush 128, 3) := by decide +kernel
theorem dX3_place_4 : decode cX3_place 4 = .ok (.irem, 1) := by decide +kernel
theorem dX3_place_5 : decode cX3_place 5 = .ok (.istore_n 3, 1) := by decide +kernel
theorem dX3_place_6 : decode cX3_place 6 = .ok (.iload_n 1, 1) := by decide +kernel
theorem dX3_place_7 : decode cX3_place 7 = .ok (.sipush 128, 3) := by decide +kernel
theorem dX3_place_10 : decode cX3_place 10 = .ok (.invokestatic 57, 3) := by decide +kernel
theorem dX3_place_13 : decode cX3_place 13 = .ok (.ifCond .eq 13, 3) := by decide +kernel
theorem dX3_place_16 : decode cX3_place 16 = .ok (.iload_n 3, 1) := by decide +kernel
theorem dX3_place_17 : decode cX3_place 17 = .ok (.iload_n 2, 1) := by decide +kernel
theorem dX3_place_18 : decode cX3_place 18 = .ok (.iload_n 2, 1) := by decide +kernel
theorem dX3_place_19 : decode cX3_place 19 = .ok (.sipush 128, 3) := by decide +kernel
theorem dX3_place_22 : decode cX3_place 22 = .ok (.irem, 1) := by decide +kernel
theorem dX3_place_23 : decode cX3_place 23 = .ok (.isub, 1) := by decide +kernel
theorem dX3_place_24 : decode cX3_place 24 = .ok (.iadd, 1) := by decide +kernel
theorem dX3_place_25 : decode cX3_place 25 = .ok (.istore_n 3, 1) := by decide +kernel
theorem dX3_place_26 : decode cX3_place 26 = .ok (.iload_n 1, 1) := by decide +kernel
theorem dX3_place_27 : decode cX3_place 27 = .ok (.sipush 256, 3) := by decide +kernel
theorem dX3_place_30 : decode cX3_place 30 = .ok (.invokestatic 57, 3) := by decide +kernel
theorem dX3_place_33 : decode cX3_place 33 = .ok (.ifCond .ne 5, 3) := by decide +kernel
theorem dX3_place_36 : decode cX3_place 36 = .ok (.iload_n 3, 1) := by decide +kernel
theorem dX3_place_37 : decode cX3_place 37 = .ok (.ireturn, 1) := by decide +kernel
theorem dX3_place_38 : decode cX3_place 38 = .ok (.iload_n 3, 1) := by decide +kernel
theorem dX3_place_39 : decode cX3_place 39 = .ok (.bipush 8, 2) := by decide +kernel
theorem dX3_place_41 : decode cX3_place 41 = .ok (.if_icmp .lt 24, 3) := by decide +kernel
theorem dX3_place_44 : decode cX3_place 44 = .ok (.iload_n 3, 1) := by decide +kernel
theorem dX3_place_45 : decode cX3_place 45 = .ok (.bipush 15, 2) := by decide +kernel
theorem dX3_place_47 : decode cX3_place 47 = .ok (.if_icmp .gt 18, 3) := by decide +kernel
theorem dX3_place_50 : decode cX3_place 50 = .ok (.aload_n 0, 1) := by decide +kernel
theorem dX3_place_51 : decode cX3_place 51 = .ok (.getfield 7, 3) := by decide +kernel
theorem dX3_place_54 : decode cX3_place 54 = .ok (.iload_n 3, 1) := by decide +kernel
theorem dX3_place_55 : decode cX3_place 55 = .ok (.aload_n 0, 1) := by decide +kernel
theorem dX3_place_56 : decode cX3_place 56 = .ok (.getfield 7, 3) := by decide +kernel
theorem dX3_place_59 : decode cX3_place 59 = .ok (.iload_n 3, 1) := by decide +kernel
theorem dX3_place_60 : decode cX3_place 60 = .ok (.iaload, 1) := by decide +kernel
theorem dX3_place_61 : decode cX3_place 61 = .ok (.invokestatic 32, 3) := by decide +kernel
theorem dX3_place_64 : decode cX3_place 64 = .ok (.iastore, 1) := by decide +kernel
theorem dX3_place_65 : decode cX3_place 65 = .ok (.aload_n 0, 1) := by decide +kernel
theorem dX3_place_66 : decode cX3_place 66 = .ok (.getfield 7, 3) := by decide +kernel
theorem dX3_place_69 : decode cX3_place 69 = .ok (.iload_n 3, 1) := by decide +kernel
theorem dX3_place_70 : decode cX3_place 70 = .ok (.iaload, 1) := by decide +kernel
theorem dX3_place_71 : decode cX3_place 71 = .ok (.ireturn, 1) := by decide +kernel
theorem dX3_reference_0 : decode cX3_reference 0 = .ok (.iload_n 1, 1) := by decide +kernel
theorem dX3_reference_1 : decode cX3_reference 1 = .ok (.ifCond .ne 22, 3) := by decide +kernel
theorem dX3_reference_4 : decode cX3_reference 4 = .ok (.aload_n 0, 1) := by decide +kernel
theorem dX3_reference_5 : decode cX3_reference 5 = .ok (.getfield 13, 3) := by decide +kernel
theorem dX3_reference_8 : decode cX3_reference 8 = .ok (.iconst 0, 1) := by decide +kernel
theorem dX3_reference_9 : decode cX3_reference 9 = .ok (.aload_n 0, 1) := by decide +kernel
theorem dX3_reference_10 : decode cX3_reference 10 = .ok (.getfield 13, 3) := by decide +kernel
theorem dX3_reference_13 : decode cX3_reference 13 = .ok (.iconst 0, 1) := by decide +kernel
theorem dX3_reference_14 : decode cX3_reference 14 = .ok (.iaload, 1) := by decide +kernel
theorem dX3_reference_15 : decode cX3_reference 15 = .ok (.aload_n 0, 1) := by decide +kernel
theorem dX3_reference_16 : decode cX3_reference 16 = .ok (.getfield 7, 3) := by decide +kernel
theorem dX3_reference_19 : decode cX3_reference 19 = .ok (.iload_n 2, 1) := by decide +kernel
theorem dX3_reference_20 : decode cX3_reference 20 = .ok (.iaload, 1) := by decide +kernel
theorem dX3_reference_21 : decode cX3_reference 21 = .ok (.iand, 1) := by decide +kernel
theorem dX3_reference_22 : decode cX3_reference 22 = .ok (.iastore, 1) := by decide +kernel
theorem dX3_reference_23 : decode cX3_reference 23 = .ok (.iload_n 1, 1) := by decide +kernel
theorem dX3_reference_24 : decode cX3_reference 24 = .ok (.iconst 1, 1) := by decide +kernel
theorem dX3_reference_25 : decode cX3_reference 25 = .ok (.if_icmp .ne 13, 3) := by decide +kernel
theorem dX3_reference_28 : decode cX3_reference 28 = .ok (.aload_n 0, 1) := by decide +kernel
theorem dX3_reference_29 : decode cX3_reference 29 = .ok (.aload_n 0, 1) := by decide +kernel
theorem dX3_reference_30 : decode cX3_reference 30 = .ok (.getfield 7, 3) := by decide +kernel
theorem dX3_reference_33 : decode cX3_reference 33 = .ok (.iload_n 2, 1) := by decide +kernel
theorem dX3_reference_34 : decode cX3_reference 34 = .ok (.iaload, 1) := by decide +kernel
theorem dX3_reference_35 : decode cX3_reference 35 = .ok (.invokevirtual 70, 3) := by decide +kernel
theorem dX3_reference_38 : decode cX3_reference 38 = .ok (.iload_n 1, 1) := by decide +kernel
theorem dX3_reference_39 : decode cX3_reference 39 = .ok (.iconst 2, 1) := by decide +kernel
theorem dX3_reference_40 : decode cX3_reference 40 = .ok (.if_icmp .ne 31, 3) := by decide +kernel
theorem dX3_reference_43 : decode cX3_reference 43 = .ok (.aload_n 0, 1) := by decide +kernel
theorem dX3_reference_44 : decode cX3_reference 44 = .ok (.getfield 7, 3) := by decide +kernel
theorem dX3_reference_47 : decode cX3_reference 47 = .ok (.iload_n 2, 1) := by decide +kernel
theorem dX3_reference_48 : decode cX3_reference 48 = .ok (.aload_n 0, 1) := by decide +kernel
theorem dX3_reference_49 : decode cX3_reference 49 = .ok (.getfield 7, 3) := by decide +kernel
theorem dX3_reference_52 : decode cX3_reference 52 = .ok (.iload_n 2, 1) := by decide +kernel
theorem dX3_reference_53 : decode cX3_reference 53 = .ok (.iaload, 1) := by decide +kernel
theorem dX3_reference_54 : decode cX3_reference 54 = .ok (.invokestatic 32, 3) := by decide +kernel
theorem dX3_reference_57 : decode cX3_reference 57 = .ok (.iastore, 1) := by decide +kernel
theorem dX3_reference_58 : decode cX3_reference 58 = .ok (.aload_n 0, 1) := by decide +kernel
theorem dX3_reference_59 : decode cX3_reference 59 = .ok (.getfield 7, 3) := by decide +kernel
theorem dX3_reference_62 : decode cX3_reference 62 = .ok (.iload_n 2, 1) := by decide +kernel
theorem dX3_reference_63 : decode cX3_reference 63 = .ok (.iaload, 1) := by decide +kernel
theorem dX3_reference_64 : decode cX3_reference 64 = .ok (.ifCond .ne 7, 3) := by decide +kernel
theorem dX3_reference_67 : decode cX3_reference 67 = .ok (.aload_n 0, 1) := by decide +kernel
theorem dX3_reference_68 : decode cX3_reference 68 = .ok (.invokevirtual 73, 3) := by decide +kernel
theorem dX3_reference_71 : decode cX3_reference 71 = .ok (.iload_n 1, 1) := by decide +kernel
theorem dX3_reference_72 : decode cX3_reference 72 = .ok (.iconst 3, 1) := by decide +kernel
theorem dX3_reference_73 : decode cX3_reference 73 = .ok (.if_icmp .ne 22, 3) := by decide +kernel
theorem dX3_reference_76 : decode cX3_reference 76 = .ok (.aload_n 0, 1) := by decide +kernel
theorem dX3_reference_77 : decode cX3_reference 77 = .ok (.getfield 7, 3) := by decide +kernel
theorem dX3_reference_80 : decode cX3_reference 80 = .ok (.iload_n 2, 1) := by decide +kernel
theorem dX3_reference_81 : decode cX3_reference 81 = .ok (.aload_n 0, 1) := by decide +kernel
theorem dX3_reference_82 : decode cX3_reference 82 = .ok (.getfield 13, 3) := by decide +kernel
theorem dX3_reference_85 : decode cX3_reference 85 = .ok (.iconst 0, 1) := by decide +kernel
theorem dX3_reference_86 : decode cX3_reference 86 = .ok (.iaload, 1) := by decide +kernel
theorem dX3_reference_87 : decode cX3_reference 87 = .ok (.iastore, 1) := by decide +kernel
theorem dX3_reference_88 : decode cX3_reference 88 = .ok (.aload_n 0, 1) := by decide +kernel
theorem dX3_reference_89 : decode cX3_reference 89 = .ok (.getfield 13, 3) := by decide +kernel
theorem dX3_reference_92 : decode cX3_reference 92 = .ok (.iconst 0, 1) := by decide +kernel
theorem dX3_reference_93 : decode cX3_reference 93 = .ok (.iconst 0, 1) := by decide +kernel
theorem dX3_reference_94 : decode cX3_reference 94 = .ok (.iastore, 1) := by decide +kernel
theorem dX3_reference_95 : decode cX3_reference 95 = .ok (.iload_n 1, 1) := by decide +kernel
theorem dX3_reference_96 : decode cX3_reference 96 = .ok (.iconst 4, 1) := by decide +kernel
theorem dX3_reference_97 : decode cX3_reference 97 = .ok (.if_icmp .ne 25, 3) := by decide +kernel
theorem dX3_reference_100 : decode cX3_reference 100 = .ok (.aload_n 0, 1) := by decide +kernel
theorem dX3_reference_101 : decode cX3_reference 101 = .ok (.getfield 7, 3) := by decide +kernel
theorem dX3_reference_104 : decode cX3_reference 104 = .ok (.iload_n 2, 1) := by decide +kernel
theorem dX3_reference_105 : decode cX3_reference 105 = .ok (.aload_n 0, 1) := by decide +kernel
theorem dX3_reference_106 : decode cX3_reference 106 = .ok (.getfield 13, 3) := by decide +kernel
theorem dX3_reference_109 : decode cX3_reference 109 = .ok (.iconst 2, 1) := by decide +kernel
theorem dX3_reference_110 : decode cX3_reference 110 = .ok (.iaload, 1) := by decide +kernel
theorem dX3_reference_111 : decode cX3_reference 111 = .ok (.iastore, 1) := by decide +kernel
theorem dX3_reference_112 : decode cX3_reference 112 = .ok (.aload_n 0, 1) := by decide +kernel
theorem dX3_reference_113 : decode cX3_reference 113 = .ok (.getfield 13, 3) := by decide +kernel
theorem dX3_reference_116 : decode cX3_reference 116 = .ok (.iconst 2, 1) := by decide +kernel
theorem dX3_reference_117 : decode cX3_reference 117 = .ok (.iload_n 2, 1) := by decide +kernel
theorem dX3_reference_118 : decode cX3_reference 118 = .ok (.invokestatic 32, 3) := by decide +kernel
theorem dX3_reference_121 : decode cX3_reference 121 = .ok (.iastore, 1) := by decide +kernel
theorem dX3_reference_122 : decode cX3_reference 122 = .ok (.iload_n 1, 1) := by decide +kernel
theorem dX3_reference_123 : decode cX3_reference 123 = .ok (.iconst 5, 1) := by decide +kernel
theorem dX3_reference_124 : decode cX3_reference 124 = .ok (.if_icmp .ne 10, 3) := by decide +kernel
theorem dX3_reference_127 : decode cX3_reference 127 = .ok (.aload_n 0, 1) := by decide +kernel
theorem dX3_reference_128 : decode cX3_reference 128 = .ok (.getfield 13, 3) := by decide +kernel
theorem dX3_reference_131 : decode cX3_reference 131 = .ok (.iconst 2, 1) := by decide +kernel
theorem dX3_reference_132 : decode cX3_reference 132 = .ok (.iload_n 2, 1) := by decide +kernel
theorem dX3_reference_133 : decode cX3_reference 133 = .ok (.iastore, 1) := by decide +kernel
theorem dX3_reference_134 : decode cX3_reference 134 = .ok (.return_, 1) := by decide +kernel
theorem dX3_device_0 : decode cX3_device 0 = .ok (.iload_n 1, 1) := by decide +kernel
theorem dX3_device_1 : decode cX3_device 1 = .ok (.sipush 3072, 3) := by decide +kernel
theorem dX3_device_4 : decode cX3_device 4 = .ok (.isub, 1) := by decide +kernel
theorem dX3_device_5 : decode cX3_device 5 = .ok (.istore_n 2, 1) := by decide +kernel
theorem dX3_device_6 : decode cX3_device 6 = .ok (.iload_n 2, 1) := by decide +kernel
theorem dX3_device_7 : decode cX3_device 7 = .ok (.iconst 1, 1) := by decide +kernel
theorem dX3_device_8 : decode cX3_device 8 = .ok (.if_icmp .ne 11, 3) := by decide +kernel
theorem dX3_device_11 : decode cX3_device 11 = .ok (.aload_n 0, 1) := by decide +kernel
theorem dX3_device_12 : decode cX3_device 12 = .ok (.getfield 13, 3) := by decide +kernel
theorem dX3_device_15 : decode cX3_device 15 = .ok (.bipush 6, 2) := by decide +kernel
theorem dX3_device_17 : decode cX3_device 17 = .ok (.iconst 1, 1) := by decide +kernel
theorem dX3_device_18 : decode cX3_device 18 = .ok (.iastore, 1) := by decide +kernel
theorem dX3_device_19 : decode cX3_device 19 = .ok (.iload_n 2, 1) := by decide +kernel
theorem dX3_device_20 : decode cX3_device 20 = .ok (.iconst 2, 1) := by decide +kernel
theorem dX3_device_21 : decode cX3_device 21 = .ok (.if_icmp .ne 18, 3) := by decide +kernel
theorem dX3_device_24 : decode cX3_device 24 = .ok (.aload_n 0, 1) := by decide +kernel
theorem dX3_device_25 : decode cX3_device 25 = .ok (.getfield 13, 3) := by decide +kernel
theorem dX3_device_28 : decode cX3_device 28 = .ok (.iconst 5, 1) := by decide +kernel
theorem dX3_device_29 : decode cX3_device 29 = .ok (.iconst 0, 1) := by decide +kernel
theorem dX3_device_30 : decode cX3_device 30 = .ok (.iastore, 1) := by decide +kernel
theorem dX3_device_31 : decode cX3_device 31 = .ok (.aload_n 0, 1) := by decide +kernel
theorem dX3_device_32 : decode cX3_device 32 = .ok (.getfield 13, 3) := by decide +kernel
theorem dX3_device_35 : decode cX3_device 35 = .ok (.bipush 6, 2) := by decide +kernel
theorem dX3_device_37 : decode cX3_device 37 = .ok (.iconst 0, 1) := by decide +kernel
theorem dX3_device_38 : decode cX3_device 38 = .ok (.iastore, 1) := by decide +kernel
theorem dX3_device_39 : decode cX3_device 39 = .ok (.iload_n 2, 1) := by decide +kernel
theorem dX3_device_40 : decode cX3_device 40 = .ok (.bipush 24, 2) := by decide +kernel
theorem dX3_device_42 : decode cX3_device 42 = .ok (.if_icmp .ne 11, 3) := by decide +kernel
theorem dX3_device_45 : decode cX3_device 45 = .ok (.aload_n 0, 1) := by decide +kernel
theorem dX3_device_46 : decode cX3_device 46 = .ok (.getfield 13, 3) := by decide +kernel
theorem dX3_device_49 : decode cX3_device 49 = .ok (.bipush 7, 2) := by decide +kernel
theorem dX3_device_51 : decode cX3_device 51 = .ok (.iconst 0, 1) := by decide +kernel
theorem dX3_device_52 : decode cX3_device 52 = .ok (.iastore, 1) := by decide +kernel
theorem dX3_device_53 : decode cX3_device 53 = .ok (.iload_n 2, 1) := by decide +kernel
theorem dX3_device_54 : decode cX3_device 54 = .ok (.bipush 25, 2) := by decide +kernel
theorem dX3_device_56 : decode cX3_device 56 = .ok (.if_icmp .ne 18, 3) := by decide +kernel
theorem dX3_device_59 : decode cX3_device 59 = .ok (.aload_n 0, 1) := by decide +kernel
theorem dX3_device_60 : decode cX3_device 60 = .ok (.getfield 13, 3) := by decide +kernel
theorem dX3_device_63 : decode cX3_device 63 = .ok (.bipush 7, 2) := by decide +kernel
theorem dX3_device_65 : decode cX3_device 65 = .ok (.iaload, 1) := by decide +kernel
theorem dX3_device_66 : decode cX3_device 66 = .ok (.iconst 1, 1) := by decide +kernel
theorem dX3_device_67 : decode cX3_device 67 = .ok (.if_icmp .ne 7, 3) := by decide +kernel
theorem dX3_device_70 : decode cX3_device 70 = .ok (.aload_n 0, 1) := by decide +kernel
theorem dX3_device_71 : decode cX3_device 71 = .ok (.invokevirtual 73, 3) := by decide +kernel
theorem dX3_device_74 : decode cX3_device 74 = .ok (.iload_n 2, 1) := by decide +kernel
theorem dX3_device_75 : decode cX3_device 75 = .ok (.bipush 26, 2) := by decide +kernel
theorem dX3_device_77 : decode cX3_device 77 = .ok (.if_icmp .ne 10, 3) := by decide +kernel
theorem dX3_device_80 : decode cX3_device 80 = .ok (.aload_n 0, 1) := by decide +kernel
theorem dX3_device_81 : decode cX3_device 81 = .ok (.getfield 13, 3) := by decide +kernel
theorem dX3_device_84 : decode cX3_device 84 = .ok (.iconst 0, 1) := by decide +kernel
theorem dX3_device_85 : decode cX3_device 85 = .ok (.iconst 0, 1) := by decide +kernel
theorem dX3_device_86 : decode cX3_device 86 = .ok (.iastore, 1) := by decide +kernel
theorem dX3_device_87 : decode cX3_device 87 = .ok (.iload_n 2, 1) := by decide +kernel
theorem dX3_device_88 : decode cX3_device 88 = .ok (.bipush 28, 2) := by decide +kernel
theorem dX3_device_90 : decode cX3_device 90 = .ok (.if_icmp .ne 23, 3) := by decide +kernel
theorem dX3_device_93 : decode cX3_device 93 = .ok (.aload_n 0, 1) := by decide +kernel
theorem dX3_device_94 : decode cX3_device 94 = .ok (.getfield 13, 3) := by decide +kernel
theorem dX3_device_97 : decode cX3_device 97 = .ok (.iconst 0, 1) := by decide +kernel
theorem dX3_device_98 : decode cX3_device 98 = .ok (.aload_n 0, 1) := by decide +kernel
theorem dX3_device_99 : decode cX3_device 99 = .ok (.getfield 13, 3) := by decide +kernel
theorem dX3_device_102 : decode cX3_device 102 = .ok (.iconst 0, 1) := by decide +kernel
theorem dX3_device_103 : decode cX3_device 103 = .ok (.iaload, 1) := by decide +kernel
theorem dX3_device_104 : decode cX3_device 104 = .ok (.aload_n 0, 1) := by decide +kernel
theorem dX3_device_105 : decode cX3_device 105 = .ok (.getfield 13, 3) := by decide +kernel
theorem dX3_device_108 : decode cX3_device 108 = .ok (.bipush 8, 2) := by decide +kernel
theorem dX3_device_110 : decode cX3_device 110 = .ok (.iaload, 1) := by decide +kernel
theorem dX3_device_111 : decode cX3_device 111 = .ok (.ior, 1) := by decide +kernel
theorem dX3_device_112 : decode cX3_device 112 = .ok (.iastore, 1) := by decide +kernel
theorem dX3_device_113 : decode cX3_device 113 = .ok (.iload_n 2, 1) := by decide +kernel
theorem dX3_device_114 : decode cX3_device 114 = .ok (.bipush 30, 2) := by decide +kernel
theorem dX3_device_116 : decode cX3_device 116 = .ok (.if_icmp .ne 16, 3) := by decide +kernel
theorem dX3_device_119 : decode cX3_device 119 = .ok (.aload_n 0, 1) := by decide +kernel
theorem dX3_device_120 : decode cX3_device 120 = .ok (.getfield 13, 3) := by decide +kernel
theorem dX3_device_123 : decode cX3_device 123 = .ok (.iconst 0, 1) := by decide +kernel
theorem dX3_device_124 : decode cX3_device 124 = .ok (.aload_n 0, 1) := by decide +kernel
theorem dX3_device_125 : decode cX3_device 125 = .ok (.getfield 13, 3) := by decide +kernel
theorem dX3_device_128 : decode cX3_device 128 = .ok (.bipush 8, 2) := by decide +kernel
theorem dX3_device_130 : decode cX3_device 130 = .ok (.iaload, 1) := by decide +kernel
theorem dX3_device_131 : decode cX3_device 131 = .ok (.iastore, 1) := by decide +kernel
theorem dX3_device_132 : decode cX3_device 132 = .ok (.iload_n 2, 1) := by decide +kernel
theorem dX3_device_133 : decode cX3_device 133 = .ok (.bipush 26, 2) := by decide +kernel
theorem dX3_device_135 : decode cX3_device 135 = .ok (.if_icmp .eq 9, 3) := by decide +kernel
theorem dX3_device_138 : decode cX3_device 138 = .ok (.iload_n 2, 1) := by decide +kernel
theorem dX3_device_139 : decode cX3_device 139 = .ok (.bipush 30, 2) := by decide +kernel
theorem dX3_device_141 : decode cX3_device 141 = .ok (.if_icmp .ne 7, 3) := by decide +kernel
theorem dX3_device_144 : decode cX3_device 144 = .ok (.aload_n 0, 1) := by decide +kernel
theorem dX3_device_145 : decode cX3_device 145 = .ok (.invokevirtual 76, 3) := by decide +kernel
theorem dX3_device_148 : decode cX3_device 148 = .ok (.iload_n 2, 1) := by decide +kernel
theorem dX3_device_149 : decode cX3_device 149 = .ok (.bipush 33, 2) := by decide +kernel
theorem dX3_device_151 : decode cX3_device 151 = .ok (.if_icmp .ne 18, 3) := by decide +kernel
theorem dX3_device_154 : decode cX3_device 154 = .ok (.aload_n 0, 1) := by decide +kernel
theorem dX3_device_155 : decode cX3_device 155 = .ok (.getfield 13, 3) := by decide +kernel
theorem dX3_device_158 : decode cX3_device 158 = .ok (.bipush 9, 2) := by decide +kernel
theorem dX3_device_160 : decode cX3_device 160 = .ok (.iaload, 1) := by decide +kernel
theorem dX3_device_161 : decode cX3_device 161 = .ok (.iconst 1, 1) := by decide +kernel
theorem dX3_device_162 : decode cX3_device 162 = .ok (.if_icmp .ne 7, 3) := by decide +kernel
theorem dX3_device_165 : decode cX3_device 165 = .ok (.aload_n 0, 1) := by decide +kernel
theorem dX3_device_166 : decode cX3_device 166 = .ok (.invokevirtual 73, 3) := by decide +kernel
theorem dX3_device_169 : decode cX3_device 169 = .ok (.iload_n 2, 1) := by decide +kernel
theorem dX3_device_170 : decode cX3_device 170 = .ok (.bipush 34, 2) := by decide +kernel
theorem dX3_device_172 : decode cX3_device 172 = .ok (.if_icmp .ne 11, 3) := by decide +kernel
theorem dX3_device_175 : decode cX3_device 175 = .ok (.aload_n 0, 1) := by decide +kernel
theorem dX3_device_176 : decode cX3_device 176 = .ok (.getfield 13, 3) := by decide +kernel
theorem dX3_device_179 : decode cX3_device 179 = .ok (.bipush 9, 2) := by decide +kernel
theorem dX3_device_181 : decode cX3_device 181 = .ok (.iconst 0, 1) := by decide +kernel
theorem dX3_device_182 : decode cX3_device 182 = .ok (.iastore, 1) := by decide +kernel
theorem dX3_device_183 : decode cX3_device 183 = .ok (.iload_n 2, 1) := by decide +kernel
theorem dX3_device_184 : decode cX3_device 184 = .ok (.bipush 36, 2) := by decide +kernel
theorem dX3_device_186 : decode cX3_device 186 = .ok (.if_icmp .eq 9, 3) := by decide +kernel
theorem dX3_device_189 : decode cX3_device 189 = .ok (.iload_n 2, 1) := by decide +kernel
theorem dX3_device_190 : decode cX3_device 190 = .ok (.bipush 38, 2) := by decide +kernel
theorem dX3_device_192 : decode cX3_device 192 = .ok (.if_icmp .ne 64, 3) := by decide +kernel
theorem dX3_device_195 : decode cX3_device 195 = .ok (.bipush 63, 2) := by decide +kernel
theorem dX3_device_197 : decode cX3_device 197 = .ok (.istore_n 3, 1) := by decide +kernel
theorem dX3_device_198 : decode cX3_device 198 = .ok (.iload_n 3, 1) := by decide +kernel
theorem dX3_device_199 : decode cX3_device 199 = .ok (.ifCond .le 23, 3) := by decide +kernel
theorem dX3_device_202 : decode cX3_device 202 = .ok (.aload_n 0, 1) := by decide +kernel
theorem dX3_device_203 : decode cX3_device 203 = .ok (.getfield 19, 3) := by decide +kernel
theorem dX3_device_206 : decode cX3_device 206 = .ok (.iload_n 3, 1) := by decide +kernel
theorem dX3_device_207 : decode cX3_device 207 = .ok (.aload_n 0, 1) := by decide +kernel
theorem dX3_device_208 : decode cX3_device 208 = .ok (.getfield 19, 3) := by decide +kernel
theorem dX3_device_211 : decode cX3_device 211 = .ok (.iload_n 3, 1) := by decide +kernel
theorem dX3_device_212 : decode cX3_device 212 = .ok (.iconst 1, 1) := by decide +kernel
theorem dX3_device_213 : decode cX3_device 213 = .ok (.isub, 1) := by decide +kernel
theorem dX3_device_214 : decode cX3_device 214 = .ok (.iaload, 1) := by decide +kernel
theorem dX3_device_215 : decode cX3_device 215 = .ok (.iastore, 1) := by decide +kernel
theorem dX3_device_216 : decode cX3_device 216 = .ok (.iinc 3 (-1), 3) := by decide +kernel
theorem dX3_device_219 : decode cX3_device 219 = .ok (.goto (-21), 3) := by decide +kernel
theorem dX3_device_222 : decode cX3_device 222 = .ok (.aload_n 0, 1) := by decide +kernel
theorem dX3_device_223 : decode cX3_device 223 = .ok (.getfield 19, 3) := by decide +kernel
theorem dX3_device_226 : decode cX3_device 226 = .ok (.iconst 0, 1) := by decide +kernel
theorem dX3_device_227 : decode cX3_device 227 = .ok (.aload_n 0, 1) := by decide +kernel
theorem dX3_device_228 : decode cX3_device 228 = .ok (.getfield 13, 3) := by decide +kernel
theorem dX3_device_231 : decode cX3_device 231 = .ok (.iconst 0, 1) := by decide +kernel
theorem dX3_device_232 : decode cX3_device 232 = .ok (.iaload, 1) := by decide +kernel
theorem dX3_device_233 : decode cX3_device 233 = .ok (.sipush 256, 3) := by decide +kernel
theorem dX3_device_236 : decode cX3_device 236 = .ok (.irem, 1) := by decide +kernel
theorem dX3_device_237 : decode cX3_device 237 = .ok (.iastore, 1) := by decide +kernel
theorem dX3_device_238 : decode cX3_device 238 = .ok (.aload_n 0, 1) := by decide +kernel
theorem dX3_device_239 : decode cX3_device 239 = .ok (.dup, 1) := by decide +kernel
theorem dX3_device_240 : decode cX3_device 240 = .ok (.getfield 79, 3) := by decide +kernel
theorem dX3_device_243 : decode cX3_device 243 = .ok (.iconst 1, 1) := by decide +kernel
theorem dX3_device_244 : decode cX3_device 244 = .ok (.iadd, 1) := by decide +kernel
theorem dX3_device_245 : decode cX3_device 245 = .ok (.putfield 79, 3) := by decide +kernel
theorem dX3_device_248 : decode cX3_device 248 = .ok (.aload_n 0, 1) := by decide +kernel
theorem dX3_device_249 : decode cX3_device 249 = .ok (.getfield 13, 3) := by decide +kernel
theorem dX3_device_252 : decode cX3_device 252 = .ok (.bipush 9, 2) := by decide +kernel
theorem dX3_device_254 : decode cX3_device 254 = .ok (.iconst 1, 1) := by decide +kernel
theorem dX3_device_255 : decode cX3_device 255 = .ok (.iastore, 1) := by decide +kernel
theorem dX3_device_256 : decode cX3_device 256 = .ok (.return_, 1) := by decide +kernel
theorem dX3_first_0 : decode cX3_first 0 = .ok (.iload_n 1, 1) := by decide +kernel
theorem dX3_first_1 : decode cX3_first 1 = .ok (.sipush 128, 3) := by decide +kernel
theorem dX3_first_4 : decode cX3_first 4 = .ok (.invokestatic 57, 3) := by decide +kernel
theorem dX3_first_7 : decode cX3_first 7 = .ok (.ifCond .eq 10, 3) := by decide +kernel
theorem dX3_first_10 : decode cX3_first 10 = .ok (.aload_n 0, 1) := by decide +kernel
theorem dX3_first_11 : decode cX3_first 11 = .ok (.getfield 13, 3) := by decide +kernel
theorem dX3_first_14 : decode cX3_first 14 = .ok (.iconst 0, 1) := by decide +kernel
theorem dX3_first_15 : decode cX3_first 15 = .ok (.iconst 0, 1) := by decide +kernel
theorem dX3_first_16 : decode cX3_first 16 = .ok (.iastore, 1) := by decide +kernel
theorem dX3_first_17 : decode cX3_first 17 = .ok (.iload_n 1, 1) := by decide +kernel
theorem dX3_first_18 : decode cX3_first 18 = .ok (.bipush 64, 2) := by decide +kernel
theorem dX3_first_20 : decode cX3_first 20 = .ok (.invokestatic 57, 3) := by decide +kernel
theorem dX3_first_23 : decode cX3_first 23 = .ok (.ifCond .eq 10, 3) := by decide +kernel
theorem dX3_first_26 : decode cX3_first 26 = .ok (.aload_n 0, 1) := by decide +kernel
theorem dX3_first_27 : decode cX3_first 27 = .ok (.getfield 13, 3) := by decide +kernel
theorem dX3_first_30 : decode cX3_first 30 = .ok (.iconst 1, 1) := by decide +kernel
theorem dX3_first_31 : decode cX3_first 31 = .ok (.iconst 0, 1) := by decide +kernel
theorem dX3_first_32 : decode cX3_first 32 = .ok (.iastore, 1) := by decide +kernel
theorem dX3_first_33 : decode cX3_first 33 = .ok (.iload_n 1, 1) := by decide +kernel
theorem dX3_first_34 : decode cX3_first 34 = .ok (.bipush 32, 2) := by decide +kernel
theorem dX3_first_36 : decode cX3_first 36 = .ok (.invokestatic 57, 3) := by decide +kernel
theorem dX3_first_39 : decode cX3_first 39 = .ok (.ifCond .eq 19, 3) := by decide +kernel
theorem dX3_first_42 : decode cX3_first 42 = .ok (.aload_n 0, 1) := by decide +kernel
theorem dX3_first_43 : decode cX3_first 43 = .ok (.getfield 13, 3) := by decide +kernel
theorem dX3_first_46 : decode cX3_first 46 = .ok (.iconst 0, 1) := by decide +kernel
theorem dX3_first_47 : decode cX3_first 47 = .ok (.sipush 4095, 3) := by decide +kernel
theorem dX3_first_50 : decode cX3_first 50 = .ok (.aload_n 0, 1) := by decide +kernel
theorem dX3_first_51 : decode cX3_first 51 = .ok (.getfield 13, 3) := by decide +kernel
theorem dX3_first_54 : decode cX3_first 54 = .ok (.iconst 0, 1) := by decide +kernel
theorem dX3_first_55 : decode cX3_first 55 = .ok (.iaload, 1) := by decide +kernel
theorem dX3_first_56 : decode cX3_first 56 = .ok (.isub, 1) := by decide +kernel
theorem dX3_first_57 : decode cX3_first 57 = .ok (.iastore, 1) := by decide +kernel
theorem dX3_first_58 : decode cX3_first 58 = .ok (.iload_n 1, 1) := by decide +kernel
theorem dX3_first_59 : decode cX3_first 59 = .ok (.bipush 16, 2) := by decide +kernel
theorem dX3_first_61 : decode cX3_first 61 = .ok (.invokestatic 57, 3) := by decide +kernel
theorem dX3_first_64 : decode cX3_first 64 = .ok (.ifCond .eq 17, 3) := by decide +kernel
theorem dX3_first_67 : decode cX3_first 67 = .ok (.aload_n 0, 1) := by decide +kernel
theorem dX3_first_68 : decode cX3_first 68 = .ok (.getfield 13, 3) := by decide +kernel
theorem dX3_first_71 : decode cX3_first 71 = .ok (.iconst 1, 1) := by decide +kernel
theorem dX3_first_72 : decode cX3_first 72 = .ok (.iconst 1, 1) := by decide +kernel
theorem dX3_first_73 : decode cX3_first 73 = .ok (.aload_n 0, 1) := by decide +kernel
theorem dX3_first_74 : decode cX3_first 74 = .ok (.getfield 13, 3) := by decide +kernel
theorem dX3_first_77 : decode cX3_first 77 = .ok (.iconst 1, 1) := by decide +kernel
theorem dX3_first_78 : decode cX3_first 78 = .ok (.iaload, 1) := by decide +kernel
theorem dX3_first_79 : decode cX3_first 79 = .ok (.isub, 1) := by decide +kernel
theorem dX3_first_80 : decode cX3_first 80 = .ok (.iastore, 1) := by decide +kernel
theorem dX3_first_81 : decode cX3_first 81 = .ok (.iload_n 1, 1) := by decide +kernel
theorem dX3_first_82 : decode cX3_first 82 = .ok (.iconst 1, 1) := by decide +kernel
theorem dX3_first_83 : decode cX3_first 83 = .ok (.invokestatic 57, 3) := by decide +kernel
theorem dX3_first_86 : decode cX3_first 86 = .ok (.ifCond .eq 8, 3) := by decide +kernel
theorem dX3_first_89 : decode cX3_first 89 = .ok (.aload_n 0, 1) := by decide +kernel
theorem dX3_first_90 : decode cX3_first 90 = .ok (.iconst 1, 1) := by decide +kernel
theorem dX3_first_91 : decode cX3_first 91 = .ok (.invokevirtual 70, 3) := by decide +kernel
theorem dX3_first_94 : decode cX3_first 94 = .ok (.iload_n 1, 1) := by decide +kernel
theorem dX3_first_95 : decode cX3_first 95 = .ok (.iconst 4, 1) := by decide +kernel
theorem dX3_first_96 : decode cX3_first 96 = .ok (.invokestatic 57, 3) := by decide +kernel
theorem dX3_first_99 : decode cX3_first 99 = .ok (.istore_n 2, 1) := by decide +kernel
theorem dX3_first_100 : decode cX3_first 100 = .ok (.iload_n 2, 1) := by decide +kernel
theorem dX3_first_101 : decode cX3_first 101 = .ok (.iload_n 1, 1) := by decide +kernel
theorem dX3_first_102 : decode cX3_first 102 = .ok (.bipush 8, 2) := by decide +kernel
theorem dX3_first_104 : decode cX3_first 104 = .ok (.invokestatic 57, 3) := by decide +kernel
theorem dX3_first_107 : decode cX3_first 107 = .ok (.if_icmp .ne 4, 3) := by decide +kernel
theorem dX3_first_110 : decode cX3_first 110 = .ok (.return_, 1) := by decide +kernel
theorem dX3_first_111 : decode cX3_first 111 = .ok (.iload_n 1, 1) := by decide +kernel
theorem dX3_first_112 : decode cX3_first 112 = .ok (.iconst 2, 1) := by decide +kernel
theorem dX3_first_113 : decode cX3_first 113 = .ok (.invokestatic 57, 3) := by decide +kernel
theorem dX3_first_116 : decode cX3_first 116 = .ok (.ifCond .eq 7, 3) := by decide +kernel
theorem dX3_first_119 : decode cX3_first 119 = .ok (.iconst 2, 1) := by decide +kernel
theorem dX3_first_120 : decode cX3_first 120 = .ok (.goto 4, 3) := by decide +kernel
theorem dX3_first_123 : decode cX3_first 123 = .ok (.iconst 1, 1) := by decide +kernel
theorem dX3_first_124 : decode cX3_first 124 = .ok (.istore_n 3, 1) := by decide +kernel
theorem dX3_first_125 : decode cX3_first 125 = .ok (.iconst 0, 1) := by decide +kernel
theorem dX3_first_126 : decode cX3_first 126 = .ok (.istore 4, 2) := by decide +kernel
theorem dX3_first_128 : decode cX3_first 128 = .ok (.iload 4, 2) := by decide +kernel
theorem dX3_first_130 : decode cX3_first 130 = .ok (.iload_n 3, 1) := by decide +kernel
theorem dX3_first_131 : decode cX3_first 131 = .ok (.if_icmp .ge 91, 3) := by decide +kernel
theorem dX3_first_134 : decode cX3_first 134 = .ok (.aload_n 0, 1) := by decide +kernel
theorem dX3_first_135 : decode cX3_first 135 = .ok (.getfield 13, 3) := by decide +kernel
theorem dX3_first_138 : decode cX3_first 138 = .ok (.iconst 1, 1) := by decide +kernel
theorem dX3_first_139 : decode cX3_first 139 = .ok (.iaload, 1) := by decide +kernel
theorem dX3_first_140 : decode cX3_first 140 = .ok (.sipush 4096, 3) := by decide +kernel
theorem dX3_first_143 : decode cX3_first 143 = .ok (.imul, 1) := by decide +kernel
theorem dX3_first_144 : decode cX3_first 144 = .ok (.aload_n 0, 1) := by decide +kernel
theorem dX3_first_145 : decode cX3_first 145 = .ok (.getfield 13, 3) := by decide +kernel
theorem dX3_first_148 : decode cX3_first 148 = .ok (.iconst 0, 1) := by decide +kernel
theorem dX3_first_149 : decode cX3_first 149 = .ok (.iaload, 1) := by decide +kernel
theorem dX3_first_150 : decode cX3_first 150 = .ok (.iadd, 1) := by decide +kernel
theorem dX3_first_151 : decode cX3_first 151 = .ok (.istore 5, 2) := by decide +kernel
theorem dX3_first_153 : decode cX3_first 153 = .ok (.iload_n 2, 1) := by decide +kernel
theorem dX3_first_154 : decode cX3_first 154 = .ok (.ifCond .eq 23, 3) := by decide +kernel
theorem dX3_first_157 : decode cX3_first 157 = .ok (.iload 5, 2) := by decide +kernel
theorem dX3_first_159 : decode cX3_first 159 = .ok (.iconst 2, 1) := by decide +kernel
theorem dX3_first_160 : decode cX3_first 160 = .ok (.imul, 1) := by decide +kernel
theorem dX3_first_161 : decode cX3_first 161 = .ok (.sipush 8192, 3) := by decide +kernel
theorem dX3_first_164 : decode cX3_first 164 = .ok (.irem, 1) := by decide +kernel
theorem dX3_first_165 : decode cX3_first 165 = .ok (.iload 5, 2) := by decide +kernel
theorem dX3_first_167 : decode cX3_first 167 = .ok (.sipush 4096, 3) := by decide +kernel
theorem dX3_first_170 : decode cX3_first 170 = .ok (.idiv, 1) := by decide +kernel
theorem dX3_first_171 : decode cX3_first 171 = .ok (.iadd, 1) := by decide +kernel
theorem dX3_first_172 : decode cX3_first 172 = .ok (.istore 5, 2) := by decide +kernel
theorem dX3_first_174 : decode cX3_first 174 = .ok (.goto 18, 3) := by decide +kernel
theorem dX3_first_177 : decode cX3_first 177 = .ok (.iload 5, 2) := by decide +kernel
theorem dX3_first_179 : decode cX3_first 179 = .ok (.iconst 2, 1) := by decide +kernel
theorem dX3_first_180 : decode cX3_first 180 = .ok (.idiv, 1) := by decide +kernel
theorem dX3_first_181 : decode cX3_first 181 = .ok (.iload 5, 2) := by decide +kernel
theorem dX3_first_183 : decode cX3_first 183 = .ok (.iconst 2, 1) := by decide +kernel
theorem dX3_first_184 : decode cX3_first 184 = .ok (.irem, 1) := by decide +kernel
theorem dX3_first_185 : decode cX3_first 185 = .ok (.sipush 4096, 3) := by decide +kernel
theorem dX3_first_188 : decode cX3_first 188 = .ok (.imul, 1) := by decide +kernel
theorem dX3_first_189 : decode cX3_first 189 = .ok (.iadd, 1) := by decide +kernel
theorem dX3_first_190 : decode cX3_first 190 = .ok (.istore 5, 2) := by decide +kernel
theorem dX3_first_192 : decode cX3_first 192 = .ok (.aload_n 0, 1) := by decide +kernel
theorem dX3_first_193 : decode cX3_first 193 = .ok (.getfield 13, 3) := by decide +kernel
theorem dX3_first_196 : decode cX3_first 196 = .ok (.iconst 1, 1) := by decide +kernel
theorem dX3_first_197 : decode cX3_first 197 = .ok (.iload 5, 2) := by decide +kernel
theorem dX3_first_199 : decode cX3_first 199 = .ok (.sipush 4096, 3) := by decide +kernel
theorem dX3_first_202 : decode cX3_first 202 = .ok (.idiv, 1) := by decide +kernel
theorem dX3_first_203 : decode cX3_first 203 = .ok (.iastore, 1) := by decide +kernel
theorem dX3_first_204 : decode cX3_first 204 = .ok (.aload_n 0, 1) := by decide +kernel
theorem dX3_first_205 : decode cX3_first 205 = .ok (.getfield 13, 3) := by decide +kernel
theorem dX3_first_208 : decode cX3_first 208 = .ok (.iconst 0, 1) := by decide +kernel
theorem dX3_first_209 : decode cX3_first 209 = .ok (.iload 5, 2) := by decide +kernel
theorem dX3_first_211 : decode cX3_first 211 = .ok (.sipush 4096, 3) := by decide +kernel
theorem dX3_first_214 : decode cX3_first 214 = .ok (.irem, 1) := by decide +kernel
theorem dX3_first_215 : decode cX3_first 215 = .ok (.iastore, 1) := by decide +kernel
theorem dX3_first_216 : decode cX3_first 216 = .ok (.iinc 4 1, 3) := by decide +kernel
theorem dX3_first_219 : decode cX3_first 219 = .ok (.goto (-91), 3) := by decide +kernel
theorem dX3_first_222 : decode cX3_first 222 = .ok (.return_, 1) := by decide +kernel
theorem dX3_second_0 : decode cX3_second 0 = .ok (.iload_n 1, 1) := by decide +kernel
theorem dX3_second_1 : decode cX3_second 1 = .ok (.bipush 64, 2) := by decide +kernel
theorem dX3_second_3 : decode cX3_second 3 = .ok (.invokestatic 57, 3) := by decide +kernel
theorem dX3_second_6 : decode cX3_second 6 = .ok (.ifCond .eq 15, 3) := by decide +kernel
theorem dX3_second_9 : decode cX3_second 9 = .ok (.aload_n 0, 1) := by decide +kernel
theorem dX3_second_10 : decode cX3_second 10 = .ok (.getfield 13, 3) := by decide +kernel
theorem dX3_second_13 : decode cX3_second 13 = .ok (.iconst 0, 1) := by decide +kernel
theorem dX3_second_14 : decode cX3_second 14 = .ok (.iaload, 1) := by decide +kernel
theorem dX3_second_15 : decode cX3_second 15 = .ok (.sipush 2048, 3) := by decide +kernel
theorem dX3_second_18 : decode cX3_second 18 = .ok (.if_icmp .ge 40, 3) := by decide +kernel
theorem dX3_second_21 : decode cX3_second 21 = .ok (.iload_n 1, 1) := by decide +kernel
theorem dX3_second_22 : decode cX3_second 22 = .ok (.bipush 32, 2) := by decide +kernel
theorem dX3_second_24 : decode cX3_second 24 = .ok (.invokestatic 57, 3) := by decide +kernel
theorem dX3_second_27 : decode cX3_second 27 = .ok (.ifCond .eq 12, 3) := by decide +kernel
theorem dX3_second_30 : decode cX3_second 30 = .ok (.aload_n 0, 1) := by decide +kernel
theorem dX3_second_31 : decode cX3_second 31 = .ok (.getfield 13, 3) := by decide +kernel
theorem dX3_second_34 : decode cX3_second 34 = .ok (.iconst 0, 1) := by decide +kernel
theorem dX3_second_35 : decode cX3_second 35 = .ok (.iaload, 1) := by decide +kernel
theorem dX3_second_36 : decode cX3_second 36 = .ok (.ifCond .eq 22, 3) := by decide +kernel
theorem dX3_second_39 : decode cX3_second 39 = .ok (.iload_n 1, 1) := by decide +kernel
theorem dX3_second_40 : decode cX3_second 40 = .ok (.bipush 16, 2) := by decide +kernel
theorem dX3_second_42 : decode cX3_second 42 = .ok (.invokestatic 57, 3) := by decide +kernel
theorem dX3_second_45 : decode cX3_second 45 = .ok (.ifCond .eq 17, 3) := by decide +kernel
theorem dX3_second_48 : decode cX3_second 48 = .ok (.aload_n 0, 1) := by decide +kernel
theorem dX3_second_49 : decode cX3_second 49 = .ok (.getfield 13, 3) := by decide +kernel
theorem dX3_second_52 : decode cX3_second 52 = .ok (.iconst 1, 1) := by decide +kernel
theorem dX3_second_53 : decode cX3_second 53 = .ok (.iaload, 1) := by decide +kernel
theorem dX3_second_54 : decode cX3_second 54 = .ok (.iconst 1, 1) := by decide +kernel
theorem dX3_second_55 : decode cX3_second 55 = .ok (.if_icmp .ne 7, 3) := by decide +kernel
theorem dX3_second_58 : decode cX3_second 58 = .ok (.iconst 1, 1) := by decide +kernel
theorem dX3_second_59 : decode cX3_second 59 = .ok (.goto 4, 3) := by decide +kernel
theorem dX3_second_62 : decode cX3_second 62 = .ok (.iconst 0, 1) := by decide +kernel
theorem dX3_second_63 : decode cX3_second 63 = .ok (.istore_n 2, 1) := by decide +kernel
theorem dX3_second_64 : decode cX3_second 64 = .ok (.iload_n 2, 1) := by decide +kernel
theorem dX3_second_65 : decode cX3_second 65 = .ok (.iload_n 1, 1) := by decide +kernel
theorem dX3_second_66 : decode cX3_second 66 = .ok (.bipush 8, 2) := by decide +kernel
theorem dX3_second_68 : decode cX3_second 68 = .ok (.invokestatic 57, 3) := by decide +kernel
theorem dX3_second_71 : decode cX3_second 71 = .ok (.if_icmp .eq 7, 3) := by decide +kernel
theorem dX3_second_74 : decode cX3_second 74 = .ok (.aload_n 0, 1) := by decide +kernel
theorem dX3_second_75 : decode cX3_second 75 = .ok (.invokevirtual 73, 3) := by decide +kernel
theorem dX3_second_78 : decode cX3_second 78 = .ok (.iload_n 1, 1) := by decide +kernel
theorem dX3_second_79 : decode cX3_second 79 = .ok (.sipush 128, 3) := by decide +kernel
theorem dX3_second_82 : decode cX3_second 82 = .ok (.invokestatic 57, 3) := by decide +kernel
theorem dX3_second_85 : decode cX3_second 85 = .ok (.ifCond .eq 10, 3) := by decide +kernel
theorem dX3_second_88 : decode cX3_second 88 = .ok (.aload_n 0, 1) := by decide +kernel
theorem dX3_second_89 : decode cX3_second 89 = .ok (.getfield 13, 3) := by decide +kernel
theorem dX3_second_92 : decode cX3_second 92 = .ok (.iconst 0, 1) := by decide +kernel
theorem dX3_second_93 : decode cX3_second 93 = .ok (.iconst 0, 1) := by decide +kernel
theorem dX3_second_94 : decode cX3_second 94 = .ok (.iastore, 1) := by decide +kernel
theorem dX3_second_95 : decode cX3_second 95 = .ok (.iload_n 1, 1) := by decide +kernel
theorem dX3_second_96 : decode cX3_second 96 = .ok (.iconst 4, 1) := by decide +kernel
theorem dX3_second_97 : decode cX3_second 97 = .ok (.invokestatic 57, 3) := by decide +kernel
theorem dX3_second_100 : decode cX3_second 100 = .ok (.ifCond .eq 22, 3) := by decide +kernel
theorem dX3_second_103 : decode cX3_second 103 = .ok (.aload_n 0, 1) := by decide +kernel
theorem dX3_second_104 : decode cX3_second 104 = .ok (.getfield 13, 3) := by decide +kernel
theorem dX3_second_107 : decode cX3_second 107 = .ok (.iconst 0, 1) := by decide +kernel
theorem dX3_second_108 : decode cX3_second 108 = .ok (.aload_n 0, 1) := by decide +kernel
theorem dX3_second_109 : decode cX3_second 109 = .ok (.getfield 13, 3) := by decide +kernel
theorem dX3_second_112 : decode cX3_second 112 = .ok (.iconst 0, 1) := by decide +kernel
theorem dX3_second_113 : decode cX3_second 113 = .ok (.iaload, 1) := by decide +kernel
theorem dX3_second_114 : decode cX3_second 114 = .ok (.aload_n 0, 1) := by decide +kernel
theorem dX3_second_115 : decode cX3_second 115 = .ok (.getfield 13, 3) := by decide +kernel
theorem dX3_second_118 : decode cX3_second 118 = .ok (.iconst 4, 1) := by decide +kernel
theorem dX3_second_119 : decode cX3_second 119 = .ok (.iaload, 1) := by decide +kernel
theorem dX3_second_120 : decode cX3_second 120 = .ok (.ior, 1) := by decide +kernel
theorem dX3_second_121 : decode cX3_second 121 = .ok (.iastore, 1) := by decide +kernel
theorem dX3_second_122 : decode cX3_second 122 = .ok (.iload_n 1, 1) := by decide +kernel
theorem dX3_second_123 : decode cX3_second 123 = .ok (.iconst 2, 1) := by decide +kernel
theorem dX3_second_124 : decode cX3_second 124 = .ok (.invokestatic 57, 3) := by decide +kernel
theorem dX3_second_127 : decode cX3_second 127 = .ok (.ifCond .eq 11, 3) := by decide +kernel
theorem dX3_second_130 : decode cX3_second 130 = .ok (.aload_n 0, 1) := by decide +kernel
theorem dX3_second_131 : decode cX3_second 131 = .ok (.getfield 13, 3) := by decide +kernel
theorem dX3_second_134 : decode cX3_second 134 = .ok (.bipush 10, 2) := by decide +kernel
theorem dX3_second_136 : decode cX3_second 136 = .ok (.iconst 1, 1) := by decide +kernel
theorem dX3_second_137 : decode cX3_second 137 = .ok (.iastore, 1) := by decide +kernel
theorem dX3_second_138 : decode cX3_second 138 = .ok (.return_, 1) := by decide +kernel
theorem dX3_third_0 : decode cX3_third 0 = .ok (.iload_n 1, 1) := by decide +kernel
theorem dX3_third_1 : decode cX3_third 1 = .ok (.sipush 128, 3) := by decide +kernel
theorem dX3_third_4 : decode cX3_third 4 = .ok (.invokestatic 57, 3) := by decide +kernel
theorem dX3_third_7 : decode cX3_third 7 = .ok (.ifCond .eq 7, 3) := by decide +kernel
theorem dX3_third_10 : decode cX3_third 10 = .ok (.iconst 0, 1) := by decide +kernel
theorem dX3_third_11 : decode cX3_third 11 = .ok (.goto 9, 3) := by decide +kernel
theorem dX3_third_14 : decode cX3_third 14 = .ok (.aload_n 0, 1) := by decide +kernel
theorem dX3_third_15 : decode cX3_third 15 = .ok (.getfield 13, 3) := by decide +kernel
theorem dX3_third_18 : decode cX3_third 18 = .ok (.iconst 0, 1) := by decide +kernel
theorem dX3_third_19 : decode cX3_third 19 = .ok (.iaload, 1) := by decide +kernel
theorem dX3_third_20 : decode cX3_third 20 = .ok (.istore_n 2, 1) := by decide +kernel
theorem dX3_third_21 : decode cX3_third 21 = .ok (.aload_n 0, 1) := by decide +kernel
theorem dX3_third_22 : decode cX3_third 22 = .ok (.getfield 13, 3) := by decide +kernel
theorem dX3_third_25 : decode cX3_third 25 = .ok (.iconst 3, 1) := by decide +kernel
theorem dX3_third_26 : decode cX3_third 26 = .ok (.iaload, 1) := by decide +kernel
theorem dX3_third_27 : decode cX3_third 27 = .ok (.istore_n 3, 1) := by decide +kernel
theorem dX3_third_28 : decode cX3_third 28 = .ok (.iload_n 1, 1) := by decide +kernel
theorem dX3_third_29 : decode cX3_third 29 = .ok (.bipush 16, 2) := by decide +kernel
theorem dX3_third_31 : decode cX3_third 31 = .ok (.invokestatic 57, 3) := by decide +kernel
theorem dX3_third_34 : decode cX3_third 34 = .ok (.istore 4, 2) := by decide +kernel
theorem dX3_third_36 : decode cX3_third 36 = .ok (.iload_n 1, 1) := by decide +kernel
theorem dX3_third_37 : decode cX3_third 37 = .ok (.bipush 64, 2) := by decide +kernel
theorem dX3_third_39 : decode cX3_third 39 = .ok (.invokestatic 57, 3) := by decide +kernel
theorem dX3_third_42 : decode cX3_third 42 = .ok (.istore 5, 2) := by decide +kernel
theorem dX3_third_44 : decode cX3_third 44 = .ok (.aload_n 0, 1) := by decide +kernel
theorem dX3_third_45 : decode cX3_third 45 = .ok (.getfield 13, 3) := by decide +kernel
theorem dX3_third_48 : decode cX3_third 48 = .ok (.iconst 0, 1) := by decide +kernel
theorem dX3_third_49 : decode cX3_third 49 = .ok (.iload 4, 2) := by decide +kernel
theorem dX3_third_51 : decode cX3_third 51 = .ok (.ifCond .eq 12, 3) := by decide +kernel
theorem dX3_third_54 : decode cX3_third 54 = .ok (.iload 5, 2) := by decide +kernel
theorem dX3_third_56 : decode cX3_third 56 = .ok (.ifCond .eq 7, 3) := by decide +kernel
theorem dX3_third_59 : decode cX3_third 59 = .ok (.iload_n 3, 1) := by decide +kernel
theorem dX3_third_60 : decode cX3_third 60 = .ok (.goto 24, 3) := by decide +kernel
theorem dX3_third_63 : decode cX3_third 63 = .ok (.iload 4, 2) := by decide +kernel
theorem dX3_third_65 : decode cX3_third 65 = .ok (.ifCond .eq 7, 3) := by decide +kernel
theorem dX3_third_68 : decode cX3_third 68 = .ok (.iconst 0, 1) := by decide +kernel
theorem dX3_third_69 : decode cX3_third 69 = .ok (.goto 15, 3) := by decide +kernel
theorem dX3_third_72 : decode cX3_third 72 = .ok (.iload 5, 2) := by decide +kernel
theorem dX3_third_74 : decode cX3_third 74 = .ok (.ifCond .eq 9, 3) := by decide +kernel
theorem dX3_third_77 : decode cX3_third 77 = .ok (.iload_n 2, 1) := by decide +kernel
theorem dX3_third_78 : decode cX3_third 78 = .ok (.iload_n 3, 1) := by decide +kernel
theorem dX3_third_79 : decode cX3_third 79 = .ok (.ior, 1) := by decide +kernel
theorem dX3_third_80 : decode cX3_third 80 = .ok (.goto 4, 3) := by decide +kernel
theorem dX3_third_83 : decode cX3_third 83 = .ok (.iload_n 2, 1) := by decide +kernel
theorem dX3_third_84 : decode cX3_third 84 = .ok (.iastore, 1) := by decide +kernel
theorem dX3_third_85 : decode cX3_third 85 = .ok (.aload_n 0, 1) := by decide +kernel
theorem dX3_third_86 : decode cX3_third 86 = .ok (.getfield 13, 3) := by decide +kernel
theorem dX3_third_89 : decode cX3_third 89 = .ok (.iconst 3, 1) := by decide +kernel
theorem dX3_third_90 : decode cX3_third 90 = .ok (.iload 4, 2) := by decide +kernel
theorem dX3_third_92 : decode cX3_third 92 = .ok (.ifCond .eq 7, 3) := by decide +kernel
theorem dX3_third_95 : decode cX3_third 95 = .ok (.iload_n 2, 1) := by decide +kernel
theorem dX3_third_96 : decode cX3_third 96 = .ok (.goto 4, 3) := by decide +kernel
theorem dX3_third_99 : decode cX3_third 99 = .ok (.iload_n 3, 1) := by decide +kernel
theorem dX3_third_100 : decode cX3_third 100 = .ok (.iastore, 1) := by decide +kernel
theorem dX3_third_101 : decode cX3_third 101 = .ok (.return_, 1) := by decide +kernel
theorem dX3_run_0 : decode cX3_run 0 = .ok (.iconst 0, 1) := by decide +kernel
theorem dX3_run_1 : decode cX3_run 1 = .ok (.istore_n 2, 1) := by decide +kernel
theorem dX3_run_2 : decode cX3_run 2 = .ok (.iconst 0, 1) := by decide +kernel
theorem dX3_run_3 : decode cX3_run 3 = .ok (.istore_n 3, 1) := by decide +kernel
theorem dX3_run_4 : decode cX3_run 4 = .ok (.iload_n 3, 1) := by decide +kernel
theorem dX3_run_5 : decode cX3_run 5 = .ok (.iload_n 1, 1) := by decide +kernel
theorem dX3_run_6 : decode cX3_run 6 = .ok (.if_icmp .ge 33, 3) := by decide +kernel
theorem dX3_run_9 : decode cX3_run 9 = .ok (.iload_n 1, 1) := by decide +kernel
theorem dX3_run_10 : decode cX3_run 10 = .ok (.sipush 2000, 3) := by decide +kernel
theorem dX3_run_13 : decode cX3_run 13 = .ok (.if_icmp .gt 26, 3) := by decide +kernel
theorem dX3_run_16 : decode cX3_run 16 = .ok (.aload_n 0, 1) := by decide +kernel
theorem dX3_run_17 : decode cX3_run 17 = .ok (.getfield 13, 3) := by decide +kernel
theorem dX3_run_20 : decode cX3_run 20 = .ok (.bipush 10, 2) := by decide +kernel
theorem dX3_run_22 : decode cX3_run 22 = .ok (.iaload, 1) := by decide +kernel
theorem dX3_run_23 : decode cX3_run 23 = .ok (.ifCond .ne 16, 3) := by decide +kernel
theorem dX3_run_26 : decode cX3_run 26 = .ok (.aload_n 0, 1) := by decide +kernel
theorem dX3_run_27 : decode cX3_run 27 = .ok (.invokevirtual 82, 3) := by decide +kernel
theorem dX3_run_30 : decode cX3_run 30 = .ok (.iinc 2 1, 3) := by decide +kernel
theorem dX3_run_33 : decode cX3_run 33 = .ok (.iinc 3 1, 3) := by decide +kernel
theorem dX3_run_36 : decode cX3_run 36 = .ok (.goto (-32), 3) := by decide +kernel
theorem dX3_run_39 : decode cX3_run 39 = .ok (.iload_n 2, 1) := by decide +kernel
theorem dX3_run_40 : decode cX3_run 40 = .ok (.ireturn, 1) := by decide +kernel
theorem dX3_printed_0 : decode cX3_printed 0 = .ok (.iload_n 1, 1) := by decide +kernel
theorem dX3_printed_1 : decode cX3_printed 1 = .ok (.iconst (-1), 1) := by decide +kernel
theorem dX3_printed_2 : decode cX3_printed 2 = .ok (.if_icmp .ne 8, 3) := by decide +kernel
theorem dX3_printed_5 : decode cX3_printed 5 = .ok (.aload_n 0, 1) := by decide +kernel
theorem dX3_printed_6 : decode cX3_printed 6 = .ok (.getfield 79, 3) := by decide +kernel
theorem dX3_printed_9 : decode cX3_printed 9 = .ok (.ireturn, 1) := by decide +kernel
theorem dX3_printed_10 : decode cX3_printed 10 = .ok (.iload_n 1, 1) := by decide +kernel
theorem dX3_printed_11 : decode cX3_printed 11 = .ok (.ifCond .lt 17, 3) := by decide +kernel
theorem dX3_printed_14 : decode cX3_printed 14 = .ok (.iload_n 1, 1) := by decide +kernel
theorem dX3_printed_15 : decode cX3_printed 15 = .ok (.bipush 63, 2) := by decide +kernel
theorem dX3_printed_17 : decode cX3_printed 17 = .ok (.if_icmp .gt 11, 3) := by decide +kernel
theorem dX3_printed_20 : decode cX3_printed 20 = .ok (.iload_n 1, 1) := by decide +kernel
theorem dX3_printed_21 : decode cX3_printed 21 = .ok (.aload_n 0, 1) := by decide +kernel
theorem dX3_printed_22 : decode cX3_printed 22 = .ok (.getfield 79, 3) := by decide +kernel
theorem dX3_printed_25 : decode cX3_printed 25 = .ok (.if_icmp .lt 7, 3) := by decide +kernel
theorem dX3_printed_28 : decode cX3_printed 28 = .ok (.iconst (-1), 1) := by decide +kernel
theorem dX3_printed_29 : decode cX3_printed 29 = .ok (.goto 9, 3) := by decide +kernel
theorem dX3_printed_32 : decode cX3_printed 32 = .ok (.aload_n 0, 1) := by decide +kernel
theorem dX3_printed_33 : decode cX3_printed 33 = .ok (.getfield 19, 3) := by decide +kernel
theorem dX3_printed_36 : decode cX3_printed 36 = .ok (.iload_n 1, 1) := by decide +kernel
theorem dX3_printed_37 : decode cX3_printed 37 = .ok (.iaload, 1) := by decide +kernel
theorem dX3_printed_38 : decode cX3_printed 38 = .ok (.ireturn, 1) := by decide +kernel
theorem dX3_trace_0 : decode cX3_trace 0 = .ok (.iload_n 1, 1) := by decide +kernel
theorem dX3_trace_1 : decode cX3_trace 1 = .ok (.ifCond .lt 17, 3) := by decide +kernel
theorem dX3_trace_4 : decode cX3_trace 4 = .ok (.iload_n 1, 1) := by decide +kernel
theorem dX3_trace_5 : decode cX3_trace 5 = .ok (.bipush 63, 2) := by decide +kernel
theorem dX3_trace_7 : decode cX3_trace 7 = .ok (.if_icmp .gt 11, 3) := by decide +kernel
theorem dX3_trace_10 : decode cX3_trace 10 = .ok (.iload_n 1, 1) := by decide +kernel
theorem dX3_trace_11 : decode cX3_trace 11 = .ok (.aload_n 0, 1) := by decide +kernel
theorem dX3_trace_12 : decode cX3_trace 12 = .ok (.getfield 42, 3) := by decide +kernel
theorem dX3_trace_15 : decode cX3_trace 15 = .ok (.if_icmp .lt 7, 3) := by decide +kernel
theorem dX3_trace_18 : decode cX3_trace 18 = .ok (.iconst (-1), 1) := by decide +kernel
theorem dX3_trace_19 : decode cX3_trace 19 = .ok (.goto 9, 3) := by decide +kernel
theorem dX3_trace_22 : decode cX3_trace 22 = .ok (.aload_n 0, 1) := by decide +kernel
theorem dX3_trace_23 : decode cX3_trace 23 = .ok (.getfield 22, 3) := by decide +kernel
theorem dX3_trace_26 : decode cX3_trace 26 = .ok (.iload_n 1, 1) := by decide +kernel
theorem dX3_trace_27 : decode cX3_trace 27 = .ok (.iaload, 1) := by decide +kernel
theorem dX3_trace_28 : decode cX3_trace 28 = .ok (.ireturn, 1) := by decide +kernel
theorem dX3_interrupts_0 : decode cX3_interrupts 0 = .ok (.aload_n 0, 1) := by decide +kernel
theorem dX3_interrupts_1 : decode cX3_interrupts 1 = .ok (.getfield 39, 3) := by decide +kernel
theorem dX3_interrupts_4 : decode cX3_interrupts 4 = .ok (.ireturn, 1) := by decide +kernel
theorem dX3_skips_0 : decode cX3_skips 0 = .ok (.aload_n 0, 1) := by decide +kernel
theorem dX3_skips_1 : decode cX3_skips 1 = .ok (.getfield 36, 3) := by decide +kernel
theorem dX3_skips_4 : decode cX3_skips 4 = .ok (.ireturn, 1) := by decide +kernel
end
section
theorem dL_law_0 : decode cL_law 0 = .ok (.new 7, 3) := by decide +kernel
theorem dL_law_3 : decode cL_law 3 = .ok (.dup, 1) := by decide +kernel
theorem dL_law_4 : decode cL_law 4 = .ok (.invokespecial 9, 3) := by decide +kernel
theorem dL_law_7 : decode cL_law 7 = .ok (.astore_n 1, 1) := by decide +kernel
theorem dL_law_8 : decode cL_law 8 = .ok (.new 10, 3) := by decide +kernel
theorem dL_law_11 : decode cL_law 11 = .ok (.dup, 1) := by decide +kernel
theorem dL_law_12 : decode cL_law 12 = .ok (.invokespecial 12, 3) := by decide +kernel
theorem dL_law_15 : decode cL_law 15 = .ok (.astore_n 2, 1) := by decide +kernel
theorem dL_law_16 : decode cL_law 16 = .ok (.iconst 0, 1) := by decide +kernel
theorem dL_law_17 : decode cL_law 17 = .ok (.istore_n 3, 1) := by decide +kernel
theorem dL_law_18 : decode cL_law 18 = .ok (.iload_n 3, 1) := by decide +kernel
theorem dL_law_19 : decode cL_law 19 = .ok (.aload_n 0, 1) := by decide +kernel
theorem dL_law_20 : decode cL_law 20 = .ok (.arraylength, 1) := by decide +kernel
theorem dL_law_21 : decode cL_law 21 = .ok (.iconst 3, 1) := by decide +kernel
theorem dL_law_22 : decode cL_law 22 = .ok (.isub, 1) := by decide +kernel
theorem dL_law_23 : decode cL_law 23 = .ok (.if_icmp .gt 335, 3) := by decide +kernel
theorem dL_law_26 : decode cL_law 26 = .ok (.aload_n 0, 1) := by decide +kernel
theorem dL_law_27 : decode cL_law 27 = .ok (.iload_n 3, 1) := by decide +kernel
theorem dL_law_28 : decode cL_law 28 = .ok (.iaload, 1) := by decide +kernel
theorem dL_law_29 : decode cL_law 29 = .ok (.bipush 15, 2) := by decide +kernel
theorem dL_law_31 : decode cL_law 31 = .ok (.iand, 1) := by decide +kernel
theorem dL_law_32 : decode cL_law 32 = .ok (.tableswitch 320 0 11 #[64, 87, 100, 133, 156, 189, 212, 225, 248, 271, 294, 307], 64) := by decide +kernel
theorem dL_law_96 : decode cL_law 96 = .ok (.aload_n 1, 1) := by decide +kernel
theorem dL_law_97 : decode cL_law 97 = .ok (.aload_n 0, 1) := by decide +kernel
theorem dL_law_98 : decode cL_law 98 = .ok (.iload_n 3, 1) := by decide +kernel
theorem dL_law_99 : decode cL_law 99 = .ok (.iconst 1, 1) := by decide +kernel
theorem dL_law_100 : decode cL_law 100 = .ok (.iadd, 1) := by decide +kernel
theorem dL_law_101 : decode cL_law 101 = .ok (.iaload, 1) := by decide +kernel
theorem dL_law_102 : decode cL_law 102 = .ok (.invokevirtual 13, 3) := by decide +kernel
theorem dL_law_105 : decode cL_law 105 = .ok (.aload_n 2, 1) := by decide +kernel
theorem dL_law_106 : decode cL_law 106 = .ok (.aload_n 0, 1) := by decide +kernel
theorem dL_law_107 : decode cL_law 107 = .ok (.iload_n 3, 1) := by decide +kernel
theorem dL_law_108 : decode cL_law 108 = .ok (.iconst 1, 1) := by decide +kernel
theorem dL_law_109 : decode cL_law 109 = .ok (.iadd, 1) := by decide +kernel
theorem dL_law_110 : decode cL_law 110 = .ok (.iaload, 1) := by decide +kernel
theorem dL_law_111 : decode cL_law 111 = .ok (.invokevirtual 17, 3) := by decide +kernel
theorem dL_law_114 : decode cL_law 114 = .ok (.if_icmp .eq 238, 3) := by decide +kernel
theorem dL_law_117 : decode cL_law 117 = .ok (.iconst 0, 1) := by decide +kernel
theorem dL_law_118 : decode cL_law 118 = .ok (.ireturn, 1) := by decide +kernel
theorem dL_law_119 : decode cL_law 119 = .ok (.aload_n 1, 1) := by decide +kernel
theorem dL_law_120 : decode cL_law 120 = .ok (.invokevirtual 18, 3) := by decide +kernel
theorem dL_law_123 : decode cL_law 123 = .ok (.aload_n 2, 1) := by decide +kernel
theorem dL_law_124 : decode cL_law 124 = .ok (.invokevirtual 22, 3) := by decide +kernel
theorem dL_law_127 : decode cL_law 127 = .ok (.if_icmp .eq 225, 3) := by decide +kernel
theorem dL_law_130 : decode cL_law 130 = .ok (.iconst 0, 1) := by decide +kernel
theorem dL_law_131 : decode cL_law 131 = .ok (.ireturn, 1) := by decide +kernel
theorem dL_law_132 : decode cL_law 132 = .ok (.aload_n 1, 1) := by decide +kernel
theorem dL_law_133 : decode cL_law 133 = .ok (.aload_n 0, 1) := by decide +kernel
theorem dL_law_134 : decode cL_law 134 = .ok (.iload_n 3, 1) := by decide +kernel
theorem dL_law_135 : decode cL_law 135 = .ok (.iconst 1, 1) := by decide +kernel
theorem dL_law_136 : decode cL_law 136 = .ok (.iadd, 1) := by decide +kernel
theorem dL_law_137 : decode cL_law 137 = .ok (.iaload, 1) := by decide +kernel
theorem dL_law_138 : decode cL_law 138 = .ok (.aload_n 0, 1) := by decide +kernel
theorem dL_law_139 : decode cL_law 139 = .ok (.iload_n 3, 1) := by decide +kernel
theorem dL_law_140 : decode cL_law 140 = .ok (.iconst 2, 1) := by decide +kernel
theorem dL_law_141 : decode cL_law 141 = .ok (.iadd, 1) := by decide +kernel
theorem dL_law_142 : decode cL_law 142 = .ok (.iaload, 1) := by decide +kernel
theorem dL_law_143 : decode cL_law 143 = .ok (.invokevirtual 23, 3) := by decide +kernel
theorem dL_law_146 : decode cL_law 146 = .ok (.aload_n 2, 1) := by decide +kernel
theorem dL_law_147 : decode cL_law 147 = .ok (.aload_n 0, 1) := by decide +kernel
theorem dL_law_148 : decode cL_law 148 = .ok (.iload_n 3, 1) := by decide +kernel
theorem dL_law_149 : decode cL_law 149 = .ok (.iconst 1, 1) := by decide +kernel
theorem dL_law_150 : decode cL_law 150 = .ok (.iadd, 1) := by decide +kernel
theorem dL_law_151 : decode cL_law 151 = .ok (.iaload, 1) := by decide +kernel
theorem dL_law_152 : decode cL_law 152 = .ok (.aload_n 0, 1) := by decide +kernel
theorem dL_law_153 : decode cL_law 153 = .ok (.iload_n 3, 1) := by decide +kernel
theorem dL_law_154 : decode cL_law 154 = .ok (.iconst 2, 1) := by decide +kernel
theorem dL_law_155 : decode cL_law 155 = .ok (.iadd, 1) := by decide +kernel
theorem dL_law_156 : decode cL_law 156 = .ok (.iaload, 1) := by decide +kernel
theorem dL_law_157 : decode cL_law 157 = .ok (.invokevirtual 27, 3) := by decide +kernel
theorem dL_law_160 : decode cL_law 160 = .ok (.if_icmp .eq 192, 3) := by decide +kernel
theorem dL_law_163 : decode cL_law 163 = .ok (.iconst 0, 1) := by decide +kernel
theorem dL_law_164 : decode cL_law 164 = .ok (.ireturn, 1) := by decide +kernel
theorem dL_law_165 : decode cL_law 165 = .ok (.aload_n 1, 1) := by decide +kernel
theorem dL_law_166 : decode cL_law 166 = .ok (.aload_n 0, 1) := by decide +kernel
theorem dL_law_167 : decode cL_law 167 = .ok (.iload_n 3, 1) := by decide +kernel
theorem dL_law_168 : decode cL_law 168 = .ok (.iconst 1, 1) := by decide +kernel
theorem dL_law_169 : decode cL_law 169 = .ok (.iadd, 1) := by decide +kernel
theorem dL_law_170 : decode cL_law 170 = .ok (.iaload, 1) := by decide +kernel
theorem dL_law_171 : decode cL_law 171 = .ok (.invokevirtual 28, 3) := by decide +kernel
theorem dL_law_174 : decode cL_law 174 = .ok (.aload_n 2, 1) := by decide +kernel
theorem dL_law_175 : decode cL_law 175 = .ok (.aload_n 0, 1) := by decide +kernel
theorem dL_law_176 : decode cL_law 176 = .ok (.iload_n 3, 1) := by decide +kernel
theorem dL_law_177 : decode cL_law 177 = .ok (.iconst 1, 1) := by decide +kernel
theorem dL_law_178 : decode cL_law 178 = .ok (.iadd, 1) := by decide +kernel
theorem dL_law_179 : decode cL_law 179 = .ok (.iaload, 1) := by decide +kernel
theorem dL_law_180 : decode cL_law 180 = .ok (.invokevirtual 32, 3) := by decide +kernel
theorem dL_law_183 : decode cL_law 183 = .ok (.if_icmp .eq 169, 3) := by decide +kernel
theorem dL_law_186 : decode cL_law 186 = .ok (.iconst 0, 1) := by decide +kernel
theorem dL_law_187 : decode cL_law 187 = .ok (.ireturn, 1) := by decide +kernel
theorem dL_law_188 : decode cL_law 188 = .ok (.aload_n 1, 1) := by decide +kernel
theorem dL_law_189 : decode cL_law 189 = .ok (.aload_n 0, 1) := by decide +kernel
theorem dL_law_190 : decode cL_law 190 = .ok (.iload_n 3, 1) := by decide +kernel
theorem dL_law_191 : decode cL_law 191 = .ok (.iconst 1, 1) := by decide +kernel
theorem dL_law_192 : decode cL_law 192 = .ok (.iadd, 1) := by decide +kernel
theorem dL_law_193 : decode cL_law 193 = .ok (.iaload, 1) := by decide +kernel
theorem dL_law_194 : decode cL_law 194 = .ok (.aload_n 0, 1) := by decide +kernel
theorem dL_law_195 : decode cL_law 195 = .ok (.iload_n 3, 1) := by decide +kernel
theorem dL_law_196 : decode cL_law 196 = .ok (.iconst 2, 1) := by decide +kernel
theorem dL_law_197 : decode cL_law 197 = .ok (.iadd, 1) := by decide +kernel
theorem dL_law_198 : decode cL_law 198 = .ok (.iaload, 1) := by decide +kernel
theorem dL_law_199 : decode cL_law 199 = .ok (.invokevirtual 33, 3) := by decide +kernel
theorem dL_law_202 : decode cL_law 202 = .ok (.aload_n 2, 1) := by decide +kernel
theorem dL_law_203 : decode cL_law 203 = .ok (.aload_n 0, 1) := by decide +kernel
theorem dL_law_204 : decode cL_law 204 = .ok (.iload_n 3, 1) := by decide +kernel
theorem dL_law_205 : decode cL_law 205 = .ok (.iconst 1, 1) := by decide +kernel
theorem dL_law_206 : decode cL_law 206 = .ok (.iadd, 1) := by decide +kernel
theorem dL_law_207 : decode cL_law 207 = .ok (.iaload, 1) := by decide +kernel
theorem dL_law_208 : decode cL_law 208 = .ok (.aload_n 0, 1) := by decide +kernel
theorem dL_law_209 : decode cL_law 209 = .ok (.iload_n 3, 1) := by decide +kernel
theorem dL_law_210 : decode cL_law 210 = .ok (.iconst 2, 1) := by decide +kernel
theorem dL_law_211 : decode cL_law 211 = .ok (.iadd, 1) := by decide +kernel
theorem dL_law_212 : decode cL_law 212 = .ok (.iaload, 1) := by decide +kernel
theorem dL_law_213 : decode cL_law 213 = .ok (.invokevirtual 37, 3) := by decide +kernel
theorem dL_law_216 : decode cL_law 216 = .ok (.if_icmp .eq 136, 3) := by decide +kernel
theorem dL_law_219 : decode cL_law 219 = .ok (.iconst 0, 1) := by decide +kernel
theorem dL_law_220 : decode cL_law 220 = .ok (.ireturn, 1) := by decide +kernel
theorem dL_law_221 : decode cL_law 221 = .ok (.aload_n 1, 1) := by decide +kernel
theorem dL_law_222 : decode cL_law 222 = .ok (.aload_n 0, 1) := by decide +kernel
theorem dL_law_223 : decode cL_law 223 = .ok (.iload_n 3, 1) := by decide +kernel
theorem dL_law_224 : decode cL_law 224 = .ok (.iconst 1, 1) := by decide +kernel
theorem dL_law_225 : decode cL_law 225 = .ok (.iadd, 1) := by decide +kernel
theorem dL_law_226 : decode cL_law 226 = .ok (.iaload, 1) := by decide +kernel
theorem dL_law_227 : decode cL_law 227 = .ok (.invokevirtual 38, 3) := by decide +kernel
theorem dL_law_230 : decode cL_law 230 = .ok (.aload_n 2, 1) := by decide +kernel
theorem dL_law_231 : decode cL_law 231 = .ok (.aload_n 0, 1) := by decide +kernel
theorem dL_law_232 : decode cL_law 232 = .ok (.iload_n 3, 1) := by decide +kernel
theorem dL_law_233 : decode cL_law 233 = .ok (.iconst 1, 1) := by decide +kernel
theorem dL_law_234 : decode cL_law 234 = .ok (.iadd, 1) := by decide +kernel
theorem dL_law_235 : decode cL_law 235 = .ok (.iaload, 1) := by decide +kernel
theorem dL_law_236 : decode cL_law 236 = .ok (.invokevirtual 41, 3) := by decide +kernel
theorem dL_law_239 : decode cL_law 239 = .ok (.if_icmp .eq 113, 3) := by decide +kernel
theorem dL_law_242 : decode cL_law 242 = .ok (.iconst 0, 1) := by decide +kernel
theorem dL_law_243 : decode cL_law 243 = .ok (.ireturn, 1) := by decide +kernel
theorem dL_law_244 : decode cL_law 244 = .ok (.aload_n 1, 1) := by decide +kernel
theorem dL_law_245 : decode cL_law 245 = .ok (.invokevirtual 42, 3) := by decide +kernel
theorem dL_law_248 : decode cL_law 248 = .ok (.aload_n 2, 1) := by decide +kernel
theorem dL_law_249 : decode cL_law 249 = .ok (.invokevirtual 46, 3) := by decide +kernel
theorem dL_law_252 : decode cL_law 252 = .ok (.if_icmp .eq 100, 3) := by decide +kernel
theorem dL_law_255 : decode cL_law 255 = .ok (.iconst 0, 1) := by decide +kernel
theorem dL_law_256 : decode cL_law 256 = .ok (.ireturn, 1) := by decide +kernel
theorem dL_law_257 : decode cL_law 257 = .ok (.aload_n 1, 1) := by decide +kernel
theorem dL_law_258 : decode cL_law 258 = .ok (.aload_n 0, 1) := by decide +kernel
theorem dL_law_259 : decode cL_law 259 = .ok (.iload_n 3, 1) := by decide +kernel
theorem dL_law_260 : decode cL_law 260 = .ok (.iconst 1, 1) := by decide +kernel
theorem dL_law_261 : decode cL_law 261 = .ok (.iadd, 1) := by decide +kernel
theorem dL_law_262 : decode cL_law 262 = .ok (.iaload, 1) := by decide +kernel
theorem dL_law_263 : decode cL_law 263 = .ok (.invokevirtual 47, 3) := by decide +kernel
theorem dL_law_266 : decode cL_law 266 = .ok (.aload_n 2, 1) := by decide +kernel
theorem dL_law_267 : decode cL_law 267 = .ok (.aload_n 0, 1) := by decide +kernel
theorem dL_law_268 : decode cL_law 268 = .ok (.iload_n 3, 1) := by decide +kernel
theorem dL_law_269 : decode cL_law 269 = .ok (.iconst 1, 1) := by decide +kernel
theorem dL_law_270 : decode cL_law 270 = .ok (.iadd, 1) := by decide +kernel
theorem dL_law_271 : decode cL_law 271 = .ok (.iaload, 1) := by decide +kernel
theorem dL_law_272 : decode cL_law 272 = .ok (.invokevirtual 50, 3) := by decide +kernel
theorem dL_law_275 : decode cL_law 275 = .ok (.if_icmp .eq 77, 3) := by decide +kernel
theorem dL_law_278 : decode cL_law 278 = .ok (.iconst 0, 1) := by decide +kernel
theorem dL_law_279 : decode cL_law 279 = .ok (.ireturn, 1) := by decide +kernel
theorem dL_law_280 : decode cL_law 280 = .ok (.aload_n 1, 1) := by decide +kernel
theorem dL_law_281 : decode cL_law 281 = .ok (.aload_n 0, 1) := by decide +kernel
theorem dL_law_282 : decode cL_law 282 = .ok (.iload_n 3, 1) := by decide +kernel
theorem dL_law_283 : decode cL_law 283 = .ok (.iconst 1, 1) := by decide +kernel
theorem dL_law_284 : decode cL_law 284 = .ok (.iadd, 1) := by decide +kernel
theorem dL_law_285 : decode cL_law 285 = .ok (.iaload, 1) := by decide +kernel
theorem dL_law_286 : decode cL_law 286 = .ok (.invokevirtual 51, 3) := by decide +kernel
theorem dL_law_289 : decode cL_law 289 = .ok (.aload_n 2, 1) := by decide +kernel
theorem dL_law_290 : decode cL_law 290 = .ok (.aload_n 0, 1) := by decide +kernel
theorem dL_law_291 : decode cL_law 291 = .ok (.iload_n 3, 1) := by decide +kernel
theorem dL_law_292 : decode cL_law 292 = .ok (.iconst 1, 1) := by decide +kernel
theorem dL_law_293 : decode cL_law 293 = .ok (.iadd, 1) := by decide +kernel
theorem dL_law_294 : decode cL_law 294 = .ok (.iaload, 1) := by decide +kernel
theorem dL_law_295 : decode cL_law 295 = .ok (.invokevirtual 54, 3) := by decide +kernel
theorem dL_law_298 : decode cL_law 298 = .ok (.if_icmp .eq 54, 3) := by decide +kernel
theorem dL_law_301 : decode cL_law 301 = .ok (.iconst 0, 1) := by decide +kernel
theorem dL_law_302 : decode cL_law 302 = .ok (.ireturn, 1) := by decide +kernel
theorem dL_law_303 : decode cL_law 303 = .ok (.aload_n 1, 1) := by decide +kernel
theorem dL_law_304 : decode cL_law 304 = .ok (.aload_n 0, 1) := by decide +kernel
theorem dL_law_305 : decode cL_law 305 = .ok (.iload_n 3, 1) := by decide +kernel
theorem dL_law_306 : decode cL_law 306 = .ok (.iconst 1, 1) := by decide +kernel
theorem dL_law_307 : decode cL_law 307 = .ok (.iadd, 1) := by decide +kernel
theorem dL_law_308 : decode cL_law 308 = .ok (.iaload, 1) := by decide +kernel
theorem dL_law_309 : decode cL_law 309 = .ok (.invokevirtual 55, 3) := by decide +kernel
theorem dL_law_312 : decode cL_law 312 = .ok (.aload_n 2, 1) := by decide +kernel
theorem dL_law_313 : decode cL_law 313 = .ok (.aload_n 0, 1) := by decide +kernel
theorem dL_law_314 : decode cL_law 314 = .ok (.iload_n 3, 1) := by decide +kernel
theorem dL_law_315 : decode cL_law 315 = .ok (.iconst 1, 1) := by decide +kernel
theorem dL_law_316 : decode cL_law 316 = .ok (.iadd, 1) := by decide +kernel
theorem dL_law_317 : decode cL_law 317 = .ok (.iaload, 1) := by decide +kernel
theorem dL_law_318 : decode cL_law 318 = .ok (.invokevirtual 58, 3) := by decide +kernel
theorem dL_law_321 : decode cL_law 321 = .ok (.if_icmp .eq 31, 3) := by decide +kernel
theorem dL_law_324 : decode cL_law 324 = .ok (.iconst 0, 1) := by decide +kernel
theorem dL_law_325 : decode cL_law 325 = .ok (.ireturn, 1) := by decide +kernel
theorem dL_law_326 : decode cL_law 326 = .ok (.aload_n 1, 1) := by decide +kernel
theorem dL_law_327 : decode cL_law 327 = .ok (.invokevirtual 59, 3) := by decide +kernel
theorem dL_law_330 : decode cL_law 330 = .ok (.aload_n 2, 1) := by decide +kernel
theorem dL_law_331 : decode cL_law 331 = .ok (.invokevirtual 62, 3) := by decide +kernel
theorem dL_law_334 : decode cL_law 334 = .ok (.if_icmp .eq 18, 3) := by decide +kernel
theorem dL_law_337 : decode cL_law 337 = .ok (.iconst 0, 1) := by decide +kernel
theorem dL_law_338 : decode cL_law 338 = .ok (.ireturn, 1) := by decide +kernel
theorem dL_law_339 : decode cL_law 339 = .ok (.aload_n 1, 1) := by decide +kernel
theorem dL_law_340 : decode cL_law 340 = .ok (.invokevirtual 63, 3) := by decide +kernel
theorem dL_law_343 : decode cL_law 343 = .ok (.aload_n 2, 1) := by decide +kernel
theorem dL_law_344 : decode cL_law 344 = .ok (.invokevirtual 66, 3) := by decide +kernel
theorem dL_law_347 : decode cL_law 347 = .ok (.if_icmp .eq 5, 3) := by decide +kernel
theorem dL_law_350 : decode cL_law 350 = .ok (.iconst 0, 1) := by decide +kernel
theorem dL_law_351 : decode cL_law 351 = .ok (.ireturn, 1) := by decide +kernel
theorem dL_law_352 : decode cL_law 352 = .ok (.iinc 3 3, 3) := by decide +kernel
theorem dL_law_355 : decode cL_law 355 = .ok (.goto (-337), 3) := by decide +kernel
theorem dL_law_358 : decode cL_law 358 = .ok (.iconst 1, 1) := by decide +kernel
theorem dL_law_359 : decode cL_law 359 = .ok (.ireturn, 1) := by decide +kernel
end
section
/-! words: those of lw_tbl that a call keeps; the nest mates' links apart -/
def TB : List Cond := lw_tbl.filter goodWord
theorem tb_in {w : Cond} (h : w ∈ TB) : w ∈ lw_tbl := (List.mem_filter.mp h).1
theorem tb_good {w : Cond} (h : w ∈ TB) : (w.onTables && w.keeps) = true ∨ ∃ ty, w = .arrayClass ty := good_of_word (List.mem_filter.mp h).2
theorem tb_mk {w : Cond} (i : Nat) (h : lw_tbl[i]? = some w) (hg : goodWord w = true) : w ∈ TB := List.mem_filter.mpr ⟨List.mem_of_getElem? h, hg⟩
def isNest : Cond → Bool
  | .fieldLinkNest .. => true
  | .methodLinkNest .. => true
  | _ => false
def NL : List Cond := lw_tbl.filter isNest
theorem nl_mk {w : Cond} (i : Nat) (h : lw_tbl[i]? = some w) (hg : isNest w = true) : w ∈ NL := List.mem_filter.mpr ⟨List.mem_of_getElem? h, hg⟩
def NW (U : State) : Prop := ∀ w ∈ NL, va_Nw w U
theorem NW.warm {s U : State} (hW : s.WarmedH U.vm) (h : NW s) : NW U := by
  intro w hw
  have hn := (List.mem_filter.mp hw).2
  have h1 := h w hw
  cases w <;> first | (exact va_Nw.warmF hW h1) | (exact va_Nw.warmM hW h1) | (exact absurd hn (by simp [isNest]))
theorem NW.same {s U : State} (e : s.vm = U.vm) (h : NW s) : NW U := by
  intro w hw
  have hn := (List.mem_filter.mp hw).2
  have h1 := h w hw
  refine va_Nw.same ?_ e h1
  cases w <;> first | rfl | (exact absurd hn (by simp [isNest]))
/-! a world that stands, bundled -/
def ZZ (D : va_G) (cI : ClassId) (ws : va_W) (A : Nat → Prop) (s : State) (H : Heap) (locs : List Loc) : Prop :=
  va_P D vwCl ws H ∧ va_D A ws ∧ va_S A s.heap H locs ∧ va_K D vwCl [(cI, .int)] s ∧ NW s ∧ (∀ q, s.heap.size ≤ q → A q)
def PRE (D : va_G) (cI : ClassId) (ws : va_W) (sz : Nat) : State → Prop := fun U => U.heap.size = sz ∧ va_P D vwCl ws U.heap ∧ va_K D vwCl [(cI, .int)] U ∧ va_D (fun _ => True) ws ∧ NW U
def PB (D : va_G) (cI : ClassId) (ws : va_W) (A : Nat → Prop) (t : State) : Prop := va_P D vwCl ws t.heap ∧ va_K D vwCl [(cI, .int)] t ∧ va_D A ws
def QQ (D : va_G) (cI : ClassId) (ws : va_W) (A : Nat → Prop) (o : Option Value) : Array Value → State → Outcome → State → Prop := fun _ st oc t => oc = .returned o ∧ PB D cI ws A t ∧ va_F A st t
/-- a contract: world ws becomes ws', the answer is o; no cell comes -/
def MI (l : Launch) (D : va_G) (cI : ClassId) (y : MethodName) (k : Cond) (rm : Room) (As : List Value) (ws ws' : va_W) (o : Option Value) : Prop :=
  ∀ sz, Met l y (k :: TB) rm (va_Pc As (PRE D cI ws sz)) (QQ D cI ws' (va_A ws sz) o) 0 0 (va_A ws sz)
theorem pre_blind {D : va_G} {cI : ClassId} {ws : va_W} {sz : Nat} {As : List Value} : FrameBlind (va_Pc As (PRE D cI ws sz)) := by
  intro a U g mk q
  obtain ⟨q0, q1, qP, qK, qD, qN⟩ := q
  exact ⟨q0, q1, qP, va_K.moved (u := U) (U := U.calling g mk a) (Vm.Alike.refl U.vm) qK, qD, NW.same (s := U) rfl qN⟩
/-! the words of a call -/
def WV (own : String) (idx : Nat) (C : String) (y : MethodName) (k : Cond) : Prop := Cond.methodLink own idx y ∈ TB ∧ Cond.instanceMethod y ∈ TB ∧ Cond.selects C y y ∈ TB ∧ Cond.initialized C ∈ TB ∧ k ∈ TB
def WS (own : String) (idx : Nat) (y : MethodName) (k : Cond) : Prop := Cond.methodLink own idx y ∈ TB ∧ Cond.static y ∈ TB ∧ Cond.initialized own ∈ TB ∧ k ∈ TB
def WN (own : String) (idx : Nat) (C : String) (y : MethodName) (k : Cond) (host : String) : Prop := Cond.methodLinkNest own idx y host ∈ NL ∧ Cond.instanceMethod y ∈ TB ∧ Cond.selects C y y ∈ TB ∧ Cond.initialized y.cls ∈ TB ∧ k ∈ TB
theorem good_k {Ts : List Cond} {k : Cond} (hTs : ∀ w ∈ TB, w ∈ Ts) (hk : k ∈ TB) : GoodIn Ts (k :: TB) := by
  intro w hw
  rcases List.mem_cons.mp hw with rfl | h
  · exact ⟨hTs _ hk, tb_good hk⟩
  · exact ⟨hTs _ h, tb_good h⟩
theorem good_V {Ts : List Cond} {own C : String} {idx : Nat} {y : MethodName} {k : Cond} (hTs : ∀ w ∈ TB, w ∈ Ts) (h : WV own idx C y k) : GoodIn Ts (wsV own idx C y (k :: TB)) := by
  obtain ⟨h1, h2, h3, h4, h5⟩ := h
  intro w hw
  unfold wsV at hw
  rcases List.mem_append.mp hw with hw | hw
  · have : w ∈ TB := by
      simp only [List.mem_cons, List.not_mem_nil, or_false] at hw
      rcases hw with rfl | rfl | rfl | rfl <;> assumption
    exact ⟨hTs _ this, tb_good this⟩
  · exact good_k hTs h5 w hw
theorem good_S {Ts : List Cond} {own : String} {idx : Nat} {y : MethodName} {k : Cond} (hTs : ∀ w ∈ TB, w ∈ Ts) (h : WS own idx y k) : GoodIn Ts (wsS own idx y (k :: TB)) := by
  obtain ⟨h1, h2, h3, h5⟩ := h
  intro w hw
  unfold wsS at hw
  rcases List.mem_append.mp hw with hw | hw
  · have : w ∈ TB := by
      simp only [List.mem_cons, List.not_mem_nil, or_false] at hw
      rcases hw with rfl | rfl | rfl <;> assumption
    exact ⟨hTs _ this, tb_good this⟩
  · exact good_k hTs h5 w hw
theorem fm_of_map {α β : Type} {f : α → Option β} {is : List α} {w : List β} (h : is.map f = w.map some) : is.filterMap f = w := by
  induction is generalizing w with
  | nil => cases w with
    | nil => rfl
    | cons a w => simp at h
  | cons i is ih => cases w with
    | nil => simp at h
    | cons a w =>
      simp only [List.map_cons, List.cons.injEq] at h
      rw [List.filterMap_cons, h.1]
      simp only [ih h.2]
theorem rng_map (w : va_W) : (List.range w.length).map (fun i => w[i]?) = w.map some := by
  apply List.ext_getElem?
  intro k
  by_cases hk : k < w.length
  · simp [hk]
  · simp [Nat.le_of_not_lt hk]
section BASE
variable {p : Program} {l : Launch} {e : Env} {R : Room} {s : State} {m : MethodId} {args : Array Value} {below : List Frame} {meth : Method} {c : Code} {H : Heap} {locs : List Loc} {cells slots : Nat} {Q : State → Prop}
variable {cc : ByteArray} {nL pc : Nat} {ls : Array Slot} {rest st0 : List Value} {D : va_G} {cI : ClassId} {A A1 : Nat → Prop} {ws wc wr w1 ws' : va_W} {Ts : List Cond} {own C : String} {mc ms : Nat}
theorem ZZ.perm (Z : ZZ D cI ws A s H locs) (is : List Nat) (hn : va_nd is = true) (hs : is.map (fun i => ws[i]?) = ws'.map some) : ZZ D cI ws' A s H locs :=
  ⟨Z.1.sub is (fm_of_map hs), Z.2.1.sub is hn hs, Z.2.2⟩
/-- behind a call: the world of the rest, and what the callee left -/
theorem callx {o : Option Value} {a : Array Value} (Z : ZZ D cI ws A s H locs) (isC isR : List Nat) (hC : isC.map (fun i => ws[i]?) = wc.map some) (hR : isR.map (fun i => ws[i]?) = wr.map some) (hn : va_nd isR = true) (hdis : ∀ i ∈ isR, i ∉ isC)
    (hr : va_Run p l e R s m args below meth c H locs cells slots mc ms (F0 m pc ls st0) rest (QQ D cI w1 (va_A wc H.size) o a) (va_A wc H.size))
    (kk : ∀ (H1 : Heap) (locs1 : List Loc), ZZ D cI (wr ++ w1) A s H1 locs1 → W p l e R s m args below meth c H1 locs1 (cells + mc) (slots + ms) Q (F0 m (pc + 3) ls (o.toList ++ rest))) : W p l e R s m args below meth c H locs cells slots Q (F0 m pc ls st0) := by
  obtain ⟨hP, hD, hS, hK, hN, hA⟩ := Z
  have hF := va_free (wc := wc) hD hS hA isC hC
  intro T hT X
  obtain ⟨v, st₀, t, T', L, h0, X', hL, e1, e2, ⟨hv, ⟨hP1, hK1, hD1⟩, hz, hk⟩, st⟩ := hr T hT X
  cases hv
  rw [h0] at hz hk
  rw [← e1] at hP1
  obtain ⟨hP2, hD2⟩ := va_join hP hD isC isR hC hR hn hdis (fun q h1 h2 => by rw [e1]; exact hk q h1 h2) hF hP1 hD1
  obtain ⟨t2, a1, b1⟩ := kk T'.heap (locs ++ L) ⟨hP2, hD2, ⟨Nat.le_trans hS.1 (by rw [e1]; exact hz), fun q h1 h2 => by rw [e1, hk q (Nat.lt_of_lt_of_le h1 hS.1) (fun z => h2 (hF q z))]; exact hS.2.1 q h1 h2, fun q hq => by
      rcases List.mem_append.mp hq with h | h
      · exact hS.2.2 q h
      · exact hF _ (hL q h)⟩, hK, hN, hA⟩ T' rfl X'
  exact ⟨t2, st t2 a1, b1⟩
variable {y : MethodName} {bytes : ByteArray} {maxL index : Nat} {ret : Option FieldType} {rm : Room} {As : List Value} {b ci : Nat} {fs : List Value} {qq : vw_C} {o : Option Value} {host : String}
theorem pre_of (Z : ZZ D cI ws A s H locs) (isC : List Nat) (hC : isC.map (fun i => ws[i]?) = wc.map some) (hnd : va_nd isC = true) : ∀ U : State, U.heap = H → s.WarmedH U.vm → va_Pc As (PRE D cI wc H.size) As.toArray U := by
  intro U hU hW
  exact ⟨rfl, by rw [hU], by rw [hU]; exact Z.1.sub isC (fm_of_map hC), va_K.moved hW.alike Z.2.2.2.1, (Z.2.1.sub isC hnd hC).weaken (fun _ _ _ _ => trivial), Z.2.2.2.2.1.warm hW⟩
theorem pre_all (Z : ZZ D cI ws A s H locs) : ∀ U : State, U.heap = H → s.WarmedH U.vm → va_Pc As (PRE D cI ws H.size) As.toArray U := by
  intro U hU hW
  exact ⟨rfl, by rw [hU], by rw [hU]; exact Z.1, va_K.moved hW.alike Z.2.2.2.1, Z.2.1.weaken (fun _ _ _ _ => trivial), Z.2.2.2.2.1.warm hW⟩
abbrev HD (y : MethodName) (n : Nat) : Prop := y.cls ≠ "java/lang/invoke/MethodHandle" ∧ y.cls ≠ "java/lang/invoke/VarHandle" ∧ (parseMethodDescriptor y.desc).map (fun d => d.parameters.length) = some n
/-- a virtual call over the whole world -/
theorem call_V (X : CallFix p m c cc nL s args Ts own) (hTs : ∀ w ∈ TB, w ∈ Ts) (Z : ZZ D cI ws A s H locs) (k : WV own index qq.1 y (.code y bytes maxL ret)) (hM : MI l D cI y (.code y bytes maxL ret) rm (.ref b :: As) ws ws' o)
    (he : ws[0]? = some (b, .inr (ci, fs))) (hci : vwCl[ci]? = some qq) (hd : y.cls = qq.1 ∧ HD y As.length) (hR : rm.frames + 1 ≤ R.frames ∧ 8 + (maxL + 11) + rm.locals ≤ R.locals) (h0 : rm.cells = 0 ∧ rm.slots = 0)
    (hsize : ls.size = nL) (hst : st0 = As.reverse ++ .ref b :: rest) (hrm : (rest.map fun v => v.category).sum ≤ 8) (hcs : cells ≤ R.cells ∧ slots ≤ R.slots) (hdg : decode cc pc = .ok (.invokevirtual index, 3))
    (kk : ∀ (H1 : Heap) (locs1 : List Loc), ZZ D cI ws' A s H1 locs1 → W p l e R s m args below meth c H1 locs1 cells slots Q (F0 m (pc + 3) ls (o.toList ++ rest))) : W p l e R s m args below meth c H locs cells slots Q (F0 m pc ls st0) :=
  callx (mc := 0) (ms := 0) (wr := []) Z (List.range ws.length) [] (rng_map ws) rfl rfl (fun _ h => by cases h)
    (va_runV (As := As) (rest := rest) X (hM H.size) (cwV As.length X.2.2.2.2 (good_V hTs k) rfl h0.1 h0.2 ⟨hd.1, hd.2⟩ hR) ⟨pre_blind, va_recv Z.2.2.2.1 Z.1 hci he, pre_all Z⟩ rfl rfl hsize hst (lv_room hrm) hdg hcs) kk
/-- a virtual call over a part of the world -/
theorem call_VP (X : CallFix p m c cc nL s args Ts own) (hTs : ∀ w ∈ TB, w ∈ Ts) (Z : ZZ D cI ws A s H locs) (isC isR : List Nat) (hC : isC.map (fun i => ws[i]?) = wc.map some) (hR0 : isR.map (fun i => ws[i]?) = wr.map some) (hnC : va_nd isC = true) (hn : va_nd isR = true) (hdis : ∀ i ∈ isR, i ∉ isC) (k : WV own index qq.1 y (.code y bytes maxL ret)) (hM : MI l D cI y (.code y bytes maxL ret) rm (.ref b :: As) wc w1 o)
    (he : wc[0]? = some (b, .inr (ci, fs))) (hci : vwCl[ci]? = some qq) (hd : y.cls = qq.1 ∧ HD y As.length) (hR : rm.frames + 1 ≤ R.frames ∧ 8 + (maxL + 11) + rm.locals ≤ R.locals) (h0 : rm.cells = 0 ∧ rm.slots = 0)
    (hsize : ls.size = nL) (hst : st0 = As.reverse ++ .ref b :: rest) (hrm : (rest.map fun v => v.category).sum ≤ 8) (hcs : cells ≤ R.cells ∧ slots ≤ R.slots) (hdg : decode cc pc = .ok (.invokevirtual index, 3))
    (kk : ∀ (H1 : Heap) (locs1 : List Loc), ZZ D cI (wr ++ w1) A s H1 locs1 → W p l e R s m args below meth c H1 locs1 cells slots Q (F0 m (pc + 3) ls (o.toList ++ rest))) : W p l e R s m args below meth c H locs cells slots Q (F0 m pc ls st0) :=
  callx (mc := 0) (ms := 0) Z isC isR hC hR0 hn hdis
    (va_runV (As := As) (rest := rest) X (hM H.size) (cwV As.length X.2.2.2.2 (good_V hTs k) rfl h0.1 h0.2 ⟨hd.1, hd.2⟩ hR) ⟨pre_blind, va_recv Z.2.2.2.1 (Z.1.sub isC (fm_of_map hC)) hci he, pre_of Z isC hC hnC⟩ rfl rfl hsize hst (lv_room hrm) hdg hcs) kk
/-- a call of a nest mate's private method, over a part of the world -/
theorem call_N (X : CallFix p m c cc nL s args Ts own) (hTs : ∀ w ∈ TB, w ∈ Ts) (Z : ZZ D cI ws A s H locs) (isC isR : List Nat) (hC : isC.map (fun i => ws[i]?) = wc.map some) (hR0 : isR.map (fun i => ws[i]?) = wr.map some) (hnC : va_nd isC = true) (hn : va_nd isR = true) (hdis : ∀ i ∈ isR, i ∉ isC) (k : WN own index qq.1 y (.code y bytes maxL ret) host) (hM : MI l D cI y (.code y bytes maxL ret) rm (.ref b :: As) wc w1 o)
    (he : wc[0]? = some (b, .inr (ci, fs))) (hci : vwCl[ci]? = some qq) (hd : HD y As.length) (hR : rm.frames + 1 ≤ R.frames ∧ 8 + (maxL + 11) + rm.locals ≤ R.locals) (h0 : rm.cells = 0 ∧ rm.slots = 0)
    (hsize : ls.size = nL) (hst : st0 = As.reverse ++ .ref b :: rest) (hrm : (rest.map fun v => v.category).sum ≤ 8) (hcs : cells ≤ R.cells ∧ slots ≤ R.slots) (hdg : decode cc pc = .ok (.invokevirtual index, 3))
    (kk : ∀ (H1 : Heap) (locs1 : List Loc), ZZ D cI (wr ++ w1) A s H1 locs1 → W p l e R s m args below meth c H1 locs1 cells slots Q (F0 m (pc + 3) ls (o.toList ++ rest))) : W p l e R s m args below meth c H locs cells slots Q (F0 m pc ls st0) :=
  have ht := X.2.2.2.2
  callx (mc := 0) (ms := 0) Z isC isR hC hR0 hn hdis
    (va_runVN (C := qq.1) (host := host) (As := As) (rest := rest) X (hM H.size) ⟨va_cnB As.length ht (good_k hTs k.2.2.2.2) rfl h0.1 h0.2 (Z.2.2.2.2.1 _ k.1) (ht _ (hTs _ k.2.2.2.1)) hd hR, ht _ (hTs _ k.2.1), ht _ (hTs _ k.2.2.1)⟩ ⟨pre_blind, va_recv Z.2.2.2.1 (Z.1.sub isC (fm_of_map hC)) hci he, pre_of Z isC hC hnC⟩ rfl rfl hsize hst (lv_room hrm) hdg hcs) kk
/-- a static call -/
theorem call_S (X : CallFix p m c cc nL s args Ts own) (hTs : ∀ w ∈ TB, w ∈ Ts) (Z : ZZ D cI ws A s H locs) (k : WS own index y (.code y bytes maxL ret)) (hM : MI l D cI y (.code y bytes maxL ret) rm As ws ws o)
    (hd : y.cls = own ∧ HD y As.length) (hR : rm.frames + 1 ≤ R.frames ∧ 8 + (maxL + 11) + rm.locals ≤ R.locals) (h0 : rm.cells = 0 ∧ rm.slots = 0)
    (hsize : ls.size = nL) (hst : st0 = As.reverse ++ rest) (hrm : (rest.map fun v => v.category).sum ≤ 8) (hcs : cells ≤ R.cells ∧ slots ≤ R.slots) (hdg : decode cc pc = .ok (.invokestatic index, 3))
    (kk : ∀ (H1 : Heap) (locs1 : List Loc), ZZ D cI ws A s H1 locs1 → W p l e R s m args below meth c H1 locs1 cells slots Q (F0 m (pc + 3) ls (o.toList ++ rest))) : W p l e R s m args below meth c H locs cells slots Q (F0 m pc ls st0) :=
  callx (mc := 0) (ms := 0) (wr := []) Z (List.range ws.length) [] (rng_map ws) rfl rfl (fun _ h => by cases h)
    (va_runS (As := As) (rest := rest) X (hM H.size) (cwS As.length X.2.2.2.2 (good_S hTs k) rfl h0.1 h0.2 ⟨hd.1, hd.2⟩ hR) ⟨pre_blind, pre_all Z⟩ rfl rfl hsize hst (lv_room hrm) hdg hcs) kk
/-- a method's beginning -/
theorem MI.of (hy : plainName y.cls = true) (hyc : y.cls = own) (hlen : (lg_sl As).length ≤ nL)
    (body : ∀ (p : Program) (e : Env) (s : State) (m : MethodId) (below : List Frame) (meth : Method) (c : Code) (A : Nat → Prop) (ls : Array Slot), CallFix p m c cc nL s As.toArray (Cond.code y cc nL ret :: TB) own → meth.locks = false → meth.sig.returnType = ret → ZZ D cI ws A s s.heap [] → lv_has ls nL (lv_args 0 As) →
      W p l e rm s m As.toArray below meth c s.heap [] 0 0 (MQ below (QQ D cI ws' A o) As.toArray s 0 0 A) (F0 m 0 ls [])) : MI l D cI y (.code y cc nL ret) rm As ws ws' o := by
  intro sz
  refine Met.ofW (cc := cc) (maxL := nL) (ret := ret) hy rfl ?_
  intro p e s m args below meth c s₁ B hml hv
  obtain ⟨rfl, hsz, hP, hK, hD0, hN⟩ := hv
  have hts := atoms_spec (ws := Cond.code y cc nL ret :: TB) B.pre
  have hown : s.vm.findClass own = some m.cls := by rw [← hyc]; exact findClass_of_methodNamed B.named
  subst hsz
  have hD := hD0.self (sz := s.heap.size)
  have hA : ∀ q, s.heap.size ≤ q → va_A ws s.heap.size q := fun q h => Or.inr h
  rw [lg_entry_eq]
  exact body p e s m below meth c _ _ ⟨B.exec, B.bytes, hml, hown, hts⟩ B.notSynchronized B.returns ⟨hP, hD, va_S.rf, hK, hN, hA⟩ (lv_entry As hlen)
theorem ret_i {v r : Int32} (X : CallFix p m c cc nL s args Ts own) (hlk : meth.locks = false) (hr : meth.sig.returnType = some .int) (Z : ZZ D cI ws A s H locs) (hw : ws = ws') (hv : v = r) (hdg : decode cc pc = .ok (.ireturn, 1)) :
    W p l e R s m args below meth c H locs 0 0 (MQ below (QQ D cI ws' A (some (.int r))) args s 0 0 A) (F0 m pc ls [.int v]) := by
  subst hw; subst hv
  exact W.iret X.1 X.2.1 hr (fun t ht hW => ⟨rfl, ⟨by rw [ht]; exact Z.1, va_K.moved hW.alike Z.2.2.2.1, Z.2.1⟩, Z.2.2.1.F ht⟩) Z.2.2.1.2.2 hdg hlk
theorem ret_z {v r : Int32} (X : CallFix p m c cc nL s args Ts own) (hlk : meth.locks = false) (hr : meth.sig.returnType = some .boolean) (Z : ZZ D cI ws A s H locs) (hw : ws = ws') (hv : v = r) (hn : narrow .boolean (.int v) = .int v) (hdg : decode cc pc = .ok (.ireturn, 1)) :
    W p l e R s m args below meth c H locs 0 0 (MQ below (QQ D cI ws' A (some (.int r))) args s 0 0 A) (F0 m pc ls [.int v]) := by
  subst hw; subst hv
  exact W.zret X.1 X.2.1 hr hn (fun t ht hW => ⟨rfl, ⟨by rw [ht]; exact Z.1, va_K.moved hW.alike Z.2.2.2.1, Z.2.1⟩, Z.2.2.1.F ht⟩) Z.2.2.1.2.2 hdg hlk
theorem ret_v (X : CallFix p m c cc nL s args Ts own) (hlk : meth.locks = false) (hr : meth.sig.returnType = none) (Z : ZZ D cI ws A s H locs) (hw : ws = ws') (hdg : decode cc pc = .ok (.return_, 1)) :
    W p l e R s m args below meth c H locs 0 0 (MQ below (QQ D cI ws' A none) args s 0 0 A) (F0 m pc ls []) := by
  subst hw
  exact W.vret X.1 X.2.1 hr (fun t ht hW => ⟨rfl, ⟨by rw [ht]; exact Z.1, va_K.moved hW.alike Z.2.2.2.1, Z.2.1⟩, Z.2.2.1.F ht⟩) Z.2.2.1.2.2 hdg hlk
/-- fields and arrays of a world's cell, by its place -/
theorem z_get {ref : String} {T : u_T} {N : Nat} {a : Nat} (X : CallFix p m c cc nL s args Ts own) (hTs : ∀ w ∈ TB, w ∈ Ts) (Z : ZZ D cI ws A s H locs) (hin : ∀ w ∈ u_ws C T N, w ∈ TB) (q0 : Nat) (he : ws[q0]? = some (a, .inr (ci, fs))) (hc : vwCl[ci]? = some (C, T, N)) (k : Nat) (hk : k < N) (hl : Cond.fieldLink own index ref (T k).2.1 (T k).2.2.1 ∈ TB) (hrf : (T k).1 = ref) {v : Value} (hv : fs[k]? = some v) (hdg : decode cc pc = .ok (.getfield index, 3))
    (kk : W p l e R s m args below meth c H locs cells slots Q (F0 m (pc + 3) ls (v :: rest))) : W p l e R s m args below meth c H locs cells slots Q (F0 m pc ls (.ref a :: rest)) := by
  subst hrf
  exact va_get X.1 X.2.1 X.2.2.2.2 (fun w h => hTs w (hin w h)) X.2.2.2.1 Z.2.2.2.1 Z.1 q0 he hc k hk (X.2.2.2.2 _ (hTs _ hl)) (fun _ h => h) hv hdg kk
theorem z_getN {ref : String} {T : u_T} {N : Nat} {a : Nat} (X : CallFix p m c cc nL s args Ts own) (hTs : ∀ w ∈ TB, w ∈ Ts) (Z : ZZ D cI ws A s H locs) (hin : ∀ w ∈ u_ws C T N, w ∈ TB) (q0 : Nat) (he : ws[q0]? = some (a, .inr (ci, fs))) (hc : vwCl[ci]? = some (C, T, N)) (k : Nat) (hk : k < N) (hl : Cond.fieldLinkNest own index ref (T k).2.1 (T k).2.2.1 host ∈ NL) (hrf : (T k).1 = ref) {v : Value} (hv : fs[k]? = some v) (hdg : decode cc pc = .ok (.getfield index, 3))
    (kk : W p l e R s m args below meth c H locs cells slots Q (F0 m (pc + 3) ls (v :: rest))) : W p l e R s m args below meth c H locs cells slots Q (F0 m pc ls (.ref a :: rest)) := by
  subst hrf
  exact va_getN X.1 X.2.1 X.2.2.2.2 (fun w h => hTs w (hin w h)) X.2.2.2.1 Z.2.2.2.1 Z.1 q0 he hc k hk (va_Nw.use rfl (Z.2.2.2.2.1 _ hl)) (fun _ h => h) hv hdg kk
theorem z_put {ref : String} {T : u_T} {N : Nat} {a : Nat} (X : CallFix p m c cc nL s args Ts own) (hTs : ∀ w ∈ TB, w ∈ Ts) (Z : ZZ D cI ws A s H locs) (hin : ∀ w ∈ u_ws C T N, w ∈ TB) (ty0 : Nat → FieldType) (hty : ∀ k, k < N → parseFieldDescriptor (T k).2.2.1 = some (ty0 k)) (hnm : ∀ a, a < N → ∀ b, b < N → a ≠ b → (T a).2.1 ≠ (T b).2.1) (q0 : Nat) (he : ws[q0]? = some (a, .inr (ci, fs))) (hc : vwCl[ci]? = some (C, T, N)) (k : Nat) (hk : k < N) (hl : Cond.fieldLink own index ref (T k).2.1 (T k).2.2.1 ∈ TB) (hrf : (T k).1 = ref) (hfin : (T k).2.2.2 = false) {ty : FieldType} {v : Value} (hd : parseFieldDescriptor (T k).2.2.1 = some ty) (hn : narrow ty v = v) (hfit : fits ty v = true) (hlen : k < fs.length) (hw : ws.set q0 (a, .inr (ci, fs.set k v)) = ws') (hdg : decode cc pc = .ok (.putfield index, 3))
    (kk : ∀ (H1 : Heap) (locs1 : List Loc), ZZ D cI ws' A s H1 locs1 → W p l e R s m args below meth c H1 locs1 cells slots Q (F0 m (pc + 3) ls rest)) : W p l e R s m args below meth c H locs cells slots Q (F0 m pc ls (v :: .ref a :: rest)) := by
  subst hrf; subst hw
  exact va_put X.1 X.2.1 X.2.2.2.2 (fun w h => hTs w (hin w h)) ty0 hty hnm X.2.2.2.1 Z.2.2.2.1 Z.1 Z.2.1 Z.2.2.1 q0 he hc k hk (X.2.2.2.2 _ (hTs _ hl)) (fun _ h => h) hfin hd hn hfit hlen hdg (fun H1 locs1 h1 h2 h3 => kk H1 locs1 ⟨h1, h2, h3, Z.2.2.2⟩)
theorem z_putN {ref : String} {T : u_T} {N : Nat} {a : Nat} (X : CallFix p m c cc nL s args Ts own) (hTs : ∀ w ∈ TB, w ∈ Ts) (Z : ZZ D cI ws A s H locs) (hin : ∀ w ∈ u_ws C T N, w ∈ TB) (ty0 : Nat → FieldType) (hty : ∀ k, k < N → parseFieldDescriptor (T k).2.2.1 = some (ty0 k)) (hnm : ∀ a, a < N → ∀ b, b < N → a ≠ b → (T a).2.1 ≠ (T b).2.1) (q0 : Nat) (he : ws[q0]? = some (a, .inr (ci, fs))) (hc : vwCl[ci]? = some (C, T, N)) (k : Nat) (hk : k < N) (hl : Cond.fieldLinkNest own index ref (T k).2.1 (T k).2.2.1 host ∈ NL) (hrf : (T k).1 = ref) (hfin : (T k).2.2.2 = false) {ty : FieldType} {v : Value} (hd : parseFieldDescriptor (T k).2.2.1 = some ty) (hn : narrow ty v = v) (hfit : fits ty v = true) (hlen : k < fs.length) (hw : ws.set q0 (a, .inr (ci, fs.set k v)) = ws') (hdg : decode cc pc = .ok (.putfield index, 3))
    (kk : ∀ (H1 : Heap) (locs1 : List Loc), ZZ D cI ws' A s H1 locs1 → W p l e R s m args below meth c H1 locs1 cells slots Q (F0 m (pc + 3) ls rest)) : W p l e R s m args below meth c H locs cells slots Q (F0 m pc ls (v :: .ref a :: rest)) := by
  subst hrf; subst hw
  exact va_putN X.1 X.2.1 X.2.2.2.2 (fun w h => hTs w (hin w h)) ty0 hty hnm X.2.2.2.1 Z.2.2.2.1 Z.1 Z.2.1 Z.2.2.1 q0 he hc k hk (va_Nw.use rfl (Z.2.2.2.2.1 _ hl)) (fun _ h => h) hfin hd hn hfit hlen hdg (fun H1 locs1 h1 h2 h3 => kk H1 locs1 ⟨h1, h2, h3, Z.2.2.2⟩)
theorem z_ld {a n : Nat} {f : Nat → Int32} (X : CallFix p m c cc nL s args Ts own) (Z : ZZ D cI ws A s H locs) (q0 : Nat) (he : ws[q0]? = some (a, .inl (cI, n, .inl f))) {i : Int32} (hi : vp_in i n) {j : Nat} (hj : i.toNatClampNeg = j) (hdg : decode cc pc = .ok (.iaload, 1))
    (kk : W p l e R s m args below meth c H locs cells slots Q (F0 m (pc + 1) ls (.int (f j) :: rest))) : W p l e R s m args below meth c H locs cells slots Q (F0 m pc ls (.int i :: .ref a :: rest)) := by
  subst hj
  exact va_iald X.1 X.2.1 Z.2.2.2.1 Z.1 q0 0 he rfl hi hdg kk
theorem z_st {a n : Nat} {f : Nat → Int32} (X : CallFix p m c cc nL s args Ts own) (Z : ZZ D cI ws A s H locs) (q0 : Nat) (he : ws[q0]? = some (a, .inl (cI, n, .inl f))) {i x : Int32} (hi : vp_in i n) {j : Nat} (hj : i.toNatClampNeg = j) (hw : ws.set q0 (a, .inl (cI, n, .inl (upd f j x))) = ws') (hdg : decode cc pc = .ok (.iastore, 1))
    (kk : ∀ (H1 : Heap) (locs1 : List Loc), ZZ D cI ws' A s H1 locs1 → W p l e R s m args below meth c H1 locs1 cells slots Q (F0 m (pc + 1) ls rest)) : W p l e R s m args below meth c H locs cells slots Q (F0 m pc ls (.int x :: .int i :: .ref a :: rest)) := by
  subst hj; subst hw
  exact va_iast X.1 X.2.1 Z.2.2.2.1 Z.1 Z.2.1 Z.2.2.1 q0 0 he rfl hi hdg (fun H1 locs1 h1 h2 h3 => kk H1 locs1 ⟨h1, h2, h3, Z.2.2.2⟩)
/-- a method's beginning, with its answers as a hypothesis -/
theorem MI.ofI {r : Int32} (hy : plainName y.cls = true) (hyc : y.cls = own) (hlen : (lg_sl As).length ≤ nL)
    (body : ∀ (p : Program) (e : Env) (s : State) (m : MethodId) (args : Array Value) (below : List Frame) (meth : Method) (c : Code) (A : Nat → Prop) (ls : Array Slot) (Q : State → Prop), CallFix p m c cc nL s args (Cond.code y cc nL (some .int) :: TB) own → ZZ D cI ws A s s.heap [] → lv_has ls nL (lv_args 0 As) →
      (∀ (v : Int32) (w : va_W) (H : Heap) (locs : List Loc) (ls : Array Slot) (pc : Nat), ZZ D cI w A s H locs → w = ws' → v = r → decode cc pc = .ok (.ireturn, 1) → W p l e rm s m args below meth c H locs 0 0 Q (F0 m pc ls [.int v])) →
      W p l e rm s m args below meth c s.heap [] 0 0 Q (F0 m 0 ls [])) : MI l D cI y (.code y cc nL (some .int)) rm As ws ws' (some (.int r)) :=
  MI.of hy hyc hlen (fun p e s m below meth c A ls X hlk hr Z hl => body p e s m _ below meth c A ls _ X Z hl (fun _ _ _ _ _ _ Z hw hv hd => ret_i X hlk hr Z hw hv hd))
theorem MI.ofZ {r : Int32} (hy : plainName y.cls = true) (hyc : y.cls = own) (hlen : (lg_sl As).length ≤ nL)
    (body : ∀ (p : Program) (e : Env) (s : State) (m : MethodId) (args : Array Value) (below : List Frame) (meth : Method) (c : Code) (A : Nat → Prop) (ls : Array Slot) (Q : State → Prop), CallFix p m c cc nL s args (Cond.code y cc nL (some .boolean) :: TB) own → ZZ D cI ws A s s.heap [] → lv_has ls nL (lv_args 0 As) →
      (∀ (v : Int32) (w : va_W) (H : Heap) (locs : List Loc) (ls : Array Slot) (pc : Nat), ZZ D cI w A s H locs → w = ws' → v = r → narrow .boolean (.int v) = .int v → decode cc pc = .ok (.ireturn, 1) → W p l e rm s m args below meth c H locs 0 0 Q (F0 m pc ls [.int v])) →
      W p l e rm s m args below meth c s.heap [] 0 0 Q (F0 m 0 ls [])) : MI l D cI y (.code y cc nL (some .boolean)) rm As ws ws' (some (.int r)) :=
  MI.of hy hyc hlen (fun p e s m below meth c A ls X hlk hr Z hl => body p e s m _ below meth c A ls _ X Z hl (fun _ _ _ _ _ _ Z hw hv hn hd => ret_z X hlk hr Z hw hv hn hd))
theorem MI.ofV (hy : plainName y.cls = true) (hyc : y.cls = own) (hlen : (lg_sl As).length ≤ nL)
    (body : ∀ (p : Program) (e : Env) (s : State) (m : MethodId) (args : Array Value) (below : List Frame) (meth : Method) (c : Code) (A : Nat → Prop) (ls : Array Slot) (Q : State → Prop), CallFix p m c cc nL s args (Cond.code y cc nL none :: TB) own → ZZ D cI ws A s s.heap [] → lv_has ls nL (lv_args 0 As) →
      (∀ (w : va_W) (H : Heap) (locs : List Loc) (ls : Array Slot) (pc : Nat), ZZ D cI w A s H locs → w = ws' → decode cc pc = .ok (.return_, 1) → W p l e rm s m args below meth c H locs 0 0 Q (F0 m pc ls [])) →
      W p l e rm s m args below meth c s.heap [] 0 0 Q (F0 m 0 ls [])) : MI l D cI y (.code y cc nL none) rm As ws ws' none :=
  MI.of hy hyc hlen (fun p e s m below meth c A ls X hlk hr Z hl => body p e s m _ below meth c A ls _ X Z hl (fun _ _ _ _ _ Z hw hd => ret_v X hlk hr Z hw hd))
theorem call_Vi {r : Int32} (X : CallFix p m c cc nL s args Ts own) (hTs : ∀ w ∈ TB, w ∈ Ts) (Z : ZZ D cI ws A s H locs) (k : WV own index qq.1 y (.code y bytes maxL ret)) (hM : MI l D cI y (.code y bytes maxL ret) rm (.ref b :: As) ws ws' (some (.int r)))
    (he : ws[0]? = some (b, .inr (ci, fs))) (hci : vwCl[ci]? = some qq) (hd : y.cls = qq.1 ∧ HD y As.length) (hR : rm.frames + 1 ≤ R.frames ∧ 8 + (maxL + 11) + rm.locals ≤ R.locals) (h0 : rm.cells = 0 ∧ rm.slots = 0)
    (hsize : ls.size = nL) (hst : st0 = As.reverse ++ .ref b :: rest) (hrm : (rest.map fun v => v.category).sum ≤ 8) (hcs : cells ≤ R.cells ∧ slots ≤ R.slots) (hdg : decode cc pc = .ok (.invokevirtual index, 3))
    (kk : ∀ (H1 : Heap) (locs1 : List Loc), ZZ D cI ws' A s H1 locs1 → W p l e R s m args below meth c H1 locs1 cells slots Q (F0 m (pc + 3) ls (.int r :: rest))) : W p l e R s m args below meth c H locs cells slots Q (F0 m pc ls st0) :=
  call_V (rest := rest) X hTs Z k hM he hci hd hR h0 hsize hst hrm hcs hdg kk
theorem call_Vv (X : CallFix p m c cc nL s args Ts own) (hTs : ∀ w ∈ TB, w ∈ Ts) (Z : ZZ D cI ws A s H locs) (k : WV own index qq.1 y (.code y bytes maxL ret)) (hM : MI l D cI y (.code y bytes maxL ret) rm (.ref b :: As) ws ws' none)
    (he : ws[0]? = some (b, .inr (ci, fs))) (hci : vwCl[ci]? = some qq) (hd : y.cls = qq.1 ∧ HD y As.length) (hR : rm.frames + 1 ≤ R.frames ∧ 8 + (maxL + 11) + rm.locals ≤ R.locals) (h0 : rm.cells = 0 ∧ rm.slots = 0)
    (hsize : ls.size = nL) (hst : st0 = As.reverse ++ .ref b :: rest) (hrm : (rest.map fun v => v.category).sum ≤ 8) (hcs : cells ≤ R.cells ∧ slots ≤ R.slots) (hdg : decode cc pc = .ok (.invokevirtual index, 3))
    (kk : ∀ (H1 : Heap) (locs1 : List Loc), ZZ D cI ws' A s H1 locs1 → W p l e R s m args below meth c H1 locs1 cells slots Q (F0 m (pc + 3) ls rest)) : W p l e R s m args below meth c H locs cells slots Q (F0 m pc ls st0) :=
  call_V (rest := rest) X hTs Z k hM he hci hd hR h0 hsize hst hrm hcs hdg kk
theorem call_VPi {r : Int32} (X : CallFix p m c cc nL s args Ts own) (hTs : ∀ w ∈ TB, w ∈ Ts) (Z : ZZ D cI ws A s H locs) (isC isR : List Nat) (hC : isC.map (fun i => ws[i]?) = wc.map some) (hR0 : isR.map (fun i => ws[i]?) = wr.map some) (hnC : va_nd isC = true) (hn : va_nd isR = true) (hdis : ∀ i ∈ isR, i ∉ isC) (k : WV own index qq.1 y (.code y bytes maxL ret)) (hM : MI l D cI y (.code y bytes maxL ret) rm (.ref b :: As) wc w1 (some (.int r)))
    (he : wc[0]? = some (b, .inr (ci, fs))) (hci : vwCl[ci]? = some qq) (hd : y.cls = qq.1 ∧ HD y As.length) (hR : rm.frames + 1 ≤ R.frames ∧ 8 + (maxL + 11) + rm.locals ≤ R.locals) (h0 : rm.cells = 0 ∧ rm.slots = 0)
    (hsize : ls.size = nL) (hst : st0 = As.reverse ++ .ref b :: rest) (hrm : (rest.map fun v => v.category).sum ≤ 8) (hcs : cells ≤ R.cells ∧ slots ≤ R.slots) (hdg : decode cc pc = .ok (.invokevirtual index, 3))
    (kk : ∀ (H1 : Heap) (locs1 : List Loc), ZZ D cI (wr ++ w1) A s H1 locs1 → W p l e R s m args below meth c H1 locs1 cells slots Q (F0 m (pc + 3) ls (.int r :: rest))) : W p l e R s m args below meth c H locs cells slots Q (F0 m pc ls st0) :=
  call_VP (rest := rest) X hTs Z isC isR hC hR0 hnC hn hdis k hM he hci hd hR h0 hsize hst hrm hcs hdg kk
theorem call_VPv (X : CallFix p m c cc nL s args Ts own) (hTs : ∀ w ∈ TB, w ∈ Ts) (Z : ZZ D cI ws A s H locs) (isC isR : List Nat) (hC : isC.map (fun i => ws[i]?) = wc.map some) (hR0 : isR.map (fun i => ws[i]?) = wr.map some) (hnC : va_nd isC = true) (hn : va_nd isR = true) (hdis : ∀ i ∈ isR, i ∉ isC) (k : WV own index qq.1 y (.code y bytes maxL ret)) (hM : MI l D cI y (.code y bytes maxL ret) rm (.ref b :: As) wc w1 none)
    (he : wc[0]? = some (b, .inr (ci, fs))) (hci : vwCl[ci]? = some qq) (hd : y.cls = qq.1 ∧ HD y As.length) (hR : rm.frames + 1 ≤ R.frames ∧ 8 + (maxL + 11) + rm.locals ≤ R.locals) (h0 : rm.cells = 0 ∧ rm.slots = 0)
    (hsize : ls.size = nL) (hst : st0 = As.reverse ++ .ref b :: rest) (hrm : (rest.map fun v => v.category).sum ≤ 8) (hcs : cells ≤ R.cells ∧ slots ≤ R.slots) (hdg : decode cc pc = .ok (.invokevirtual index, 3))
    (kk : ∀ (H1 : Heap) (locs1 : List Loc), ZZ D cI (wr ++ w1) A s H1 locs1 → W p l e R s m args below meth c H1 locs1 cells slots Q (F0 m (pc + 3) ls rest)) : W p l e R s m args below meth c H locs cells slots Q (F0 m pc ls st0) :=
  call_VP (rest := rest) X hTs Z isC isR hC hR0 hnC hn hdis k hM he hci hd hR h0 hsize hst hrm hcs hdg kk
theorem call_Ni {r : Int32} (X : CallFix p m c cc nL s args Ts own) (hTs : ∀ w ∈ TB, w ∈ Ts) (Z : ZZ D cI ws A s H locs) (isC isR : List Nat) (hC : isC.map (fun i => ws[i]?) = wc.map some) (hR0 : isR.map (fun i => ws[i]?) = wr.map some) (hnC : va_nd isC = true) (hn : va_nd isR = true) (hdis : ∀ i ∈ isR, i ∉ isC) (k : WN own index qq.1 y (.code y bytes maxL ret) host) (hM : MI l D cI y (.code y bytes maxL ret) rm (.ref b :: As) wc w1 (some (.int r)))
    (he : wc[0]? = some (b, .inr (ci, fs))) (hci : vwCl[ci]? = some qq) (hd : HD y As.length) (hR : rm.frames + 1 ≤ R.frames ∧ 8 + (maxL + 11) + rm.locals ≤ R.locals) (h0 : rm.cells = 0 ∧ rm.slots = 0)
    (hsize : ls.size = nL) (hst : st0 = As.reverse ++ .ref b :: rest) (hrm : (rest.map fun v => v.category).sum ≤ 8) (hcs : cells ≤ R.cells ∧ slots ≤ R.slots) (hdg : decode cc pc = .ok (.invokevirtual index, 3))
    (kk : ∀ (H1 : Heap) (locs1 : List Loc), ZZ D cI (wr ++ w1) A s H1 locs1 → W p l e R s m args below meth c H1 locs1 cells slots Q (F0 m (pc + 3) ls (.int r :: rest))) : W p l e R s m args below meth c H locs cells slots Q (F0 m pc ls st0) :=
  call_N (rest := rest) X hTs Z isC isR hC hR0 hnC hn hdis k hM he hci hd hR h0 hsize hst hrm hcs hdg kk
theorem call_Nv (X : CallFix p m c cc nL s args Ts own) (hTs : ∀ w ∈ TB, w ∈ Ts) (Z : ZZ D cI ws A s H locs) (isC isR : List Nat) (hC : isC.map (fun i => ws[i]?) = wc.map some) (hR0 : isR.map (fun i => ws[i]?) = wr.map some) (hnC : va_nd isC = true) (hn : va_nd isR = true) (hdis : ∀ i ∈ isR, i ∉ isC) (k : WN own index qq.1 y (.code y bytes maxL ret) host) (hM : MI l D cI y (.code y bytes maxL ret) rm (.ref b :: As) wc w1 none)
    (he : wc[0]? = some (b, .inr (ci, fs))) (hci : vwCl[ci]? = some qq) (hd : HD y As.length) (hR : rm.frames + 1 ≤ R.frames ∧ 8 + (maxL + 11) + rm.locals ≤ R.locals) (h0 : rm.cells = 0 ∧ rm.slots = 0)
    (hsize : ls.size = nL) (hst : st0 = As.reverse ++ .ref b :: rest) (hrm : (rest.map fun v => v.category).sum ≤ 8) (hcs : cells ≤ R.cells ∧ slots ≤ R.slots) (hdg : decode cc pc = .ok (.invokevirtual index, 3))
    (kk : ∀ (H1 : Heap) (locs1 : List Loc), ZZ D cI (wr ++ w1) A s H1 locs1 → W p l e R s m args below meth c H1 locs1 cells slots Q (F0 m (pc + 3) ls rest)) : W p l e R s m args below meth c H locs cells slots Q (F0 m pc ls st0) :=
  call_N (rest := rest) X hTs Z isC isR hC hR0 hnC hn hdis k hM he hci hd hR h0 hsize hst hrm hcs hdg kk
theorem call_Si {r : Int32} (X : CallFix p m c cc nL s args Ts own) (hTs : ∀ w ∈ TB, w ∈ Ts) (Z : ZZ D cI ws A s H locs) (k : WS own index y (.code y bytes maxL ret)) (hM : MI l D cI y (.code y bytes maxL ret) rm As ws ws (some (.int r)))
    (hd : y.cls = own ∧ HD y As.length) (hR : rm.frames + 1 ≤ R.frames ∧ 8 + (maxL + 11) + rm.locals ≤ R.locals) (h0 : rm.cells = 0 ∧ rm.slots = 0)
    (hsize : ls.size = nL) (hst : st0 = As.reverse ++ rest) (hrm : (rest.map fun v => v.category).sum ≤ 8) (hcs : cells ≤ R.cells ∧ slots ≤ R.slots) (hdg : decode cc pc = .ok (.invokestatic index, 3))
    (kk : ∀ (H1 : Heap) (locs1 : List Loc), ZZ D cI ws A s H1 locs1 → W p l e R s m args below meth c H1 locs1 cells slots Q (F0 m (pc + 3) ls (.int r :: rest))) : W p l e R s m args below meth c H locs cells slots Q (F0 m pc ls st0) :=
  call_S (rest := rest) X hTs Z k hM hd hR h0 hsize hst hrm hcs hdg kk
theorem call_Sv (X : CallFix p m c cc nL s args Ts own) (hTs : ∀ w ∈ TB, w ∈ Ts) (Z : ZZ D cI ws A s H locs) (k : WS own index y (.code y bytes maxL ret)) (hM : MI l D cI y (.code y bytes maxL ret) rm As ws ws none)
    (hd : y.cls = own ∧ HD y As.length) (hR : rm.frames + 1 ≤ R.frames ∧ 8 + (maxL + 11) + rm.locals ≤ R.locals) (h0 : rm.cells = 0 ∧ rm.slots = 0)
    (hsize : ls.size = nL) (hst : st0 = As.reverse ++ rest) (hrm : (rest.map fun v => v.category).sum ≤ 8) (hcs : cells ≤ R.cells ∧ slots ≤ R.slots) (hdg : decode cc pc = .ok (.invokestatic index, 3))
    (kk : ∀ (H1 : Heap) (locs1 : List Loc), ZZ D cI ws A s H1 locs1 → W p l e R s m args below meth c H1 locs1 cells slots Q (F0 m (pc + 3) ls rest)) : W p l e R s m args below meth c H locs cells slots Q (F0 m pc ls st0) :=
  call_S (rest := rest) X hTs Z k hM hd hR h0 hsize hst hrm hcs hdg kk
end BASE
end
section
theorem iX0 : ∀ w ∈ wsX00, w ∈ TB := fun w h => List.mem_filter.mpr ⟨(by decide +kernel : ∀ w ∈ wsX00, w ∈ lw_tbl) w h, (by decide +kernel : ∀ w ∈ wsX00, goodWord w = true) w h⟩
theorem iX1 : ∀ w ∈ wsX10, w ∈ TB := fun w h => List.mem_filter.mpr ⟨(by decide +kernel : ∀ w ∈ wsX10, w ∈ lw_tbl) w h, (by decide +kernel : ∀ w ∈ wsX10, goodWord w = true) w h⟩
theorem iX2 : ∀ w ∈ wsX20, w ∈ TB := fun w h => List.mem_filter.mpr ⟨(by decide +kernel : ∀ w ∈ wsX20, w ∈ lw_tbl) w h, (by decide +kernel : ∀ w ∈ wsX20, goodWord w = true) w h⟩
theorem iX3 : ∀ w ∈ wsX30, w ∈ TB := fun w h => List.mem_filter.mpr ⟨(by decide +kernel : ∀ w ∈ wsX30, w ∈ lw_tbl) w h, (by decide +kernel : ∀ w ∈ wsX30, goodWord w = true) w h⟩
theorem kw_48 : Cond.fieldLink RX0 9 "TapeMachine$Reader" "tape" "[I" ∈ TB := tb_mk 48 (by decide +kernel) (by decide +kernel)
theorem kw_49 : Cond.fieldLink RX0 15 "TapeMachine$Reader" "fed" "I" ∈ TB := tb_mk 49 (by decide +kernel) (by decide +kernel)
theorem kw_50 : Cond.fieldLink RX0 19 "TapeMachine$Reader" "taken" "I" ∈ TB := tb_mk 50 (by decide +kernel) (by decide +kernel)
theorem kw_51 : Cond.fieldLink RX0 26 "TapeMachine$Reader" "buffer" "I" ∈ TB := tb_mk 51 (by decide +kernel) (by decide +kernel)
theorem kw_52 : Cond.fieldLinkNest RX2 79 "TapeMachine$Reader" "buffer" "I" "TapeMachine" ∈ NL := nl_mk 52 (by decide +kernel) (by decide +kernel)
theorem kw_53 : Cond.fieldLink RX0 22 "TapeMachine$Reader" "flag" "Z" ∈ TB := tb_mk 53 (by decide +kernel) (by decide +kernel)
theorem kw_54 : Cond.fieldLinkNest RX2 76 "TapeMachine$Reader" "flag" "Z" "TapeMachine" ∈ NL := nl_mk 54 (by decide +kernel) (by decide +kernel)
theorem kw_73 : Cond.fieldLink RX1 9 "TapeMachine$Recent" "row" "[I" ∈ TB := tb_mk 73 (by decide +kernel) (by decide +kernel)
theorem kw_74 : Cond.fieldLink RX1 15 "TapeMachine$Recent" "count" "I" ∈ TB := tb_mk 74 (by decide +kernel) (by decide +kernel)
theorem kw_75 : Cond.fieldLinkNest RX2 91 "TapeMachine$Recent" "count" "I" "TapeMachine" ∈ NL := nl_mk 75 (by decide +kernel) (by decide +kernel)
theorem kw_81 : Cond.fieldLink RX2 9 "TapeMachine" "core" "[I" ∈ TB := tb_mk 81 (by decide +kernel) (by decide +kernel)
theorem kw_82 : Cond.fieldLink RX2 16 "TapeMachine" "reader" "LTapeMachine$Reader;" ∈ TB := tb_mk 82 (by decide +kernel) (by decide +kernel)
theorem kw_83 : Cond.fieldLink RX2 23 "TapeMachine" "prints" "LTapeMachine$Recent;" ∈ TB := tb_mk 83 (by decide +kernel) (by decide +kernel)
theorem kw_84 : Cond.fieldLink RX2 27 "TapeMachine" "steps" "LTapeMachine$Recent;" ∈ TB := tb_mk 84 (by decide +kernel) (by decide +kernel)
theorem kw_85 : Cond.fieldLink RX2 49 "TapeMachine" "ac" "I" ∈ TB := tb_mk 85 (by decide +kernel) (by decide +kernel)
theorem kw_86 : Cond.fieldLink RX2 53 "TapeMachine" "link" "I" ∈ TB := tb_mk 86 (by decide +kernel) (by decide +kernel)
theorem kw_87 : Cond.fieldLink RX2 56 "TapeMachine" "pc" "I" ∈ TB := tb_mk 87 (by decide +kernel) (by decide +kernel)
theorem kw_88 : Cond.fieldLink RX2 59 "TapeMachine" "mq" "I" ∈ TB := tb_mk 88 (by decide +kernel) (by decide +kernel)
theorem kw_89 : Cond.fieldLink RX2 62 "TapeMachine" "sr" "I" ∈ TB := tb_mk 89 (by decide +kernel) (by decide +kernel)
theorem kw_90 : Cond.fieldLink RX2 85 "TapeMachine" "halted" "Z" ∈ TB := tb_mk 90 (by decide +kernel) (by decide +kernel)
theorem kw_91 : Cond.fieldLink RX2 65 "TapeMachine" "ion" "Z" ∈ TB := tb_mk 91 (by decide +kernel) (by decide +kernel)
theorem kw_92 : Cond.fieldLink RX2 73 "TapeMachine" "delay" "Z" ∈ TB := tb_mk 92 (by decide +kernel) (by decide +kernel)
theorem kw_93 : Cond.fieldLink RX2 82 "TapeMachine" "printerFlag" "Z" ∈ TB := tb_mk 93 (by decide +kernel) (by decide +kernel)
theorem kw_94 : Cond.fieldLink RX2 97 "TapeMachine" "interruptCount" "I" ∈ TB := tb_mk 94 (by decide +kernel) (by decide +kernel)
theorem kw_95 : Cond.fieldLink RX2 100 "TapeMachine" "skipCount" "I" ∈ TB := tb_mk 95 (by decide +kernel) (by decide +kernel)
theorem kw_269 : Cond.fieldLink RX3 7 "TapeMachineModel" "core" "[I" ∈ TB := tb_mk 269 (by decide +kernel) (by decide +kernel)
theorem kw_270 : Cond.fieldLink RX3 13 "TapeMachineModel" "\x72" "[I" ∈ TB := tb_mk 270 (by decide +kernel) (by decide +kernel)
theorem kw_271 : Cond.fieldLink RX3 16 "TapeMachineModel" "tape" "[I" ∈ TB := tb_mk 271 (by decide +kernel) (by decide +kernel)
theorem kw_272 : Cond.fieldLink RX3 19 "TapeMachineModel" "out" "[I" ∈ TB := tb_mk 272 (by decide +kernel) (by decide +kernel)
theorem kw_273 : Cond.fieldLink RX3 22 "TapeMachineModel" "places" "[I" ∈ TB := tb_mk 273 (by decide +kernel) (by decide +kernel)
theorem kw_274 : Cond.fieldLink RX3 25 "TapeMachineModel" "fed" "I" ∈ TB := tb_mk 274 (by decide +kernel) (by decide +kernel)
theorem kw_275 : Cond.fieldLink RX3 29 "TapeMachineModel" "read" "I" ∈ TB := tb_mk 275 (by decide +kernel) (by decide +kernel)
theorem kw_276 : Cond.fieldLink RX3 79 "TapeMachineModel" "printed" "I" ∈ TB := tb_mk 276 (by decide +kernel) (by decide +kernel)
theorem kw_277 : Cond.fieldLink RX3 42 "TapeMachineModel" "steps" "I" ∈ TB := tb_mk 277 (by decide +kernel) (by decide +kernel)
theorem kw_278 : Cond.fieldLink RX3 39 "TapeMachineModel" "interrupts" "I" ∈ TB := tb_mk 278 (by decide +kernel) (by decide +kernel)
theorem kw_279 : Cond.fieldLink RX3 36 "TapeMachineModel" "skips" "I" ∈ TB := tb_mk 279 (by decide +kernel) (by decide +kernel)
theorem kw_36 : Cond.methodLink RL 9 yX2_init ∈ TB := tb_mk 36 (by decide +kernel) (by decide +kernel)
theorem hi_X2_init : HD yX2_init 0 := by decide +kernel
theorem kw_37 : Cond.instanceMethod yX2_init ∈ TB := tb_mk 37 (by decide +kernel) (by decide +kernel)
theorem kw_30 : Cond.initialized RX2 ∈ TB := tb_mk 30 (by decide +kernel) (by decide +kernel)
theorem kw_38 : Cond.code yX2_init cX2_init 1 none ∈ TB := tb_mk 38 rfl (by decide +kernel)
theorem kw_44 : Cond.methodLinkNest RX2 15 yX0_init "TapeMachine" ∈ NL := nl_mk 44 (by decide +kernel) (by decide +kernel)
theorem hi_X0_init : HD yX0_init 0 := by decide +kernel
theorem kw_45 : Cond.instanceMethod yX0_init ∈ TB := tb_mk 45 (by decide +kernel) (by decide +kernel)
theorem kw_31 : Cond.initialized RX0 ∈ TB := tb_mk 31 (by decide +kernel) (by decide +kernel)
theorem kw_46 : Cond.code yX0_init cX0_init 1 none ∈ TB := tb_mk 46 rfl (by decide +kernel)
theorem kw_69 : Cond.methodLinkNest RX2 22 yX1_init "TapeMachine" ∈ NL := nl_mk 69 (by decide +kernel) (by decide +kernel)
theorem hi_X1_init : HD yX1_init 0 := by decide +kernel
theorem kw_70 : Cond.instanceMethod yX1_init ∈ TB := tb_mk 70 (by decide +kernel) (by decide +kernel)
theorem kw_32 : Cond.initialized RX1 ∈ TB := tb_mk 32 (by decide +kernel) (by decide +kernel)
theorem kw_71 : Cond.code yX1_init cX1_init 1 none ∈ TB := tb_mk 71 rfl (by decide +kernel)
theorem kw_127 : Cond.methodLink RL 13 yX2_feed ∈ TB := tb_mk 127 (by decide +kernel) (by decide +kernel)
theorem kw_128 : Cond.instanceMethod yX2_feed ∈ TB := tb_mk 128 (by decide +kernel) (by decide +kernel)
theorem kw_129 : Cond.selects RX2 yX2_feed yX2_feed ∈ TB := tb_mk 129 (by decide +kernel) (by decide +kernel)
theorem kw_130 : Cond.code yX2_feed cX2_feed 2 (some .boolean) ∈ TB := tb_mk 130 rfl (by decide +kernel)
theorem k_L_13 : WV RL 13 RX2 yX2_feed (Cond.code yX2_feed cX2_feed 2 (some .boolean)) := ⟨kw_127, kw_128, kw_129, kw_30, kw_130⟩
theorem hd_X2_feed : yX2_feed.cls = RX2 ∧ HD yX2_feed 1 := ⟨rfl, by decide +kernel⟩
theorem kw_131 : Cond.methodLinkNest RX2 30 yX0_append "TapeMachine" ∈ NL := nl_mk 131 (by decide +kernel) (by decide +kernel)
theorem kw_133 : Cond.instanceMethod yX0_append ∈ TB := tb_mk 133 (by decide +kernel) (by decide +kernel)
theorem kw_0 : Cond.selects RX0 yX0_append yX0_append ∈ TB := tb_mk 0 (by decide +kernel) (by decide +kernel)
theorem kw_134 : Cond.code yX0_append cX0_append 2 (some .boolean) ∈ TB := tb_mk 134 rfl (by decide +kernel)
theorem k_X2_30 : WN RX2 30 RX0 yX0_append (Cond.code yX0_append cX0_append 2 (some .boolean)) "TapeMachine" := ⟨kw_131, kw_133, kw_0, kw_31, kw_134⟩
theorem hd_X0_append : HD yX0_append 1 := by decide +kernel
theorem kw_135 : Cond.methodLink RL 18 yX2_waiting ∈ TB := tb_mk 135 (by decide +kernel) (by decide +kernel)
theorem kw_136 : Cond.instanceMethod yX2_waiting ∈ TB := tb_mk 136 (by decide +kernel) (by decide +kernel)
theorem kw_137 : Cond.selects RX2 yX2_waiting yX2_waiting ∈ TB := tb_mk 137 (by decide +kernel) (by decide +kernel)
theorem kw_138 : Cond.code yX2_waiting cX2_waiting 1 (some .int) ∈ TB := tb_mk 138 rfl (by decide +kernel)
theorem k_L_18 : WV RL 18 RX2 yX2_waiting (Cond.code yX2_waiting cX2_waiting 1 (some .int)) := ⟨kw_135, kw_136, kw_137, kw_30, kw_138⟩
theorem hd_X2_waiting : yX2_waiting.cls = RX2 ∧ HD yX2_waiting 0 := ⟨rfl, by decide +kernel⟩
theorem kw_139 : Cond.methodLinkNest RX2 34 yX0_unread "TapeMachine" ∈ NL := nl_mk 139 (by decide +kernel) (by decide +kernel)
theorem kw_141 : Cond.instanceMethod yX0_unread ∈ TB := tb_mk 141 (by decide +kernel) (by decide +kernel)
theorem kw_1 : Cond.selects RX0 yX0_unread yX0_unread ∈ TB := tb_mk 1 (by decide +kernel) (by decide +kernel)
theorem kw_142 : Cond.code yX0_unread cX0_unread 1 (some .int) ∈ TB := tb_mk 142 rfl (by decide +kernel)
theorem k_X2_34 : WN RX2 34 RX0 yX0_unread (Cond.code yX0_unread cX0_unread 1 (some .int)) "TapeMachine" := ⟨kw_139, kw_141, kw_1, kw_31, kw_142⟩
theorem hd_X0_unread : HD yX0_unread 0 := by decide +kernel
theorem kw_143 : Cond.methodLink RL 23 yX2_poke ∈ TB := tb_mk 143 (by decide +kernel) (by decide +kernel)
theorem kw_144 : Cond.instanceMethod yX2_poke ∈ TB := tb_mk 144 (by decide +kernel) (by decide +kernel)
theorem kw_145 : Cond.selects RX2 yX2_poke yX2_poke ∈ TB := tb_mk 145 (by decide +kernel) (by decide +kernel)
theorem kw_146 : Cond.code yX2_poke cX2_poke 4 (some .int) ∈ TB := tb_mk 146 rfl (by decide +kernel)
theorem k_L_23 : WV RL 23 RX2 yX2_poke (Cond.code yX2_poke cX2_poke 4 (some .int)) := ⟨kw_143, kw_144, kw_145, kw_30, kw_146⟩
theorem hd_X2_poke : yX2_poke.cls = RX2 ∧ HD yX2_poke 2 := ⟨rfl, by decide +kernel⟩
theorem kw_147 : Cond.methodLink RX2 38 yX2_isAddress ∈ TB := tb_mk 147 (by decide +kernel) (by decide +kernel)
theorem kw_148 : Cond.static yX2_isAddress ∈ TB := tb_mk 148 (by decide +kernel) (by decide +kernel)
theorem kw_149 : Cond.code yX2_isAddress cX2_isAddress 1 (some .boolean) ∈ TB := tb_mk 149 rfl (by decide +kernel)
theorem k_X2_38 : WS RX2 38 yX2_isAddress (Cond.code yX2_isAddress cX2_isAddress 1 (some .boolean)) := ⟨kw_147, kw_148, kw_30, kw_149⟩
theorem hd_X2_isAddress : yX2_isAddress.cls = RX2 ∧ HD yX2_isAddress 1 := ⟨rfl, by decide +kernel⟩
theorem kw_150 : Cond.methodLink RX2 41 yX2_wordAt ∈ TB := tb_mk 150 (by decide +kernel) (by decide +kernel)
theorem kw_152 : Cond.instanceMethod yX2_wordAt ∈ TB := tb_mk 152 (by decide +kernel) (by decide +kernel)
theorem kw_2 : Cond.selects RX2 yX2_wordAt yX2_wordAt ∈ TB := tb_mk 2 (by decide +kernel) (by decide +kernel)
theorem kw_153 : Cond.code yX2_wordAt cX2_wordAt 2 (some .int) ∈ TB := tb_mk 153 rfl (by decide +kernel)
theorem k_X2_41 : WV RX2 41 RX2 yX2_wordAt (Cond.code yX2_wordAt cX2_wordAt 2 (some .int)) := ⟨kw_150, kw_152, kw_2, kw_30, kw_153⟩
theorem hd_X2_wordAt : yX2_wordAt.cls = RX2 ∧ HD yX2_wordAt 1 := ⟨rfl, by decide +kernel⟩
theorem kw_154 : Cond.methodLink RX2 45 yX2_putWord ∈ TB := tb_mk 154 (by decide +kernel) (by decide +kernel)
theorem kw_156 : Cond.instanceMethod yX2_putWord ∈ TB := tb_mk 156 (by decide +kernel) (by decide +kernel)
theorem kw_3 : Cond.selects RX2 yX2_putWord yX2_putWord ∈ TB := tb_mk 3 (by decide +kernel) (by decide +kernel)
theorem kw_157 : Cond.code yX2_putWord cX2_putWord 3 none ∈ TB := tb_mk 157 rfl (by decide +kernel)
theorem k_X2_45 : WV RX2 45 RX2 yX2_putWord (Cond.code yX2_putWord cX2_putWord 3 none) := ⟨kw_154, kw_156, kw_3, kw_30, kw_157⟩
theorem hd_X2_putWord : yX2_putWord.cls = RX2 ∧ HD yX2_putWord 2 := ⟨rfl, by decide +kernel⟩
theorem kw_158 : Cond.methodLink RL 28 yX2_peek ∈ TB := tb_mk 158 (by decide +kernel) (by decide +kernel)
theorem kw_159 : Cond.instanceMethod yX2_peek ∈ TB := tb_mk 159 (by decide +kernel) (by decide +kernel)
theorem kw_160 : Cond.selects RX2 yX2_peek yX2_peek ∈ TB := tb_mk 160 (by decide +kernel) (by decide +kernel)
theorem kw_161 : Cond.code yX2_peek cX2_peek 2 (some .int) ∈ TB := tb_mk 161 rfl (by decide +kernel)
theorem k_L_28 : WV RL 28 RX2 yX2_peek (Cond.code yX2_peek cX2_peek 2 (some .int)) := ⟨kw_158, kw_159, kw_160, kw_30, kw_161⟩
theorem hd_X2_peek : yX2_peek.cls = RX2 ∧ HD yX2_peek 1 := ⟨rfl, by decide +kernel⟩
theorem kw_162 : Cond.methodLink RL 33 yX2_set ∈ TB := tb_mk 162 (by decide +kernel) (by decide +kernel)
theorem kw_163 : Cond.instanceMethod yX2_set ∈ TB := tb_mk 163 (by decide +kernel) (by decide +kernel)
theorem kw_164 : Cond.selects RX2 yX2_set yX2_set ∈ TB := tb_mk 164 (by decide +kernel) (by decide +kernel)
theorem kw_165 : Cond.code yX2_set cX2_set 3 (some .boolean) ∈ TB := tb_mk 165 rfl (by decide +kernel)
theorem k_L_33 : WV RL 33 RX2 yX2_set (Cond.code yX2_set cX2_set 3 (some .boolean)) := ⟨kw_162, kw_163, kw_164, kw_30, kw_165⟩
theorem hd_X2_set : yX2_set.cls = RX2 ∧ HD yX2_set 2 := ⟨rfl, by decide +kernel⟩
theorem kw_166 : Cond.methodLink RL 38 yX2_register ∈ TB := tb_mk 166 (by decide +kernel) (by decide +kernel)
theorem kw_167 : Cond.instanceMethod yX2_register ∈ TB := tb_mk 167 (by decide +kernel) (by decide +kernel)
theorem kw_168 : Cond.selects RX2 yX2_register yX2_register ∈ TB := tb_mk 168 (by decide +kernel) (by decide +kernel)
theorem kw_169 : Cond.code yX2_register cX2_register 2 (some .int) ∈ TB := tb_mk 169 rfl (by decide +kernel)
theorem k_L_38 : WV RL 38 RX2 yX2_register (Cond.code yX2_register cX2_register 2 (some .int)) := ⟨kw_166, kw_167, kw_168, kw_30, kw_169⟩
theorem hd_X2_register : yX2_register.cls = RX2 ∧ HD yX2_register 1 := ⟨rfl, by decide +kernel⟩
theorem kw_170 : Cond.methodLink RX2 69 yX2_bit ∈ TB := tb_mk 170 (by decide +kernel) (by decide +kernel)
theorem kw_171 : Cond.static yX2_bit ∈ TB := tb_mk 171 (by decide +kernel) (by decide +kernel)
theorem kw_172 : Cond.code yX2_bit cX2_bit 1 (some .int) ∈ TB := tb_mk 172 rfl (by decide +kernel)
theorem k_X2_69 : WS RX2 69 yX2_bit (Cond.code yX2_bit cX2_bit 1 (some .int)) := ⟨kw_170, kw_171, kw_30, kw_172⟩
theorem hd_X2_bit : yX2_bit.cls = RX2 ∧ HD yX2_bit 1 := ⟨rfl, by decide +kernel⟩
theorem kw_173 : Cond.methodLink RL 42 yX2_go ∈ TB := tb_mk 173 (by decide +kernel) (by decide +kernel)
theorem kw_174 : Cond.instanceMethod yX2_go ∈ TB := tb_mk 174 (by decide +kernel) (by decide +kernel)
theorem kw_175 : Cond.selects RX2 yX2_go yX2_go ∈ TB := tb_mk 175 (by decide +kernel) (by decide +kernel)
theorem kw_176 : Cond.code yX2_go cX2_go 2 (some .boolean) ∈ TB := tb_mk 176 rfl (by decide +kernel)
theorem k_L_42 : WV RL 42 RX2 yX2_go (Cond.code yX2_go cX2_go 2 (some .boolean)) := ⟨kw_173, kw_174, kw_175, kw_30, kw_176⟩
theorem hd_X2_go : yX2_go.cls = RX2 ∧ HD yX2_go 0 := ⟨rfl, by decide +kernel⟩
theorem kw_177 : Cond.methodLink RL 47 yX2_run ∈ TB := tb_mk 177 (by decide +kernel) (by decide +kernel)
theorem kw_178 : Cond.instanceMethod yX2_run ∈ TB := tb_mk 178 (by decide +kernel) (by decide +kernel)
theorem kw_179 : Cond.selects RX2 yX2_run yX2_run ∈ TB := tb_mk 179 (by decide +kernel) (by decide +kernel)
theorem kw_180 : Cond.code yX2_run cX2_run 3 (some .int) ∈ TB := tb_mk 180 rfl (by decide +kernel)
theorem k_L_47 : WV RL 47 RX2 yX2_run (Cond.code yX2_run cX2_run 3 (some .int)) := ⟨kw_177, kw_178, kw_179, kw_30, kw_180⟩
theorem hd_X2_run : yX2_run.cls = RX2 ∧ HD yX2_run 1 := ⟨rfl, by decide +kernel⟩
theorem kw_181 : Cond.methodLink RX2 88 yX2_step ∈ TB := tb_mk 181 (by decide +kernel) (by decide +kernel)
theorem kw_183 : Cond.instanceMethod yX2_step ∈ TB := tb_mk 183 (by decide +kernel) (by decide +kernel)
theorem kw_4 : Cond.selects RX2 yX2_step yX2_step ∈ TB := tb_mk 4 (by decide +kernel) (by decide +kernel)
theorem kw_184 : Cond.code yX2_step cX2_step 3 none ∈ TB := tb_mk 184 rfl (by decide +kernel)
theorem k_X2_88 : WV RX2 88 RX2 yX2_step (Cond.code yX2_step cX2_step 3 none) := ⟨kw_181, kw_183, kw_4, kw_30, kw_184⟩
theorem hd_X2_step : yX2_step.cls = RX2 ∧ HD yX2_step 0 := ⟨rfl, by decide +kernel⟩
theorem kw_185 : Cond.methodLink RX2 106 yX2_interrupt ∈ TB := tb_mk 185 (by decide +kernel) (by decide +kernel)
theorem kw_187 : Cond.instanceMethod yX2_interrupt ∈ TB := tb_mk 187 (by decide +kernel) (by decide +kernel)
theorem kw_5 : Cond.selects RX2 yX2_interrupt yX2_interrupt ∈ TB := tb_mk 5 (by decide +kernel) (by decide +kernel)
theorem kw_188 : Cond.code yX2_interrupt cX2_interrupt 1 none ∈ TB := tb_mk 188 rfl (by decide +kernel)
theorem k_X2_106 : WV RX2 106 RX2 yX2_interrupt (Cond.code yX2_interrupt cX2_interrupt 1 none) := ⟨kw_185, kw_187, kw_5, kw_30, kw_188⟩
theorem hd_X2_interrupt : yX2_interrupt.cls = RX2 ∧ HD yX2_interrupt 0 := ⟨rfl, by decide +kernel⟩
theorem kw_189 : Cond.methodLinkNest RX2 109 yX1_add "TapeMachine" ∈ NL := nl_mk 189 (by decide +kernel) (by decide +kernel)
theorem kw_191 : Cond.instanceMethod yX1_add ∈ TB := tb_mk 191 (by decide +kernel) (by decide +kernel)
theorem kw_6 : Cond.selects RX1 yX1_add yX1_add ∈ TB := tb_mk 6 (by decide +kernel) (by decide +kernel)
theorem kw_192 : Cond.code yX1_add cX1_add 2 none ∈ TB := tb_mk 192 rfl (by decide +kernel)
theorem k_X2_109 : WN RX2 109 RX1 yX1_add (Cond.code yX1_add cX1_add 2 none) "TapeMachine" := ⟨kw_189, kw_191, kw_6, kw_32, kw_192⟩
theorem hd_X1_add : HD yX1_add 1 := by decide +kernel
theorem kw_193 : Cond.methodLink RX2 103 yX2_next ∈ TB := tb_mk 193 (by decide +kernel) (by decide +kernel)
theorem kw_194 : Cond.static yX2_next ∈ TB := tb_mk 194 (by decide +kernel) (by decide +kernel)
theorem kw_195 : Cond.code yX2_next cX2_next 1 (some .int) ∈ TB := tb_mk 195 rfl (by decide +kernel)
theorem k_X2_103 : WS RX2 103 yX2_next (Cond.code yX2_next cX2_next 1 (some .int)) := ⟨kw_193, kw_194, kw_30, kw_195⟩
theorem hd_X2_next : yX2_next.cls = RX2 ∧ HD yX2_next 1 := ⟨rfl, by decide +kernel⟩
theorem kw_196 : Cond.methodLink RX2 113 yX2_perform ∈ TB := tb_mk 196 (by decide +kernel) (by decide +kernel)
theorem kw_198 : Cond.instanceMethod yX2_perform ∈ TB := tb_mk 198 (by decide +kernel) (by decide +kernel)
theorem kw_7 : Cond.selects RX2 yX2_perform yX2_perform ∈ TB := tb_mk 7 (by decide +kernel) (by decide +kernel)
theorem kw_199 : Cond.code yX2_perform cX2_perform 4 none ∈ TB := tb_mk 199 rfl (by decide +kernel)
theorem k_X2_113 : WV RX2 113 RX2 yX2_perform (Cond.code yX2_perform cX2_perform 4 none) := ⟨kw_196, kw_198, kw_7, kw_30, kw_199⟩
theorem hd_X2_perform : yX2_perform.cls = RX2 ∧ HD yX2_perform 2 := ⟨rfl, by decide +kernel⟩
theorem kw_200 : Cond.methodLink RX2 116 yX2_effectiveAddress ∈ TB := tb_mk 200 (by decide +kernel) (by decide +kernel)
theorem kw_202 : Cond.instanceMethod yX2_effectiveAddress ∈ TB := tb_mk 202 (by decide +kernel) (by decide +kernel)
theorem kw_8 : Cond.selects RX2 yX2_effectiveAddress yX2_effectiveAddress ∈ TB := tb_mk 8 (by decide +kernel) (by decide +kernel)
theorem kw_203 : Cond.code yX2_effectiveAddress cX2_effectiveAddress 4 (some .int) ∈ TB := tb_mk 203 rfl (by decide +kernel)
theorem k_X2_116 : WV RX2 116 RX2 yX2_effectiveAddress (Cond.code yX2_effectiveAddress cX2_effectiveAddress 4 (some .int)) := ⟨kw_200, kw_202, kw_8, kw_30, kw_203⟩
theorem hd_X2_effectiveAddress : yX2_effectiveAddress.cls = RX2 ∧ HD yX2_effectiveAddress 2 := ⟨rfl, by decide +kernel⟩
theorem kw_204 : Cond.methodLink RX2 126 yX2_has ∈ TB := tb_mk 204 (by decide +kernel) (by decide +kernel)
theorem kw_205 : Cond.static yX2_has ∈ TB := tb_mk 205 (by decide +kernel) (by decide +kernel)
theorem kw_206 : Cond.code yX2_has cX2_has 2 (some .boolean) ∈ TB := tb_mk 206 rfl (by decide +kernel)
theorem k_X2_126 : WS RX2 126 yX2_has (Cond.code yX2_has cX2_has 2 (some .boolean)) := ⟨kw_204, kw_205, kw_30, kw_206⟩
theorem hd_X2_has : yX2_has.cls = RX2 ∧ HD yX2_has 2 := ⟨rfl, by decide +kernel⟩
theorem kw_207 : Cond.methodLink RX2 120 yX2_performAddressed ∈ TB := tb_mk 207 (by decide +kernel) (by decide +kernel)
theorem kw_209 : Cond.instanceMethod yX2_performAddressed ∈ TB := tb_mk 209 (by decide +kernel) (by decide +kernel)
theorem kw_9 : Cond.selects RX2 yX2_performAddressed yX2_performAddressed ∈ TB := tb_mk 9 (by decide +kernel) (by decide +kernel)
theorem kw_210 : Cond.code yX2_performAddressed cX2_performAddressed 3 none ∈ TB := tb_mk 210 rfl (by decide +kernel)
theorem k_X2_120 : WV RX2 120 RX2 yX2_performAddressed (Cond.code yX2_performAddressed cX2_performAddressed 3 none) := ⟨kw_207, kw_209, kw_9, kw_30, kw_210⟩
theorem hd_X2_performAddressed : yX2_performAddressed.cls = RX2 ∧ HD yX2_performAddressed 2 := ⟨rfl, by decide +kernel⟩
theorem kw_211 : Cond.methodLink RX2 139 yX2_add ∈ TB := tb_mk 211 (by decide +kernel) (by decide +kernel)
theorem kw_213 : Cond.instanceMethod yX2_add ∈ TB := tb_mk 213 (by decide +kernel) (by decide +kernel)
theorem kw_10 : Cond.selects RX2 yX2_add yX2_add ∈ TB := tb_mk 10 (by decide +kernel) (by decide +kernel)
theorem kw_214 : Cond.code yX2_add cX2_add 3 none ∈ TB := tb_mk 214 rfl (by decide +kernel)
theorem k_X2_139 : WV RX2 139 RX2 yX2_add (Cond.code yX2_add cX2_add 3 none) := ⟨kw_211, kw_213, kw_10, kw_30, kw_214⟩
theorem hd_X2_add : yX2_add.cls = RX2 ∧ HD yX2_add 1 := ⟨rfl, by decide +kernel⟩
theorem kw_215 : Cond.methodLink RX2 140 yX2_skipIf ∈ TB := tb_mk 215 (by decide +kernel) (by decide +kernel)
theorem kw_217 : Cond.instanceMethod yX2_skipIf ∈ TB := tb_mk 217 (by decide +kernel) (by decide +kernel)
theorem kw_11 : Cond.selects RX2 yX2_skipIf yX2_skipIf ∈ TB := tb_mk 11 (by decide +kernel) (by decide +kernel)
theorem kw_218 : Cond.code yX2_skipIf cX2_skipIf 2 none ∈ TB := tb_mk 218 rfl (by decide +kernel)
theorem k_X2_140 : WV RX2 140 RX2 yX2_skipIf (Cond.code yX2_skipIf cX2_skipIf 2 none) := ⟨kw_215, kw_217, kw_11, kw_30, kw_218⟩
theorem hd_X2_skipIf : yX2_skipIf.cls = RX2 ∧ HD yX2_skipIf 1 := ⟨rfl, by decide +kernel⟩
theorem kw_219 : Cond.methodLink RX2 123 yX2_performDevice ∈ TB := tb_mk 219 (by decide +kernel) (by decide +kernel)
theorem kw_221 : Cond.instanceMethod yX2_performDevice ∈ TB := tb_mk 221 (by decide +kernel) (by decide +kernel)
theorem kw_12 : Cond.selects RX2 yX2_performDevice yX2_performDevice ∈ TB := tb_mk 12 (by decide +kernel) (by decide +kernel)
theorem kw_222 : Cond.code yX2_performDevice cX2_performDevice 2 none ∈ TB := tb_mk 222 rfl (by decide +kernel)
theorem k_X2_123 : WV RX2 123 RX2 yX2_performDevice (Cond.code yX2_performDevice cX2_performDevice 2 none) := ⟨kw_219, kw_221, kw_12, kw_30, kw_222⟩
theorem hd_X2_performDevice : yX2_performDevice.cls = RX2 ∧ HD yX2_performDevice 1 := ⟨rfl, by decide +kernel⟩
theorem kw_223 : Cond.methodLinkNest RX2 144 yX0_restart "TapeMachine" ∈ NL := nl_mk 223 (by decide +kernel) (by decide +kernel)
theorem kw_225 : Cond.instanceMethod yX0_restart ∈ TB := tb_mk 225 (by decide +kernel) (by decide +kernel)
theorem kw_13 : Cond.selects RX0 yX0_restart yX0_restart ∈ TB := tb_mk 13 (by decide +kernel) (by decide +kernel)
theorem kw_226 : Cond.code yX0_restart cX0_restart 1 none ∈ TB := tb_mk 226 rfl (by decide +kernel)
theorem k_X2_144 : WN RX2 144 RX0 yX0_restart (Cond.code yX0_restart cX0_restart 1 none) "TapeMachine" := ⟨kw_223, kw_225, kw_13, kw_31, kw_226⟩
theorem hd_X0_restart : HD yX0_restart 0 := by decide +kernel
theorem kw_227 : Cond.methodLink RX2 130 yX2_changeAccumulator ∈ TB := tb_mk 227 (by decide +kernel) (by decide +kernel)
theorem kw_229 : Cond.instanceMethod yX2_changeAccumulator ∈ TB := tb_mk 229 (by decide +kernel) (by decide +kernel)
theorem kw_14 : Cond.selects RX2 yX2_changeAccumulator yX2_changeAccumulator ∈ TB := tb_mk 14 (by decide +kernel) (by decide +kernel)
theorem kw_230 : Cond.code yX2_changeAccumulator cX2_changeAccumulator 5 none ∈ TB := tb_mk 230 rfl (by decide +kernel)
theorem k_X2_130 : WV RX2 130 RX2 yX2_changeAccumulator (Cond.code yX2_changeAccumulator cX2_changeAccumulator 5 none) := ⟨kw_227, kw_229, kw_14, kw_30, kw_230⟩
theorem hd_X2_changeAccumulator : yX2_changeAccumulator.cls = RX2 ∧ HD yX2_changeAccumulator 1 := ⟨rfl, by decide +kernel⟩
theorem kw_231 : Cond.methodLink RX2 147 yX2_turnLeft ∈ TB := tb_mk 231 (by decide +kernel) (by decide +kernel)
theorem kw_233 : Cond.instanceMethod yX2_turnLeft ∈ TB := tb_mk 233 (by decide +kernel) (by decide +kernel)
theorem kw_15 : Cond.selects RX2 yX2_turnLeft yX2_turnLeft ∈ TB := tb_mk 15 (by decide +kernel) (by decide +kernel)
theorem kw_234 : Cond.code yX2_turnLeft cX2_turnLeft 4 none ∈ TB := tb_mk 234 rfl (by decide +kernel)
theorem k_X2_147 : WV RX2 147 RX2 yX2_turnLeft (Cond.code yX2_turnLeft cX2_turnLeft 4 none) := ⟨kw_231, kw_233, kw_15, kw_30, kw_234⟩
theorem hd_X2_turnLeft : yX2_turnLeft.cls = RX2 ∧ HD yX2_turnLeft 1 := ⟨rfl, by decide +kernel⟩
theorem kw_235 : Cond.methodLink RX2 133 yX2_testAccumulator ∈ TB := tb_mk 235 (by decide +kernel) (by decide +kernel)
theorem kw_237 : Cond.instanceMethod yX2_testAccumulator ∈ TB := tb_mk 237 (by decide +kernel) (by decide +kernel)
theorem kw_16 : Cond.selects RX2 yX2_testAccumulator yX2_testAccumulator ∈ TB := tb_mk 16 (by decide +kernel) (by decide +kernel)
theorem kw_238 : Cond.code yX2_testAccumulator cX2_testAccumulator 3 none ∈ TB := tb_mk 238 rfl (by decide +kernel)
theorem k_X2_133 : WV RX2 133 RX2 yX2_testAccumulator (Cond.code yX2_testAccumulator cX2_testAccumulator 3 none) := ⟨kw_235, kw_237, kw_16, kw_30, kw_238⟩
theorem hd_X2_testAccumulator : yX2_testAccumulator.cls = RX2 ∧ HD yX2_testAccumulator 1 := ⟨rfl, by decide +kernel⟩
theorem kw_239 : Cond.methodLink RX2 136 yX2_exchangeWithMq ∈ TB := tb_mk 239 (by decide +kernel) (by decide +kernel)
theorem kw_241 : Cond.instanceMethod yX2_exchangeWithMq ∈ TB := tb_mk 241 (by decide +kernel) (by decide +kernel)
theorem kw_17 : Cond.selects RX2 yX2_exchangeWithMq yX2_exchangeWithMq ∈ TB := tb_mk 17 (by decide +kernel) (by decide +kernel)
theorem kw_242 : Cond.code yX2_exchangeWithMq cX2_exchangeWithMq 5 none ∈ TB := tb_mk 242 rfl (by decide +kernel)
theorem k_X2_136 : WV RX2 136 RX2 yX2_exchangeWithMq (Cond.code yX2_exchangeWithMq cX2_exchangeWithMq 5 none) := ⟨kw_239, kw_241, kw_17, kw_30, kw_242⟩
theorem hd_X2_exchangeWithMq : yX2_exchangeWithMq.cls = RX2 ∧ HD yX2_exchangeWithMq 1 := ⟨rfl, by decide +kernel⟩
theorem kw_243 : Cond.methodLink RL 51 yX2_printed ∈ TB := tb_mk 243 (by decide +kernel) (by decide +kernel)
theorem kw_244 : Cond.instanceMethod yX2_printed ∈ TB := tb_mk 244 (by decide +kernel) (by decide +kernel)
theorem kw_245 : Cond.selects RX2 yX2_printed yX2_printed ∈ TB := tb_mk 245 (by decide +kernel) (by decide +kernel)
theorem kw_246 : Cond.code yX2_printed cX2_printed 2 (some .int) ∈ TB := tb_mk 246 rfl (by decide +kernel)
theorem k_L_51 : WV RL 51 RX2 yX2_printed (Cond.code yX2_printed cX2_printed 2 (some .int)) := ⟨kw_243, kw_244, kw_245, kw_30, kw_246⟩
theorem hd_X2_printed : yX2_printed.cls = RX2 ∧ HD yX2_printed 1 := ⟨rfl, by decide +kernel⟩
theorem kw_247 : Cond.methodLinkNest RX2 94 yX1_fromLatest "TapeMachine" ∈ NL := nl_mk 247 (by decide +kernel) (by decide +kernel)
theorem kw_249 : Cond.instanceMethod yX1_fromLatest ∈ TB := tb_mk 249 (by decide +kernel) (by decide +kernel)
theorem kw_18 : Cond.selects RX1 yX1_fromLatest yX1_fromLatest ∈ TB := tb_mk 18 (by decide +kernel) (by decide +kernel)
theorem kw_250 : Cond.code yX1_fromLatest cX1_fromLatest 2 (some .int) ∈ TB := tb_mk 250 rfl (by decide +kernel)
theorem k_X2_94 : WN RX2 94 RX1 yX1_fromLatest (Cond.code yX1_fromLatest cX1_fromLatest 2 (some .int)) "TapeMachine" := ⟨kw_247, kw_249, kw_18, kw_32, kw_250⟩
theorem hd_X1_fromLatest : HD yX1_fromLatest 1 := by decide +kernel
theorem kw_251 : Cond.methodLink RL 55 yX2_trace ∈ TB := tb_mk 251 (by decide +kernel) (by decide +kernel)
theorem kw_252 : Cond.instanceMethod yX2_trace ∈ TB := tb_mk 252 (by decide +kernel) (by decide +kernel)
theorem kw_253 : Cond.selects RX2 yX2_trace yX2_trace ∈ TB := tb_mk 253 (by decide +kernel) (by decide +kernel)
theorem kw_254 : Cond.code yX2_trace cX2_trace 2 (some .int) ∈ TB := tb_mk 254 rfl (by decide +kernel)
theorem k_L_55 : WV RL 55 RX2 yX2_trace (Cond.code yX2_trace cX2_trace 2 (some .int)) := ⟨kw_251, kw_252, kw_253, kw_30, kw_254⟩
theorem hd_X2_trace : yX2_trace.cls = RX2 ∧ HD yX2_trace 1 := ⟨rfl, by decide +kernel⟩
theorem kw_255 : Cond.methodLink RL 59 yX2_interrupts ∈ TB := tb_mk 255 (by decide +kernel) (by decide +kernel)
theorem kw_256 : Cond.instanceMethod yX2_interrupts ∈ TB := tb_mk 256 (by decide +kernel) (by decide +kernel)
theorem kw_257 : Cond.selects RX2 yX2_interrupts yX2_interrupts ∈ TB := tb_mk 257 (by decide +kernel) (by decide +kernel)
theorem kw_258 : Cond.code yX2_interrupts cX2_interrupts 1 (some .int) ∈ TB := tb_mk 258 rfl (by decide +kernel)
theorem k_L_59 : WV RL 59 RX2 yX2_interrupts (Cond.code yX2_interrupts cX2_interrupts 1 (some .int)) := ⟨kw_255, kw_256, kw_257, kw_30, kw_258⟩
theorem hd_X2_interrupts : yX2_interrupts.cls = RX2 ∧ HD yX2_interrupts 0 := ⟨rfl, by decide +kernel⟩
theorem kw_259 : Cond.methodLink RL 63 yX2_skips ∈ TB := tb_mk 259 (by decide +kernel) (by decide +kernel)
theorem kw_260 : Cond.instanceMethod yX2_skips ∈ TB := tb_mk 260 (by decide +kernel) (by decide +kernel)
theorem kw_261 : Cond.selects RX2 yX2_skips yX2_skips ∈ TB := tb_mk 261 (by decide +kernel) (by decide +kernel)
theorem kw_262 : Cond.code yX2_skips cX2_skips 1 (some .int) ∈ TB := tb_mk 262 rfl (by decide +kernel)
theorem k_L_63 : WV RL 63 RX2 yX2_skips (Cond.code yX2_skips cX2_skips 1 (some .int)) := ⟨kw_259, kw_260, kw_261, kw_30, kw_262⟩
theorem hd_X2_skips : yX2_skips.cls = RX2 ∧ HD yX2_skips 0 := ⟨rfl, by decide +kernel⟩
theorem kw_265 : Cond.methodLink RL 12 yX3_init ∈ TB := tb_mk 265 (by decide +kernel) (by decide +kernel)
theorem hi_X3_init : HD yX3_init 0 := by decide +kernel
theorem kw_266 : Cond.instanceMethod yX3_init ∈ TB := tb_mk 266 (by decide +kernel) (by decide +kernel)
theorem kw_33 : Cond.initialized RX3 ∈ TB := tb_mk 33 (by decide +kernel) (by decide +kernel)
theorem kw_267 : Cond.code yX3_init cX3_init 1 none ∈ TB := tb_mk 267 rfl (by decide +kernel)
theorem kw_303 : Cond.methodLink RL 17 yX3_feed ∈ TB := tb_mk 303 (by decide +kernel) (by decide +kernel)
theorem kw_304 : Cond.instanceMethod yX3_feed ∈ TB := tb_mk 304 (by decide +kernel) (by decide +kernel)
theorem kw_305 : Cond.selects RX3 yX3_feed yX3_feed ∈ TB := tb_mk 305 (by decide +kernel) (by decide +kernel)
theorem kw_306 : Cond.code yX3_feed cX3_feed 2 (some .boolean) ∈ TB := tb_mk 306 rfl (by decide +kernel)
theorem k_L_17 : WV RL 17 RX3 yX3_feed (Cond.code yX3_feed cX3_feed 2 (some .boolean)) := ⟨kw_303, kw_304, kw_305, kw_33, kw_306⟩
theorem hd_X3_feed : yX3_feed.cls = RX3 ∧ HD yX3_feed 1 := ⟨rfl, by decide +kernel⟩
theorem kw_307 : Cond.methodLink RL 22 yX3_waiting ∈ TB := tb_mk 307 (by decide +kernel) (by decide +kernel)
theorem kw_308 : Cond.instanceMethod yX3_waiting ∈ TB := tb_mk 308 (by decide +kernel) (by decide +kernel)
theorem kw_309 : Cond.selects RX3 yX3_waiting yX3_waiting ∈ TB := tb_mk 309 (by decide +kernel) (by decide +kernel)
theorem kw_310 : Cond.code yX3_waiting cX3_waiting 1 (some .int) ∈ TB := tb_mk 310 rfl (by decide +kernel)
theorem k_L_22 : WV RL 22 RX3 yX3_waiting (Cond.code yX3_waiting cX3_waiting 1 (some .int)) := ⟨kw_307, kw_308, kw_309, kw_33, kw_310⟩
theorem hd_X3_waiting : yX3_waiting.cls = RX3 ∧ HD yX3_waiting 0 := ⟨rfl, by decide +kernel⟩
theorem kw_311 : Cond.methodLink RL 27 yX3_poke ∈ TB := tb_mk 311 (by decide +kernel) (by decide +kernel)
theorem kw_312 : Cond.instanceMethod yX3_poke ∈ TB := tb_mk 312 (by decide +kernel) (by decide +kernel)
theorem kw_313 : Cond.selects RX3 yX3_poke yX3_poke ∈ TB := tb_mk 313 (by decide +kernel) (by decide +kernel)
theorem kw_314 : Cond.code yX3_poke cX3_poke 4 (some .int) ∈ TB := tb_mk 314 rfl (by decide +kernel)
theorem k_L_27 : WV RL 27 RX3 yX3_poke (Cond.code yX3_poke cX3_poke 4 (some .int)) := ⟨kw_311, kw_312, kw_313, kw_33, kw_314⟩
theorem hd_X3_poke : yX3_poke.cls = RX3 ∧ HD yX3_poke 2 := ⟨rfl, by decide +kernel⟩
theorem kw_315 : Cond.methodLink RL 32 yX3_peek ∈ TB := tb_mk 315 (by decide +kernel) (by decide +kernel)
theorem kw_316 : Cond.instanceMethod yX3_peek ∈ TB := tb_mk 316 (by decide +kernel) (by decide +kernel)
theorem kw_317 : Cond.selects RX3 yX3_peek yX3_peek ∈ TB := tb_mk 317 (by decide +kernel) (by decide +kernel)
theorem kw_318 : Cond.code yX3_peek cX3_peek 2 (some .int) ∈ TB := tb_mk 318 rfl (by decide +kernel)
theorem k_L_32 : WV RL 32 RX3 yX3_peek (Cond.code yX3_peek cX3_peek 2 (some .int)) := ⟨kw_315, kw_316, kw_317, kw_33, kw_318⟩
theorem hd_X3_peek : yX3_peek.cls = RX3 ∧ HD yX3_peek 1 := ⟨rfl, by decide +kernel⟩
theorem kw_319 : Cond.methodLink RL 37 yX3_set ∈ TB := tb_mk 319 (by decide +kernel) (by decide +kernel)
theorem kw_320 : Cond.instanceMethod yX3_set ∈ TB := tb_mk 320 (by decide +kernel) (by decide +kernel)
theorem kw_321 : Cond.selects RX3 yX3_set yX3_set ∈ TB := tb_mk 321 (by decide +kernel) (by decide +kernel)
theorem kw_322 : Cond.code yX3_set cX3_set 3 (some .boolean) ∈ TB := tb_mk 322 rfl (by decide +kernel)
theorem k_L_37 : WV RL 37 RX3 yX3_set (Cond.code yX3_set cX3_set 3 (some .boolean)) := ⟨kw_319, kw_320, kw_321, kw_33, kw_322⟩
theorem hd_X3_set : yX3_set.cls = RX3 ∧ HD yX3_set 2 := ⟨rfl, by decide +kernel⟩
theorem kw_323 : Cond.methodLink RL 41 yX3_register ∈ TB := tb_mk 323 (by decide +kernel) (by decide +kernel)
theorem kw_324 : Cond.instanceMethod yX3_register ∈ TB := tb_mk 324 (by decide +kernel) (by decide +kernel)
theorem kw_325 : Cond.selects RX3 yX3_register yX3_register ∈ TB := tb_mk 325 (by decide +kernel) (by decide +kernel)
theorem kw_326 : Cond.code yX3_register cX3_register 2 (some .int) ∈ TB := tb_mk 326 rfl (by decide +kernel)
theorem k_L_41 : WV RL 41 RX3 yX3_register (Cond.code yX3_register cX3_register 2 (some .int)) := ⟨kw_323, kw_324, kw_325, kw_33, kw_326⟩
theorem hd_X3_register : yX3_register.cls = RX3 ∧ HD yX3_register 1 := ⟨rfl, by decide +kernel⟩
theorem kw_327 : Cond.methodLink RL 46 yX3_go ∈ TB := tb_mk 327 (by decide +kernel) (by decide +kernel)
theorem kw_328 : Cond.instanceMethod yX3_go ∈ TB := tb_mk 328 (by decide +kernel) (by decide +kernel)
theorem kw_329 : Cond.selects RX3 yX3_go yX3_go ∈ TB := tb_mk 329 (by decide +kernel) (by decide +kernel)
theorem kw_330 : Cond.code yX3_go cX3_go 2 (some .boolean) ∈ TB := tb_mk 330 rfl (by decide +kernel)
theorem k_L_46 : WV RL 46 RX3 yX3_go (Cond.code yX3_go cX3_go 2 (some .boolean)) := ⟨kw_327, kw_328, kw_329, kw_33, kw_330⟩
theorem hd_X3_go : yX3_go.cls = RX3 ∧ HD yX3_go 0 := ⟨rfl, by decide +kernel⟩
theorem kw_331 : Cond.methodLink RL 50 yX3_run ∈ TB := tb_mk 331 (by decide +kernel) (by decide +kernel)
theorem kw_332 : Cond.instanceMethod yX3_run ∈ TB := tb_mk 332 (by decide +kernel) (by decide +kernel)
theorem kw_333 : Cond.selects RX3 yX3_run yX3_run ∈ TB := tb_mk 333 (by decide +kernel) (by decide +kernel)
theorem kw_334 : Cond.code yX3_run cX3_run 4 (some .int) ∈ TB := tb_mk 334 rfl (by decide +kernel)
theorem k_L_50 : WV RL 50 RX3 yX3_run (Cond.code yX3_run cX3_run 4 (some .int)) := ⟨kw_331, kw_332, kw_333, kw_33, kw_334⟩
theorem hd_X3_run : yX3_run.cls = RX3 ∧ HD yX3_run 1 := ⟨rfl, by decide +kernel⟩
theorem kw_335 : Cond.methodLink RX3 82 yX3_step ∈ TB := tb_mk 335 (by decide +kernel) (by decide +kernel)
theorem kw_337 : Cond.instanceMethod yX3_step ∈ TB := tb_mk 337 (by decide +kernel) (by decide +kernel)
theorem kw_19 : Cond.selects RX3 yX3_step yX3_step ∈ TB := tb_mk 19 (by decide +kernel) (by decide +kernel)
theorem kw_338 : Cond.code yX3_step cX3_step 5 none ∈ TB := tb_mk 338 rfl (by decide +kernel)
theorem k_X3_82 : WV RX3 82 RX3 yX3_step (Cond.code yX3_step cX3_step 5 none) := ⟨kw_335, kw_337, kw_19, kw_33, kw_338⟩
theorem hd_X3_step : yX3_step.cls = RX3 ∧ HD yX3_step 0 := ⟨rfl, by decide +kernel⟩
theorem kw_339 : Cond.methodLink RX3 32 yX3_after ∈ TB := tb_mk 339 (by decide +kernel) (by decide +kernel)
theorem kw_340 : Cond.static yX3_after ∈ TB := tb_mk 340 (by decide +kernel) (by decide +kernel)
theorem kw_341 : Cond.code yX3_after cX3_after 1 (some .int) ∈ TB := tb_mk 341 rfl (by decide +kernel)
theorem k_X3_32 : WS RX3 32 yX3_after (Cond.code yX3_after cX3_after 1 (some .int)) := ⟨kw_339, kw_340, kw_33, kw_341⟩
theorem hd_X3_after : yX3_after.cls = RX3 ∧ HD yX3_after 1 := ⟨rfl, by decide +kernel⟩
theorem kw_342 : Cond.methodLink RX3 45 yX3_place ∈ TB := tb_mk 342 (by decide +kernel) (by decide +kernel)
theorem kw_344 : Cond.instanceMethod yX3_place ∈ TB := tb_mk 344 (by decide +kernel) (by decide +kernel)
theorem kw_20 : Cond.selects RX3 yX3_place yX3_place ∈ TB := tb_mk 20 (by decide +kernel) (by decide +kernel)
theorem kw_345 : Cond.code yX3_place cX3_place 4 (some .int) ∈ TB := tb_mk 345 rfl (by decide +kernel)
theorem k_X3_45 : WV RX3 45 RX3 yX3_place (Cond.code yX3_place cX3_place 4 (some .int)) := ⟨kw_342, kw_344, kw_20, kw_33, kw_345⟩
theorem hd_X3_place : yX3_place.cls = RX3 ∧ HD yX3_place 2 := ⟨rfl, by decide +kernel⟩
theorem kw_346 : Cond.methodLink RX3 57 yX3_has ∈ TB := tb_mk 346 (by decide +kernel) (by decide +kernel)
theorem kw_347 : Cond.static yX3_has ∈ TB := tb_mk 347 (by decide +kernel) (by decide +kernel)
theorem kw_348 : Cond.code yX3_has cX3_has 2 (some .boolean) ∈ TB := tb_mk 348 rfl (by decide +kernel)
theorem k_X3_57 : WS RX3 57 yX3_has (Cond.code yX3_has cX3_has 2 (some .boolean)) := ⟨kw_346, kw_347, kw_33, kw_348⟩
theorem hd_X3_has : yX3_has.cls = RX3 ∧ HD yX3_has 2 := ⟨rfl, by decide +kernel⟩
theorem kw_349 : Cond.methodLink RX3 49 yX3_reference ∈ TB := tb_mk 349 (by decide +kernel) (by decide +kernel)
theorem kw_351 : Cond.instanceMethod yX3_reference ∈ TB := tb_mk 351 (by decide +kernel) (by decide +kernel)
theorem kw_21 : Cond.selects RX3 yX3_reference yX3_reference ∈ TB := tb_mk 21 (by decide +kernel) (by decide +kernel)
theorem kw_352 : Cond.code yX3_reference cX3_reference 3 none ∈ TB := tb_mk 352 rfl (by decide +kernel)
theorem k_X3_49 : WV RX3 49 RX3 yX3_reference (Cond.code yX3_reference cX3_reference 3 none) := ⟨kw_349, kw_351, kw_21, kw_33, kw_352⟩
theorem hd_X3_reference : yX3_reference.cls = RX3 ∧ HD yX3_reference 2 := ⟨rfl, by decide +kernel⟩
theorem kw_353 : Cond.methodLink RX3 70 yX3_add ∈ TB := tb_mk 353 (by decide +kernel) (by decide +kernel)
theorem kw_355 : Cond.instanceMethod yX3_add ∈ TB := tb_mk 355 (by decide +kernel) (by decide +kernel)
theorem kw_22 : Cond.selects RX3 yX3_add yX3_add ∈ TB := tb_mk 22 (by decide +kernel) (by decide +kernel)
theorem kw_356 : Cond.code yX3_add cX3_add 3 none ∈ TB := tb_mk 356 rfl (by decide +kernel)
theorem k_X3_70 : WV RX3 70 RX3 yX3_add (Cond.code yX3_add cX3_add 3 none) := ⟨kw_353, kw_355, kw_22, kw_33, kw_356⟩
theorem hd_X3_add : yX3_add.cls = RX3 ∧ HD yX3_add 1 := ⟨rfl, by decide +kernel⟩
theorem kw_357 : Cond.methodLink RX3 73 yX3_skip ∈ TB := tb_mk 357 (by decide +kernel) (by decide +kernel)
theorem kw_359 : Cond.instanceMethod yX3_skip ∈ TB := tb_mk 359 (by decide +kernel) (by decide +kernel)
theorem kw_23 : Cond.selects RX3 yX3_skip yX3_skip ∈ TB := tb_mk 23 (by decide +kernel) (by decide +kernel)
theorem kw_360 : Cond.code yX3_skip cX3_skip 1 none ∈ TB := tb_mk 360 rfl (by decide +kernel)
theorem k_X3_73 : WV RX3 73 RX3 yX3_skip (Cond.code yX3_skip cX3_skip 1 none) := ⟨kw_357, kw_359, kw_23, kw_33, kw_360⟩
theorem hd_X3_skip : yX3_skip.cls = RX3 ∧ HD yX3_skip 0 := ⟨rfl, by decide +kernel⟩
theorem kw_361 : Cond.methodLink RX3 53 yX3_device ∈ TB := tb_mk 361 (by decide +kernel) (by decide +kernel)
theorem kw_363 : Cond.instanceMethod yX3_device ∈ TB := tb_mk 363 (by decide +kernel) (by decide +kernel)
theorem kw_24 : Cond.selects RX3 yX3_device yX3_device ∈ TB := tb_mk 24 (by decide +kernel) (by decide +kernel)
theorem kw_364 : Cond.code yX3_device cX3_device 4 none ∈ TB := tb_mk 364 rfl (by decide +kernel)
theorem k_X3_53 : WV RX3 53 RX3 yX3_device (Cond.code yX3_device cX3_device 4 none) := ⟨kw_361, kw_363, kw_24, kw_33, kw_364⟩
theorem hd_X3_device : yX3_device.cls = RX3 ∧ HD yX3_device 1 := ⟨rfl, by decide +kernel⟩
theorem kw_365 : Cond.methodLink RX3 76 yX3_advance ∈ TB := tb_mk 365 (by decide +kernel) (by decide +kernel)
theorem kw_367 : Cond.instanceMethod yX3_advance ∈ TB := tb_mk 367 (by decide +kernel) (by decide +kernel)
theorem kw_25 : Cond.selects RX3 yX3_advance yX3_advance ∈ TB := tb_mk 25 (by decide +kernel) (by decide +kernel)
theorem kw_368 : Cond.code yX3_advance cX3_advance 1 none ∈ TB := tb_mk 368 rfl (by decide +kernel)
theorem k_X3_76 : WV RX3 76 RX3 yX3_advance (Cond.code yX3_advance cX3_advance 1 none) := ⟨kw_365, kw_367, kw_25, kw_33, kw_368⟩
theorem hd_X3_advance : yX3_advance.cls = RX3 ∧ HD yX3_advance 0 := ⟨rfl, by decide +kernel⟩
theorem kw_369 : Cond.methodLink RX3 61 yX3_first ∈ TB := tb_mk 369 (by decide +kernel) (by decide +kernel)
theorem kw_371 : Cond.instanceMethod yX3_first ∈ TB := tb_mk 371 (by decide +kernel) (by decide +kernel)
theorem kw_26 : Cond.selects RX3 yX3_first yX3_first ∈ TB := tb_mk 26 (by decide +kernel) (by decide +kernel)
theorem kw_372 : Cond.code yX3_first cX3_first 6 none ∈ TB := tb_mk 372 rfl (by decide +kernel)
theorem k_X3_61 : WV RX3 61 RX3 yX3_first (Cond.code yX3_first cX3_first 6 none) := ⟨kw_369, kw_371, kw_26, kw_33, kw_372⟩
theorem hd_X3_first : yX3_first.cls = RX3 ∧ HD yX3_first 1 := ⟨rfl, by decide +kernel⟩
theorem kw_373 : Cond.methodLink RX3 64 yX3_second ∈ TB := tb_mk 373 (by decide +kernel) (by decide +kernel)
theorem kw_375 : Cond.instanceMethod yX3_second ∈ TB := tb_mk 375 (by decide +kernel) (by decide +kernel)
theorem kw_27 : Cond.selects RX3 yX3_second yX3_second ∈ TB := tb_mk 27 (by decide +kernel) (by decide +kernel)
theorem kw_376 : Cond.code yX3_second cX3_second 3 none ∈ TB := tb_mk 376 rfl (by decide +kernel)
theorem k_X3_64 : WV RX3 64 RX3 yX3_second (Cond.code yX3_second cX3_second 3 none) := ⟨kw_373, kw_375, kw_27, kw_33, kw_376⟩
theorem hd_X3_second : yX3_second.cls = RX3 ∧ HD yX3_second 1 := ⟨rfl, by decide +kernel⟩
theorem kw_377 : Cond.methodLink RX3 67 yX3_third ∈ TB := tb_mk 377 (by decide +kernel) (by decide +kernel)
theorem kw_379 : Cond.instanceMethod yX3_third ∈ TB := tb_mk 379 (by decide +kernel) (by decide +kernel)
theorem kw_28 : Cond.selects RX3 yX3_third yX3_third ∈ TB := tb_mk 28 (by decide +kernel) (by decide +kernel)
theorem kw_380 : Cond.code yX3_third cX3_third 6 none ∈ TB := tb_mk 380 rfl (by decide +kernel)
theorem k_X3_67 : WV RX3 67 RX3 yX3_third (Cond.code yX3_third cX3_third 6 none) := ⟨kw_377, kw_379, kw_28, kw_33, kw_380⟩
theorem hd_X3_third : yX3_third.cls = RX3 ∧ HD yX3_third 1 := ⟨rfl, by decide +kernel⟩
theorem kw_381 : Cond.methodLink RL 54 yX3_printed ∈ TB := tb_mk 381 (by decide +kernel) (by decide +kernel)
theorem kw_382 : Cond.instanceMethod yX3_printed ∈ TB := tb_mk 382 (by decide +kernel) (by decide +kernel)
theorem kw_383 : Cond.selects RX3 yX3_printed yX3_printed ∈ TB := tb_mk 383 (by decide +kernel) (by decide +kernel)
theorem kw_384 : Cond.code yX3_printed cX3_printed 2 (some .int) ∈ TB := tb_mk 384 rfl (by decide +kernel)
theorem k_L_54 : WV RL 54 RX3 yX3_printed (Cond.code yX3_printed cX3_printed 2 (some .int)) := ⟨kw_381, kw_382, kw_383, kw_33, kw_384⟩
theorem hd_X3_printed : yX3_printed.cls = RX3 ∧ HD yX3_printed 1 := ⟨rfl, by decide +kernel⟩
theorem kw_385 : Cond.methodLink RL 58 yX3_trace ∈ TB := tb_mk 385 (by decide +kernel) (by decide +kernel)
theorem kw_386 : Cond.instanceMethod yX3_trace ∈ TB := tb_mk 386 (by decide +kernel) (by decide +kernel)
theorem kw_387 : Cond.selects RX3 yX3_trace yX3_trace ∈ TB := tb_mk 387 (by decide +kernel) (by decide +kernel)
theorem kw_388 : Cond.code yX3_trace cX3_trace 2 (some .int) ∈ TB := tb_mk 388 rfl (by decide +kernel)
theorem k_L_58 : WV RL 58 RX3 yX3_trace (Cond.code yX3_trace cX3_trace 2 (some .int)) := ⟨kw_385, kw_386, kw_387, kw_33, kw_388⟩
theorem hd_X3_trace : yX3_trace.cls = RX3 ∧ HD yX3_trace 1 := ⟨rfl, by decide +kernel⟩
theorem kw_389 : Cond.methodLink RL 62 yX3_interrupts ∈ TB := tb_mk 389 (by decide +kernel) (by decide +kernel)
theorem kw_390 : Cond.instanceMethod yX3_interrupts ∈ TB := tb_mk 390 (by decide +kernel) (by decide +kernel)
theorem kw_391 : Cond.selects RX3 yX3_interrupts yX3_interrupts ∈ TB := tb_mk 391 (by decide +kernel) (by decide +kernel)
theorem kw_392 : Cond.code yX3_interrupts cX3_interrupts 1 (some .int) ∈ TB := tb_mk 392 rfl (by decide +kernel)
theorem k_L_62 : WV RL 62 RX3 yX3_interrupts (Cond.code yX3_interrupts cX3_interrupts 1 (some .int)) := ⟨kw_389, kw_390, kw_391, kw_33, kw_392⟩
theorem hd_X3_interrupts : yX3_interrupts.cls = RX3 ∧ HD yX3_interrupts 0 := ⟨rfl, by decide +kernel⟩
theorem kw_393 : Cond.methodLink RL 66 yX3_skips ∈ TB := tb_mk 393 (by decide +kernel) (by decide +kernel)
theorem kw_394 : Cond.instanceMethod yX3_skips ∈ TB := tb_mk 394 (by decide +kernel) (by decide +kernel)
theorem kw_395 : Cond.selects RX3 yX3_skips yX3_skips ∈ TB := tb_mk 395 (by decide +kernel) (by decide +kernel)
theorem kw_396 : Cond.code yX3_skips cX3_skips 1 (some .int) ∈ TB := tb_mk 396 rfl (by decide +kernel)
theorem k_L_66 : WV RL 66 RX3 yX3_skips (Cond.code yX3_skips cX3_skips 1 (some .int)) := ⟨kw_393, kw_394, kw_395, kw_33, kw_396⟩
theorem hd_X3_skips : yX3_skips.cls = RX3 ∧ HD yX3_skips 0 := ⟨rfl, by decide +kernel⟩
theorem kw_34 : Cond.classLink RL 7 RX2 ∈ TB := tb_mk 34 (by decide +kernel) (by decide +kernel)
theorem kw_35 : Cond.instantiable RX2 15 ∈ TB := tb_mk 35 (by decide +kernel) (by decide +kernel)
theorem kw_39 : Cond.methodLink RX2 1 objectInit ∈ TB := tb_mk 39 (by decide +kernel) (by decide +kernel)
theorem kw_40 : Cond.instanceMethod objectInit ∈ TB := tb_mk 40 (by decide +kernel) (by decide +kernel)
theorem kw_41 : Cond.code objectInit ⟨#[0xb1]⟩ 1 none ∈ TB := tb_mk 41 rfl (by decide +kernel)
theorem kw_42 : Cond.classLink RX2 13 RX0 ∈ TB := tb_mk 42 (by decide +kernel) (by decide +kernel)
theorem kw_43 : Cond.instantiable RX0 5 ∈ TB := tb_mk 43 (by decide +kernel) (by decide +kernel)
theorem kw_47 : Cond.methodLink RX0 3 objectInit ∈ TB := tb_mk 47 (by decide +kernel) (by decide +kernel)
theorem kw_66 : Cond.arrayClass .int ∈ TB := tb_mk 66 (by decide +kernel) (by decide +kernel)
theorem kw_67 : Cond.classLink RX2 20 RX1 ∈ TB := tb_mk 67 (by decide +kernel) (by decide +kernel)
theorem kw_68 : Cond.instantiable RX1 2 ∈ TB := tb_mk 68 (by decide +kernel) (by decide +kernel)
theorem kw_72 : Cond.methodLink RX1 3 objectInit ∈ TB := tb_mk 72 (by decide +kernel) (by decide +kernel)
theorem kw_263 : Cond.classLink RL 10 RX3 ∈ TB := tb_mk 263 (by decide +kernel) (by decide +kernel)
theorem kw_264 : Cond.instantiable RX3 11 ∈ TB := tb_mk 264 (by decide +kernel) (by decide +kernel)
theorem kw_268 : Cond.methodLink RX3 1 objectInit ∈ TB := tb_mk 268 (by decide +kernel) (by decide +kernel)
abbrev cw (q : Nat → Nat) (cI : ClassId) (g : Nat → Int32) (mm : Nat → Nat → Int32) : va_W := [(q 0, .inr (2, [.ref (q 1), .ref (q 2), .ref (q 3), .ref (q 4), .int (g 0), .int (g 1), .int (g 2), .int (g 3), .int (g 4), .int (g 5), .int (g 6), .int (g 7), .int (g 8), .int (g 9), .int (g 10)])), (q 1, .inl (cI, 4096, .inl (mm 0))), (q 2, .inr (0, [.ref (q 5), .int (g 11), .int (g 12), .int (g 13), .int (g 14)])), (q 5, .inl (cI, 400, .inl (mm 1))), (q 3, .inr (1, [.ref (q 6), .int (g 15)])), (q 6, .inl (cI, 64, .inl (mm 2))), (q 4, .inr (1, [.ref (q 7), .int (g 16)])), (q 7, .inl (cI, 64, .inl (mm 3)))]
abbrev mw (q : Nat → Nat) (cI : ClassId) (g : Nat → Int32) (mm : Nat → Nat → Int32) : va_W := [(q 0, .inr (3, [.ref (q 1), .ref (q 2), .ref (q 3), .ref (q 4), .ref (q 5), .int (g 0), .int (g 1), .int (g 2), .int (g 3), .int (g 4), .int (g 5)])), (q 1, .inl (cI, 4096, .inl (mm 0))), (q 2, .inl (cI, 11, .inl (mm 1))), (q 3, .inl (cI, 400, .inl (mm 2))), (q 4, .inl (cI, 64, .inl (mm 3))), (q 5, .inl (cI, 64, .inl (mm 4)))]
abbrev rdw (a b : Nat) (cI : ClassId) (fd tk bf fl : Int32) (tp : Nat → Int32) : va_W := [(a, .inr (0, [.ref b, .int fd, .int tk, .int bf, .int fl])), (b, .inl (cI, 400, .inl tp))]
abbrev rcw (a b : Nat) (cI : ClassId) (ct : Int32) (rw : Nat → Int32) : va_W := [(a, .inr (1, [.ref b, .int ct])), (b, .inl (cI, 64, .inl rw))]
theorem cw_eq {q : Nat → Nat} {cI : ClassId} {g g2 : Nat → Int32} {mm mm2 : Nat → Nat → Int32} (h1 : g = g2) (h2 : mm = mm2) : cw q cI g mm = cw q cI g2 mm2 := by rw [h1, h2]
theorem mw_eq {q : Nat → Nat} {cI : ClassId} {g g2 : Nat → Int32} {mm mm2 : Nat → Nat → Int32} (h1 : g = g2) (h2 : mm = mm2) : mw q cI g mm = mw q cI g2 mm2 := by rw [h1, h2]
theorem rdw_eq {a b : Nat} {cI : ClassId} {fd tk bf fl fd2 tk2 bf2 fl2 : Int32} {tp tp2 : Nat → Int32} (h1 : fd = fd2) (h2 : tk = tk2) (h3 : bf = bf2) (h4 : fl = fl2) (h5 : tp = tp2) : rdw a b cI fd tk bf fl tp = rdw a b cI fd2 tk2 bf2 fl2 tp2 := by rw [h1, h2, h3, h4, h5]
theorem rcw_eq {a b : Nat} {cI : ClassId} {ct ct2 : Int32} {rw rw2 : Nat → Int32} (h1 : ct = ct2) (h2 : rw = rw2) : rcw a b cI ct rw = rcw a b cI ct2 rw2 := by rw [h1, h2]
section ROWS
variable {p : Program} {l : Launch} {e : Env} {R : Room} {s : State} {m : MethodId} {args : Array Value} {below : List Frame} {meth : Method} {c : Code} {H : Heap} {locs : List Loc} {cells slots : Nat} {Q : State → Prop}
variable {cc : ByteArray} {nL pc : Nat} {ls : Array Slot} {rest st0 : List Value} {D : va_G} {cI : ClassId} {A : Nat → Prop} {Ts : List Cond} {q : Nat → Nat} {g : Nat → Int32} {mm : Nat → Nat → Int32} {a b : Nat} {fd tk bf fl ct : Int32} {tp rw : Nat → Int32}
theorem G_X0_tape (X : CallFix p m c cc nL s args Ts RX0) (hTs : ∀ w ∈ TB, w ∈ Ts) (Z : ZZ D cI (rdw a b cI fd tk bf fl tp) A s H locs) (hdg : decode cc pc = .ok (.getfield 9, 3)) (kk : W p l e R s m args below meth c H locs cells slots Q (F0 m (pc + 3) ls (.ref b :: rest))) : W p l e R s m args below meth c H locs cells slots Q (F0 m pc ls (.ref a :: rest)) := z_get X hTs Z iX0 0 rfl rfl 0 (by decide) kw_48 rfl rfl hdg kk
theorem G_X0_fed (X : CallFix p m c cc nL s args Ts RX0) (hTs : ∀ w ∈ TB, w ∈ Ts) (Z : ZZ D cI (rdw a b cI fd tk bf fl tp) A s H locs) (hdg : decode cc pc = .ok (.getfield 15, 3)) (kk : W p l e R s m args below meth c H locs cells slots Q (F0 m (pc + 3) ls (.int fd :: rest))) : W p l e R s m args below meth c H locs cells slots Q (F0 m pc ls (.ref a :: rest)) := z_get X hTs Z iX0 0 rfl rfl 1 (by decide) kw_49 rfl rfl hdg kk
theorem P_X0_fed {v : Int32} (X : CallFix p m c cc nL s args Ts RX0) (hTs : ∀ w ∈ TB, w ∈ Ts) (Z : ZZ D cI (rdw a b cI fd tk bf fl tp) A s H locs) (hdg : decode cc pc = .ok (.putfield 15, 3)) (kk : ∀ (H1 : Heap) (locs1 : List Loc), ZZ D cI (rdw a b cI v tk bf fl tp) A s H1 locs1 → W p l e R s m args below meth c H1 locs1 cells slots Q (F0 m (pc + 3) ls rest)) : W p l e R s m args below meth c H locs cells slots Q (F0 m pc ls (.int v :: .ref a :: rest)) := z_put X hTs Z iX0 tyX0 tyX0_ok nmX0 0 rfl rfl 1 (by decide) kw_49 rfl rfl (ty := .int) (by decide +kernel) rfl rfl (Nat.le_of_ble_eq_true rfl) rfl hdg kk
theorem G_X0_taken (X : CallFix p m c cc nL s args Ts RX0) (hTs : ∀ w ∈ TB, w ∈ Ts) (Z : ZZ D cI (rdw a b cI fd tk bf fl tp) A s H locs) (hdg : decode cc pc = .ok (.getfield 19, 3)) (kk : W p l e R s m args below meth c H locs cells slots Q (F0 m (pc + 3) ls (.int tk :: rest))) : W p l e R s m args below meth c H locs cells slots Q (F0 m pc ls (.ref a :: rest)) := z_get X hTs Z iX0 0 rfl rfl 2 (by decide) kw_50 rfl rfl hdg kk
theorem P_X0_taken {v : Int32} (X : CallFix p m c cc nL s args Ts RX0) (hTs : ∀ w ∈ TB, w ∈ Ts) (Z : ZZ D cI (rdw a b cI fd tk bf fl tp) A s H locs) (hdg : decode cc pc = .ok (.putfield 19, 3)) (kk : ∀ (H1 : Heap) (locs1 : List Loc), ZZ D cI (rdw a b cI fd v bf fl tp) A s H1 locs1 → W p l e R s m args below meth c H1 locs1 cells slots Q (F0 m (pc + 3) ls rest)) : W p l e R s m args below meth c H locs cells slots Q (F0 m pc ls (.int v :: .ref a :: rest)) := z_put X hTs Z iX0 tyX0 tyX0_ok nmX0 0 rfl rfl 2 (by decide) kw_50 rfl rfl (ty := .int) (by decide +kernel) rfl rfl (Nat.le_of_ble_eq_true rfl) rfl hdg kk
theorem G_X0_flag (X : CallFix p m c cc nL s args Ts RX0) (hTs : ∀ w ∈ TB, w ∈ Ts) (Z : ZZ D cI (rdw a b cI fd tk bf fl tp) A s H locs) (hdg : decode cc pc = .ok (.getfield 22, 3)) (kk : W p l e R s m args below meth c H locs cells slots Q (F0 m (pc + 3) ls (.int fl :: rest))) : W p l e R s m args below meth c H locs cells slots Q (F0 m pc ls (.ref a :: rest)) := z_get X hTs Z iX0 0 rfl rfl 4 (by decide) kw_53 rfl rfl hdg kk
theorem P_X0_flag {v : Int32} (X : CallFix p m c cc nL s args Ts RX0) (hTs : ∀ w ∈ TB, w ∈ Ts) (Z : ZZ D cI (rdw a b cI fd tk bf fl tp) A s H locs) (hv : narrow .boolean (.int v) = .int v ∧ fits .boolean (.int v) = true) (hdg : decode cc pc = .ok (.putfield 22, 3)) (kk : ∀ (H1 : Heap) (locs1 : List Loc), ZZ D cI (rdw a b cI fd tk bf v tp) A s H1 locs1 → W p l e R s m args below meth c H1 locs1 cells slots Q (F0 m (pc + 3) ls rest)) : W p l e R s m args below meth c H locs cells slots Q (F0 m pc ls (.int v :: .ref a :: rest)) := z_put X hTs Z iX0 tyX0 tyX0_ok nmX0 0 rfl rfl 4 (by decide) kw_53 rfl rfl (ty := .boolean) (by decide +kernel) hv.1 hv.2 (Nat.le_of_ble_eq_true rfl) rfl hdg kk
theorem G_X0_buffer (X : CallFix p m c cc nL s args Ts RX0) (hTs : ∀ w ∈ TB, w ∈ Ts) (Z : ZZ D cI (rdw a b cI fd tk bf fl tp) A s H locs) (hdg : decode cc pc = .ok (.getfield 26, 3)) (kk : W p l e R s m args below meth c H locs cells slots Q (F0 m (pc + 3) ls (.int bf :: rest))) : W p l e R s m args below meth c H locs cells slots Q (F0 m pc ls (.ref a :: rest)) := z_get X hTs Z iX0 0 rfl rfl 3 (by decide) kw_51 rfl rfl hdg kk
theorem P_X0_buffer {v : Int32} (X : CallFix p m c cc nL s args Ts RX0) (hTs : ∀ w ∈ TB, w ∈ Ts) (Z : ZZ D cI (rdw a b cI fd tk bf fl tp) A s H locs) (hdg : decode cc pc = .ok (.putfield 26, 3)) (kk : ∀ (H1 : Heap) (locs1 : List Loc), ZZ D cI (rdw a b cI fd tk v fl tp) A s H1 locs1 → W p l e R s m args below meth c H1 locs1 cells slots Q (F0 m (pc + 3) ls rest)) : W p l e R s m args below meth c H locs cells slots Q (F0 m pc ls (.int v :: .ref a :: rest)) := z_put X hTs Z iX0 tyX0 tyX0_ok nmX0 0 rfl rfl 3 (by decide) kw_51 rfl rfl (ty := .int) (by decide +kernel) rfl rfl (Nat.le_of_ble_eq_true rfl) rfl hdg kk
theorem G_X1_row (X : CallFix p m c cc nL s args Ts RX1) (hTs : ∀ w ∈ TB, w ∈ Ts) (Z : ZZ D cI (rcw a b cI ct rw) A s H locs) (hdg : decode cc pc = .ok (.getfield 9, 3)) (kk : W p l e R s m args below meth c H locs cells slots Q (F0 m (pc + 3) ls (.ref b :: rest))) : W p l e R s m args below meth c H locs cells slots Q (F0 m pc ls (.ref a :: rest)) := z_get X hTs Z iX1 0 rfl rfl 0 (by decide) kw_73 rfl rfl hdg kk
theorem G_X1_count (X : CallFix p m c cc nL s args Ts RX1) (hTs : ∀ w ∈ TB, w ∈ Ts) (Z : ZZ D cI (rcw a b cI ct rw) A s H locs) (hdg : decode cc pc = .ok (.getfield 15, 3)) (kk : W p l e R s m args below meth c H locs cells slots Q (F0 m (pc + 3) ls (.int ct :: rest))) : W p l e R s m args below meth c H locs cells slots Q (F0 m pc ls (.ref a :: rest)) := z_get X hTs Z iX1 0 rfl rfl 1 (by decide) kw_74 rfl rfl hdg kk
theorem P_X1_count {v : Int32} (X : CallFix p m c cc nL s args Ts RX1) (hTs : ∀ w ∈ TB, w ∈ Ts) (Z : ZZ D cI (rcw a b cI ct rw) A s H locs) (hdg : decode cc pc = .ok (.putfield 15, 3)) (kk : ∀ (H1 : Heap) (locs1 : List Loc), ZZ D cI (rcw a b cI v rw) A s H1 locs1 → W p l e R s m args below meth c H1 locs1 cells slots Q (F0 m (pc + 3) ls rest)) : W p l e R s m args below meth c H locs cells slots Q (F0 m pc ls (.int v :: .ref a :: rest)) := z_put X hTs Z iX1 tyX1 tyX1_ok nmX1 0 rfl rfl 1 (by decide) kw_74 rfl rfl (ty := .int) (by decide +kernel) rfl rfl (Nat.le_of_ble_eq_true rfl) rfl hdg kk
theorem G_X2_core (X : CallFix p m c cc nL s args Ts RX2) (hTs : ∀ w ∈ TB, w ∈ Ts) (Z : ZZ D cI (cw q cI g mm) A s H locs) (hdg : decode cc pc = .ok (.getfield 9, 3)) (kk : W p l e R s m args below meth c H locs cells slots Q (F0 m (pc + 3) ls (.ref (q 1) :: rest))) : W p l e R s m args below meth c H locs cells slots Q (F0 m pc ls (.ref (q 0) :: rest)) := z_get X hTs Z iX2 0 rfl rfl 0 (by decide) kw_81 rfl rfl hdg kk
theorem G_X2_reader (X : CallFix p m c cc nL s args Ts RX2) (hTs : ∀ w ∈ TB, w ∈ Ts) (Z : ZZ D cI (cw q cI g mm) A s H locs) (hdg : decode cc pc = .ok (.getfield 16, 3)) (kk : W p l e R s m args below meth c H locs cells slots Q (F0 m (pc + 3) ls (.ref (q 2) :: rest))) : W p l e R s m args below meth c H locs cells slots Q (F0 m pc ls (.ref (q 0) :: rest)) := z_get X hTs Z iX2 0 rfl rfl 1 (by decide) kw_82 rfl rfl hdg kk
theorem G_X2_prints (X : CallFix p m c cc nL s args Ts RX2) (hTs : ∀ w ∈ TB, w ∈ Ts) (Z : ZZ D cI (cw q cI g mm) A s H locs) (hdg : decode cc pc = .ok (.getfield 23, 3)) (kk : W p l e R s m args below meth c H locs cells slots Q (F0 m (pc + 3) ls (.ref (q 3) :: rest))) : W p l e R s m args below meth c H locs cells slots Q (F0 m pc ls (.ref (q 0) :: rest)) := z_get X hTs Z iX2 0 rfl rfl 2 (by decide) kw_83 rfl rfl hdg kk
theorem G_X2_steps (X : CallFix p m c cc nL s args Ts RX2) (hTs : ∀ w ∈ TB, w ∈ Ts) (Z : ZZ D cI (cw q cI g mm) A s H locs) (hdg : decode cc pc = .ok (.getfield 27, 3)) (kk : W p l e R s m args below meth c H locs cells slots Q (F0 m (pc + 3) ls (.ref (q 4) :: rest))) : W p l e R s m args below meth c H locs cells slots Q (F0 m pc ls (.ref (q 0) :: rest)) := z_get X hTs Z iX2 0 rfl rfl 3 (by decide) kw_84 rfl rfl hdg kk
theorem G_X2_ac (X : CallFix p m c cc nL s args Ts RX2) (hTs : ∀ w ∈ TB, w ∈ Ts) (Z : ZZ D cI (cw q cI g mm) A s H locs) (hdg : decode cc pc = .ok (.getfield 49, 3)) (kk : W p l e R s m args below meth c H locs cells slots Q (F0 m (pc + 3) ls (.int (g 0) :: rest))) : W p l e R s m args below meth c H locs cells slots Q (F0 m pc ls (.ref (q 0) :: rest)) := z_get X hTs Z iX2 0 rfl rfl 4 (by decide) kw_85 rfl rfl hdg kk
theorem P_X2_ac {v : Int32} (X : CallFix p m c cc nL s args Ts RX2) (hTs : ∀ w ∈ TB, w ∈ Ts) (Z : ZZ D cI (cw q cI g mm) A s H locs) (hdg : decode cc pc = .ok (.putfield 49, 3)) (kk : ∀ (H1 : Heap) (locs1 : List Loc), ZZ D cI (cw q cI (upd g 0 v) mm) A s H1 locs1 → W p l e R s m args below meth c H1 locs1 cells slots Q (F0 m (pc + 3) ls rest)) : W p l e R s m args below meth c H locs cells slots Q (F0 m pc ls (.int v :: .ref (q 0) :: rest)) := z_put X hTs Z iX2 tyX2 tyX2_ok nmX2 0 rfl rfl 4 (by decide) kw_85 rfl rfl (ty := .int) (by decide +kernel) rfl rfl (Nat.le_of_ble_eq_true rfl) rfl hdg kk
theorem G_X2_link (X : CallFix p m c cc nL s args Ts RX2) (hTs : ∀ w ∈ TB, w ∈ Ts) (Z : ZZ D cI (cw q cI g mm) A s H locs) (hdg : decode cc pc = .ok (.getfield 53, 3)) (kk : W p l e R s m args below meth c H locs cells slots Q (F0 m (pc + 3) ls (.int (g 1) :: rest))) : W p l e R s m args below meth c H locs cells slots Q (F0 m pc ls (.ref (q 0) :: rest)) := z_get X hTs Z iX2 0 rfl rfl 5 (by decide) kw_86 rfl rfl hdg kk
theorem P_X2_link {v : Int32} (X : CallFix p m c cc nL s args Ts RX2) (hTs : ∀ w ∈ TB, w ∈ Ts) (Z : ZZ D cI (cw q cI g mm) A s H locs) (hdg : decode cc pc = .ok (.putfield 53, 3)) (kk : ∀ (H1 : Heap) (locs1 : List Loc), ZZ D cI (cw q cI (upd g 1 v) mm) A s H1 locs1 → W p l e R s m args below meth c H1 locs1 cells slots Q (F0 m (pc + 3) ls rest)) : W p l e R s m args below meth c H locs cells slots Q (F0 m pc ls (.int v :: .ref (q 0) :: rest)) := z_put X hTs Z iX2 tyX2 tyX2_ok nmX2 0 rfl rfl 5 (by decide) kw_86 rfl rfl (ty := .int) (by decide +kernel) rfl rfl (Nat.le_of_ble_eq_true rfl) rfl hdg kk
theorem G_X2_pc (X : CallFix p m c cc nL s args Ts RX2) (hTs : ∀ w ∈ TB, w ∈ Ts) (Z : ZZ D cI (cw q cI g mm) A s H locs) (hdg : decode cc pc = .ok (.getfield 56, 3)) (kk : W p l e R s m args below meth c H locs cells slots Q (F0 m (pc + 3) ls (.int (g 2) :: rest))) : W p l e R s m args below meth c H locs cells slots Q (F0 m pc ls (.ref (q 0) :: rest)) := z_get X hTs Z iX2 0 rfl rfl 6 (by decide) kw_87 rfl rfl hdg kk
theorem P_X2_pc {v : Int32} (X : CallFix p m c cc nL s args Ts RX2) (hTs : ∀ w ∈ TB, w ∈ Ts) (Z : ZZ D cI (cw q cI g mm) A s H locs) (hdg : decode cc pc = .ok (.putfield 56, 3)) (kk : ∀ (H1 : Heap) (locs1 : List Loc), ZZ D cI (cw q cI (upd g 2 v) mm) A s H1 locs1 → W p l e R s m args below meth c H1 locs1 cells slots Q (F0 m (pc + 3) ls rest)) : W p l e R s m args below meth c H locs cells slots Q (F0 m pc ls (.int v :: .ref (q 0) :: rest)) := z_put X hTs Z iX2 tyX2 tyX2_ok nmX2 0 rfl rfl 6 (by decide) kw_87 rfl rfl (ty := .int) (by decide +kernel) rfl rfl (Nat.le_of_ble_eq_true rfl) rfl hdg kk
theorem G_X2_mq (X : CallFix p m c cc nL s args Ts RX2) (hTs : ∀ w ∈ TB, w ∈ Ts) (Z : ZZ D cI (cw q cI g mm) A s H locs) (hdg : decode cc pc = .ok (.getfield 59, 3)) (kk : W p l e R s m args below meth c H locs cells slots Q (F0 m (pc + 3) ls (.int (g 3) :: rest))) : W p l e R s m args below meth c H locs cells slots Q (F0 m pc ls (.ref (q 0) :: rest)) := z_get X hTs Z iX2 0 rfl rfl 7 (by decide) kw_88 rfl rfl hdg kk
theorem P_X2_mq {v : Int32} (X : CallFix p m c cc nL s args Ts RX2) (hTs : ∀ w ∈ TB, w ∈ Ts) (Z : ZZ D cI (cw q cI g mm) A s H locs) (hdg : decode cc pc = .ok (.putfield 59, 3)) (kk : ∀ (H1 : Heap) (locs1 : List Loc), ZZ D cI (cw q cI (upd g 3 v) mm) A s H1 locs1 → W p l e R s m args below meth c H1 locs1 cells slots Q (F0 m (pc + 3) ls rest)) : W p l e R s m args below meth c H locs cells slots Q (F0 m pc ls (.int v :: .ref (q 0) :: rest)) := z_put X hTs Z iX2 tyX2 tyX2_ok nmX2 0 rfl rfl 7 (by decide) kw_88 rfl rfl (ty := .int) (by decide +kernel) rfl rfl (Nat.le_of_ble_eq_true rfl) rfl hdg kk
theorem G_X2_sr (X : CallFix p m c cc nL s args Ts RX2) (hTs : ∀ w ∈ TB, w ∈ Ts) (Z : ZZ D cI (cw q cI g mm) A s H locs) (hdg : decode cc pc = .ok (.getfield 62, 3)) (kk : W p l e R s m args below meth c H locs cells slots Q (F0 m (pc + 3) ls (.int (g 4) :: rest))) : W p l e R s m args below meth c H locs cells slots Q (F0 m pc ls (.ref (q 0) :: rest)) := z_get X hTs Z iX2 0 rfl rfl 8 (by decide) kw_89 rfl rfl hdg kk
theorem P_X2_sr {v : Int32} (X : CallFix p m c cc nL s args Ts RX2) (hTs : ∀ w ∈ TB, w ∈ Ts) (Z : ZZ D cI (cw q cI g mm) A s H locs) (hdg : decode cc pc = .ok (.putfield 62, 3)) (kk : ∀ (H1 : Heap) (locs1 : List Loc), ZZ D cI (cw q cI (upd g 4 v) mm) A s H1 locs1 → W p l e R s m args below meth c H1 locs1 cells slots Q (F0 m (pc + 3) ls rest)) : W p l e R s m args below meth c H locs cells slots Q (F0 m pc ls (.int v :: .ref (q 0) :: rest)) := z_put X hTs Z iX2 tyX2 tyX2_ok nmX2 0 rfl rfl 8 (by decide) kw_89 rfl rfl (ty := .int) (by decide +kernel) rfl rfl (Nat.le_of_ble_eq_true rfl) rfl hdg kk
theorem G_X2_ion (X : CallFix p m c cc nL s args Ts RX2) (hTs : ∀ w ∈ TB, w ∈ Ts) (Z : ZZ D cI (cw q cI g mm) A s H locs) (hdg : decode cc pc = .ok (.getfield 65, 3)) (kk : W p l e R s m args below meth c H locs cells slots Q (F0 m (pc + 3) ls (.int (g 6) :: rest))) : W p l e R s m args below meth c H locs cells slots Q (F0 m pc ls (.ref (q 0) :: rest)) := z_get X hTs Z iX2 0 rfl rfl 10 (by decide) kw_91 rfl rfl hdg kk
theorem P_X2_ion {v : Int32} (X : CallFix p m c cc nL s args Ts RX2) (hTs : ∀ w ∈ TB, w ∈ Ts) (Z : ZZ D cI (cw q cI g mm) A s H locs) (hv : narrow .boolean (.int v) = .int v ∧ fits .boolean (.int v) = true) (hdg : decode cc pc = .ok (.putfield 65, 3)) (kk : ∀ (H1 : Heap) (locs1 : List Loc), ZZ D cI (cw q cI (upd g 6 v) mm) A s H1 locs1 → W p l e R s m args below meth c H1 locs1 cells slots Q (F0 m (pc + 3) ls rest)) : W p l e R s m args below meth c H locs cells slots Q (F0 m pc ls (.int v :: .ref (q 0) :: rest)) := z_put X hTs Z iX2 tyX2 tyX2_ok nmX2 0 rfl rfl 10 (by decide) kw_91 rfl rfl (ty := .boolean) (by decide +kernel) hv.1 hv.2 (Nat.le_of_ble_eq_true rfl) rfl hdg kk
theorem G_X2_delay (X : CallFix p m c cc nL s args Ts RX2) (hTs : ∀ w ∈ TB, w ∈ Ts) (Z : ZZ D cI (cw q cI g mm) A s H locs) (hdg : decode cc pc = .ok (.getfield 73, 3)) (kk : W p l e R s m args below meth c H locs cells slots Q (F0 m (pc + 3) ls (.int (g 7) :: rest))) : W p l e R s m args below meth c H locs cells slots Q (F0 m pc ls (.ref (q 0) :: rest)) := z_get X hTs Z iX2 0 rfl rfl 11 (by decide) kw_92 rfl rfl hdg kk
theorem P_X2_delay {v : Int32} (X : CallFix p m c cc nL s args Ts RX2) (hTs : ∀ w ∈ TB, w ∈ Ts) (Z : ZZ D cI (cw q cI g mm) A s H locs) (hv : narrow .boolean (.int v) = .int v ∧ fits .boolean (.int v) = true) (hdg : decode cc pc = .ok (.putfield 73, 3)) (kk : ∀ (H1 : Heap) (locs1 : List Loc), ZZ D cI (cw q cI (upd g 7 v) mm) A s H1 locs1 → W p l e R s m args below meth c H1 locs1 cells slots Q (F0 m (pc + 3) ls rest)) : W p l e R s m args below meth c H locs cells slots Q (F0 m pc ls (.int v :: .ref (q 0) :: rest)) := z_put X hTs Z iX2 tyX2 tyX2_ok nmX2 0 rfl rfl 11 (by decide) kw_92 rfl rfl (ty := .boolean) (by decide +kernel) hv.1 hv.2 (Nat.le_of_ble_eq_true rfl) rfl hdg kk
theorem G_X2_r_flag (X : CallFix p m c cc nL s args Ts RX2) (hTs : ∀ w ∈ TB, w ∈ Ts) (Z : ZZ D cI (cw q cI g mm) A s H locs) (hdg : decode cc pc = .ok (.getfield 76, 3)) (kk : W p l e R s m args below meth c H locs cells slots Q (F0 m (pc + 3) ls (.int (g 14) :: rest))) : W p l e R s m args below meth c H locs cells slots Q (F0 m pc ls (.ref (q 2) :: rest)) := z_getN X hTs Z iX0 2 rfl rfl 4 (by decide) kw_54 rfl rfl hdg kk
theorem P_X2_r_flag {v : Int32} (X : CallFix p m c cc nL s args Ts RX2) (hTs : ∀ w ∈ TB, w ∈ Ts) (Z : ZZ D cI (cw q cI g mm) A s H locs) (hv : narrow .boolean (.int v) = .int v ∧ fits .boolean (.int v) = true) (hdg : decode cc pc = .ok (.putfield 76, 3)) (kk : ∀ (H1 : Heap) (locs1 : List Loc), ZZ D cI (cw q cI (upd g 14 v) mm) A s H1 locs1 → W p l e R s m args below meth c H1 locs1 cells slots Q (F0 m (pc + 3) ls rest)) : W p l e R s m args below meth c H locs cells slots Q (F0 m pc ls (.int v :: .ref (q 2) :: rest)) := z_putN X hTs Z iX0 tyX0 tyX0_ok nmX0 2 rfl rfl 4 (by decide) kw_54 rfl rfl (ty := .boolean) (by decide +kernel) hv.1 hv.2 (Nat.le_of_ble_eq_true rfl) rfl hdg kk
theorem G_X2_r_buffer (X : CallFix p m c cc nL s args Ts RX2) (hTs : ∀ w ∈ TB, w ∈ Ts) (Z : ZZ D cI (cw q cI g mm) A s H locs) (hdg : decode cc pc = .ok (.getfield 79, 3)) (kk : W p l e R s m args below meth c H locs cells slots Q (F0 m (pc + 3) ls (.int (g 13) :: rest))) : W p l e R s m args below meth c H locs cells slots Q (F0 m pc ls (.ref (q 2) :: rest)) := z_getN X hTs Z iX0 2 rfl rfl 3 (by decide) kw_52 rfl rfl hdg kk
theorem P_X2_r_buffer {v : Int32} (X : CallFix p m c cc nL s args Ts RX2) (hTs : ∀ w ∈ TB, w ∈ Ts) (Z : ZZ D cI (cw q cI g mm) A s H locs) (hdg : decode cc pc = .ok (.putfield 79, 3)) (kk : ∀ (H1 : Heap) (locs1 : List Loc), ZZ D cI (cw q cI (upd g 13 v) mm) A s H1 locs1 → W p l e R s m args below meth c H1 locs1 cells slots Q (F0 m (pc + 3) ls rest)) : W p l e R s m args below meth c H locs cells slots Q (F0 m pc ls (.int v :: .ref (q 2) :: rest)) := z_putN X hTs Z iX0 tyX0 tyX0_ok nmX0 2 rfl rfl 3 (by decide) kw_52 rfl rfl (ty := .int) (by decide +kernel) rfl rfl (Nat.le_of_ble_eq_true rfl) rfl hdg kk
theorem G_X2_printerFlag (X : CallFix p m c cc nL s args Ts RX2) (hTs : ∀ w ∈ TB, w ∈ Ts) (Z : ZZ D cI (cw q cI g mm) A s H locs) (hdg : decode cc pc = .ok (.getfield 82, 3)) (kk : W p l e R s m args below meth c H locs cells slots Q (F0 m (pc + 3) ls (.int (g 8) :: rest))) : W p l e R s m args below meth c H locs cells slots Q (F0 m pc ls (.ref (q 0) :: rest)) := z_get X hTs Z iX2 0 rfl rfl 12 (by decide) kw_93 rfl rfl hdg kk
theorem P_X2_printerFlag {v : Int32} (X : CallFix p m c cc nL s args Ts RX2) (hTs : ∀ w ∈ TB, w ∈ Ts) (Z : ZZ D cI (cw q cI g mm) A s H locs) (hv : narrow .boolean (.int v) = .int v ∧ fits .boolean (.int v) = true) (hdg : decode cc pc = .ok (.putfield 82, 3)) (kk : ∀ (H1 : Heap) (locs1 : List Loc), ZZ D cI (cw q cI (upd g 8 v) mm) A s H1 locs1 → W p l e R s m args below meth c H1 locs1 cells slots Q (F0 m (pc + 3) ls rest)) : W p l e R s m args below meth c H locs cells slots Q (F0 m pc ls (.int v :: .ref (q 0) :: rest)) := z_put X hTs Z iX2 tyX2 tyX2_ok nmX2 0 rfl rfl 12 (by decide) kw_93 rfl rfl (ty := .boolean) (by decide +kernel) hv.1 hv.2 (Nat.le_of_ble_eq_true rfl) rfl hdg kk
theorem G_X2_halted (X : CallFix p m c cc nL s args Ts RX2) (hTs : ∀ w ∈ TB, w ∈ Ts) (Z : ZZ D cI (cw q cI g mm) A s H locs) (hdg : decode cc pc = .ok (.getfield 85, 3)) (kk : W p l e R s m args below meth c H locs cells slots Q (F0 m (pc + 3) ls (.int (g 5) :: rest))) : W p l e R s m args below meth c H locs cells slots Q (F0 m pc ls (.ref (q 0) :: rest)) := z_get X hTs Z iX2 0 rfl rfl 9 (by decide) kw_90 rfl rfl hdg kk
theorem P_X2_halted {v : Int32} (X : CallFix p m c cc nL s args Ts RX2) (hTs : ∀ w ∈ TB, w ∈ Ts) (Z : ZZ D cI (cw q cI g mm) A s H locs) (hv : narrow .boolean (.int v) = .int v ∧ fits .boolean (.int v) = true) (hdg : decode cc pc = .ok (.putfield 85, 3)) (kk : ∀ (H1 : Heap) (locs1 : List Loc), ZZ D cI (cw q cI (upd g 5 v) mm) A s H1 locs1 → W p l e R s m args below meth c H1 locs1 cells slots Q (F0 m (pc + 3) ls rest)) : W p l e R s m args below meth c H locs cells slots Q (F0 m pc ls (.int v :: .ref (q 0) :: rest)) := z_put X hTs Z iX2 tyX2 tyX2_ok nmX2 0 rfl rfl 9 (by decide) kw_90 rfl rfl (ty := .boolean) (by decide +kernel) hv.1 hv.2 (Nat.le_of_ble_eq_true rfl) rfl hdg kk
theorem G_X2_p_count (X : CallFix p m c cc nL s args Ts RX2) (hTs : ∀ w ∈ TB, w ∈ Ts) (Z : ZZ D cI (cw q cI g mm) A s H locs) (hdg : decode cc pc = .ok (.getfield 91, 3)) (kk : W p l e R s m args below meth c H locs cells slots Q (F0 m (pc + 3) ls (.int (g 15) :: rest))) : W p l e R s m args below meth c H locs cells slots Q (F0 m pc ls (.ref (q 3) :: rest)) := z_getN X hTs Z iX1 4 rfl rfl 1 (by decide) kw_75 rfl rfl hdg kk
theorem G_X2_interruptCount (X : CallFix p m c cc nL s args Ts RX2) (hTs : ∀ w ∈ TB, w ∈ Ts) (Z : ZZ D cI (cw q cI g mm) A s H locs) (hdg : decode cc pc = .ok (.getfield 97, 3)) (kk : W p l e R s m args below meth c H locs cells slots Q (F0 m (pc + 3) ls (.int (g 9) :: rest))) : W p l e R s m args below meth c H locs cells slots Q (F0 m pc ls (.ref (q 0) :: rest)) := z_get X hTs Z iX2 0 rfl rfl 13 (by decide) kw_94 rfl rfl hdg kk
theorem P_X2_interruptCount {v : Int32} (X : CallFix p m c cc nL s args Ts RX2) (hTs : ∀ w ∈ TB, w ∈ Ts) (Z : ZZ D cI (cw q cI g mm) A s H locs) (hdg : decode cc pc = .ok (.putfield 97, 3)) (kk : ∀ (H1 : Heap) (locs1 : List Loc), ZZ D cI (cw q cI (upd g 9 v) mm) A s H1 locs1 → W p l e R s m args below meth c H1 locs1 cells slots Q (F0 m (pc + 3) ls rest)) : W p l e R s m args below meth c H locs cells slots Q (F0 m pc ls (.int v :: .ref (q 0) :: rest)) := z_put X hTs Z iX2 tyX2 tyX2_ok nmX2 0 rfl rfl 13 (by decide) kw_94 rfl rfl (ty := .int) (by decide +kernel) rfl rfl (Nat.le_of_ble_eq_true rfl) rfl hdg kk
theorem G_X2_skipCount (X : CallFix p m c cc nL s args Ts RX2) (hTs : ∀ w ∈ TB, w ∈ Ts) (Z : ZZ D cI (cw q cI g mm) A s H locs) (hdg : decode cc pc = .ok (.getfield 100, 3)) (kk : W p l e R s m args below meth c H locs cells slots Q (F0 m (pc + 3) ls (.int (g 10) :: rest))) : W p l e R s m args below meth c H locs cells slots Q (F0 m pc ls (.ref (q 0) :: rest)) := z_get X hTs Z iX2 0 rfl rfl 14 (by decide) kw_95 rfl rfl hdg kk
theorem P_X2_skipCount {v : Int32} (X : CallFix p m c cc nL s args Ts RX2) (hTs : ∀ w ∈ TB, w ∈ Ts) (Z : ZZ D cI (cw q cI g mm) A s H locs) (hdg : decode cc pc = .ok (.putfield 100, 3)) (kk : ∀ (H1 : Heap) (locs1 : List Loc), ZZ D cI (cw q cI (upd g 10 v) mm) A s H1 locs1 → W p l e R s m args below meth c H1 locs1 cells slots Q (F0 m (pc + 3) ls rest)) : W p l e R s m args below meth c H locs cells slots Q (F0 m pc ls (.int v :: .ref (q 0) :: rest)) := z_put X hTs Z iX2 tyX2 tyX2_ok nmX2 0 rfl rfl 14 (by decide) kw_95 rfl rfl (ty := .int) (by decide +kernel) rfl rfl (Nat.le_of_ble_eq_true rfl) rfl hdg kk
theorem G_X3_core (X : CallFix p m c cc nL s args Ts RX3) (hTs : ∀ w ∈ TB, w ∈ Ts) (Z : ZZ D cI (mw q cI g mm) A s H locs) (hdg : decode cc pc = .ok (.getfield 7, 3)) (kk : W p l e R s m args below meth c H locs cells slots Q (F0 m (pc + 3) ls (.ref (q 1) :: rest))) : W p l e R s m args below meth c H locs cells slots Q (F0 m pc ls (.ref (q 0) :: rest)) := z_get X hTs Z iX3 0 rfl rfl 0 (by decide) kw_269 rfl rfl hdg kk
theorem G_X3_r (X : CallFix p m c cc nL s args Ts RX3) (hTs : ∀ w ∈ TB, w ∈ Ts) (Z : ZZ D cI (mw q cI g mm) A s H locs) (hdg : decode cc pc = .ok (.getfield 13, 3)) (kk : W p l e R s m args below meth c H locs cells slots Q (F0 m (pc + 3) ls (.ref (q 2) :: rest))) : W p l e R s m args below meth c H locs cells slots Q (F0 m pc ls (.ref (q 0) :: rest)) := z_get X hTs Z iX3 0 rfl rfl 1 (by decide) kw_270 rfl rfl hdg kk
theorem G_X3_tape (X : CallFix p m c cc nL s args Ts RX3) (hTs : ∀ w ∈ TB, w ∈ Ts) (Z : ZZ D cI (mw q cI g mm) A s H locs) (hdg : decode cc pc = .ok (.getfield 16, 3)) (kk : W p l e R s m args below meth c H locs cells slots Q (F0 m (pc + 3) ls (.ref (q 3) :: rest))) : W p l e R s m args below meth c H locs cells slots Q (F0 m pc ls (.ref (q 0) :: rest)) := z_get X hTs Z iX3 0 rfl rfl 2 (by decide) kw_271 rfl rfl hdg kk
theorem G_X3_out (X : CallFix p m c cc nL s args Ts RX3) (hTs : ∀ w ∈ TB, w ∈ Ts) (Z : ZZ D cI (mw q cI g mm) A s H locs) (hdg : decode cc pc = .ok (.getfield 19, 3)) (kk : W p l e R s m args below meth c H locs cells slots Q (F0 m (pc + 3) ls (.ref (q 4) :: rest))) : W p l e R s m args below meth c H locs cells slots Q (F0 m pc ls (.ref (q 0) :: rest)) := z_get X hTs Z iX3 0 rfl rfl 3 (by decide) kw_272 rfl rfl hdg kk
theorem G_X3_places (X : CallFix p m c cc nL s args Ts RX3) (hTs : ∀ w ∈ TB, w ∈ Ts) (Z : ZZ D cI (mw q cI g mm) A s H locs) (hdg : decode cc pc = .ok (.getfield 22, 3)) (kk : W p l e R s m args below meth c H locs cells slots Q (F0 m (pc + 3) ls (.ref (q 5) :: rest))) : W p l e R s m args below meth c H locs cells slots Q (F0 m pc ls (.ref (q 0) :: rest)) := z_get X hTs Z iX3 0 rfl rfl 4 (by decide) kw_273 rfl rfl hdg kk
theorem G_X3_fed (X : CallFix p m c cc nL s args Ts RX3) (hTs : ∀ w ∈ TB, w ∈ Ts) (Z : ZZ D cI (mw q cI g mm) A s H locs) (hdg : decode cc pc = .ok (.getfield 25, 3)) (kk : W p l e R s m args below meth c H locs cells slots Q (F0 m (pc + 3) ls (.int (g 0) :: rest))) : W p l e R s m args below meth c H locs cells slots Q (F0 m pc ls (.ref (q 0) :: rest)) := z_get X hTs Z iX3 0 rfl rfl 5 (by decide) kw_274 rfl rfl hdg kk
theorem P_X3_fed {v : Int32} (X : CallFix p m c cc nL s args Ts RX3) (hTs : ∀ w ∈ TB, w ∈ Ts) (Z : ZZ D cI (mw q cI g mm) A s H locs) (hdg : decode cc pc = .ok (.putfield 25, 3)) (kk : ∀ (H1 : Heap) (locs1 : List Loc), ZZ D cI (mw q cI (upd g 0 v) mm) A s H1 locs1 → W p l e R s m args below meth c H1 locs1 cells slots Q (F0 m (pc + 3) ls rest)) : W p l e R s m args below meth c H locs cells slots Q (F0 m pc ls (.int v :: .ref (q 0) :: rest)) := z_put X hTs Z iX3 tyX3 tyX3_ok nmX3 0 rfl rfl 5 (by decide) kw_274 rfl rfl (ty := .int) (by decide +kernel) rfl rfl (Nat.le_of_ble_eq_true rfl) rfl hdg kk
theorem G_X3_read (X : CallFix p m c cc nL s args Ts RX3) (hTs : ∀ w ∈ TB, w ∈ Ts) (Z : ZZ D cI (mw q cI g mm) A s H locs) (hdg : decode cc pc = .ok (.getfield 29, 3)) (kk : W p l e R s m args below meth c H locs cells slots Q (F0 m (pc + 3) ls (.int (g 1) :: rest))) : W p l e R s m args below meth c H locs cells slots Q (F0 m pc ls (.ref (q 0) :: rest)) := z_get X hTs Z iX3 0 rfl rfl 6 (by decide) kw_275 rfl rfl hdg kk
theorem P_X3_read {v : Int32} (X : CallFix p m c cc nL s args Ts RX3) (hTs : ∀ w ∈ TB, w ∈ Ts) (Z : ZZ D cI (mw q cI g mm) A s H locs) (hdg : decode cc pc = .ok (.putfield 29, 3)) (kk : ∀ (H1 : Heap) (locs1 : List Loc), ZZ D cI (mw q cI (upd g 1 v) mm) A s H1 locs1 → W p l e R s m args below meth c H1 locs1 cells slots Q (F0 m (pc + 3) ls rest)) : W p l e R s m args below meth c H locs cells slots Q (F0 m pc ls (.int v :: .ref (q 0) :: rest)) := z_put X hTs Z iX3 tyX3 tyX3_ok nmX3 0 rfl rfl 6 (by decide) kw_275 rfl rfl (ty := .int) (by decide +kernel) rfl rfl (Nat.le_of_ble_eq_true rfl) rfl hdg kk
theorem G_X3_skips (X : CallFix p m c cc nL s args Ts RX3) (hTs : ∀ w ∈ TB, w ∈ Ts) (Z : ZZ D cI (mw q cI g mm) A s H locs) (hdg : decode cc pc = .ok (.getfield 36, 3)) (kk : W p l e R s m args below meth c H locs cells slots Q (F0 m (pc + 3) ls (.int (g 5) :: rest))) : W p l e R s m args below meth c H locs cells slots Q (F0 m pc ls (.ref (q 0) :: rest)) := z_get X hTs Z iX3 0 rfl rfl 10 (by decide) kw_279 rfl rfl hdg kk
theorem P_X3_skips {v : Int32} (X : CallFix p m c cc nL s args Ts RX3) (hTs : ∀ w ∈ TB, w ∈ Ts) (Z : ZZ D cI (mw q cI g mm) A s H locs) (hdg : decode cc pc = .ok (.putfield 36, 3)) (kk : ∀ (H1 : Heap) (locs1 : List Loc), ZZ D cI (mw q cI (upd g 5 v) mm) A s H1 locs1 → W p l e R s m args below meth c H1 locs1 cells slots Q (F0 m (pc + 3) ls rest)) : W p l e R s m args below meth c H locs cells slots Q (F0 m pc ls (.int v :: .ref (q 0) :: rest)) := z_put X hTs Z iX3 tyX3 tyX3_ok nmX3 0 rfl rfl 10 (by decide) kw_279 rfl rfl (ty := .int) (by decide +kernel) rfl rfl (Nat.le_of_ble_eq_true rfl) rfl hdg kk
theorem G_X3_interrupts (X : CallFix p m c cc nL s args Ts RX3) (hTs : ∀ w ∈ TB, w ∈ Ts) (Z : ZZ D cI (mw q cI g mm) A s H locs) (hdg : decode cc pc = .ok (.getfield 39, 3)) (kk : W p l e R s m args below meth c H locs cells slots Q (F0 m (pc + 3) ls (.int (g 4) :: rest))) : W p l e R s m args below meth c H locs cells slots Q (F0 m pc ls (.ref (q 0) :: rest)) := z_get X hTs Z iX3 0 rfl rfl 9 (by decide) kw_278 rfl rfl hdg kk
theorem P_X3_interrupts {v : Int32} (X : CallFix p m c cc nL s args Ts RX3) (hTs : ∀ w ∈ TB, w ∈ Ts) (Z : ZZ D cI (mw q cI g mm) A s H locs) (hdg : decode cc pc = .ok (.putfield 39, 3)) (kk : ∀ (H1 : Heap) (locs1 : List Loc), ZZ D cI (mw q cI (upd g 4 v) mm) A s H1 locs1 → W p l e R s m args below meth c H1 locs1 cells slots Q (F0 m (pc + 3) ls rest)) : W p l e R s m args below meth c H locs cells slots Q (F0 m pc ls (.int v :: .ref (q 0) :: rest)) := z_put X hTs Z iX3 tyX3 tyX3_ok nmX3 0 rfl rfl 9 (by decide) kw_278 rfl rfl (ty := .int) (by decide +kernel) rfl rfl (Nat.le_of_ble_eq_true rfl) rfl hdg kk
theorem G_X3_steps (X : CallFix p m c cc nL s args Ts RX3) (hTs : ∀ w ∈ TB, w ∈ Ts) (Z : ZZ D cI (mw q cI g mm) A s H locs) (hdg : decode cc pc = .ok (.getfield 42, 3)) (kk : W p l e R s m args below meth c H locs cells slots Q (F0 m (pc + 3) ls (.int (g 3) :: rest))) : W p l e R s m args below meth c H locs cells slots Q (F0 m pc ls (.ref (q 0) :: rest)) := z_get X hTs Z iX3 0 rfl rfl 8 (by decide) kw_277 rfl rfl hdg kk
theorem P_X3_steps {v : Int32} (X : CallFix p m c cc nL s args Ts RX3) (hTs : ∀ w ∈ TB, w ∈ Ts) (Z : ZZ D cI (mw q cI g mm) A s H locs) (hdg : decode cc pc = .ok (.putfield 42, 3)) (kk : ∀ (H1 : Heap) (locs1 : List Loc), ZZ D cI (mw q cI (upd g 3 v) mm) A s H1 locs1 → W p l e R s m args below meth c H1 locs1 cells slots Q (F0 m (pc + 3) ls rest)) : W p l e R s m args below meth c H locs cells slots Q (F0 m pc ls (.int v :: .ref (q 0) :: rest)) := z_put X hTs Z iX3 tyX3 tyX3_ok nmX3 0 rfl rfl 8 (by decide) kw_277 rfl rfl (ty := .int) (by decide +kernel) rfl rfl (Nat.le_of_ble_eq_true rfl) rfl hdg kk
theorem G_X3_printed (X : CallFix p m c cc nL s args Ts RX3) (hTs : ∀ w ∈ TB, w ∈ Ts) (Z : ZZ D cI (mw q cI g mm) A s H locs) (hdg : decode cc pc = .ok (.getfield 79, 3)) (kk : W p l e R s m args below meth c H locs cells slots Q (F0 m (pc + 3) ls (.int (g 2) :: rest))) : W p l e R s m args below meth c H locs cells slots Q (F0 m pc ls (.ref (q 0) :: rest)) := z_get X hTs Z iX3 0 rfl rfl 7 (by decide) kw_276 rfl rfl hdg kk
theorem P_X3_printed {v : Int32} (X : CallFix p m c cc nL s args Ts RX3) (hTs : ∀ w ∈ TB, w ∈ Ts) (Z : ZZ D cI (mw q cI g mm) A s H locs) (hdg : decode cc pc = .ok (.putfield 79, 3)) (kk : ∀ (H1 : Heap) (locs1 : List Loc), ZZ D cI (mw q cI (upd g 2 v) mm) A s H1 locs1 → W p l e R s m args below meth c H1 locs1 cells slots Q (F0 m (pc + 3) ls rest)) : W p l e R s m args below meth c H locs cells slots Q (F0 m pc ls (.int v :: .ref (q 0) :: rest)) := z_put X hTs Z iX3 tyX3 tyX3_ok nmX3 0 rfl rfl 7 (by decide) kw_276 rfl rfl (ty := .int) (by decide +kernel) rfl rfl (Nat.le_of_ble_eq_true rfl) rfl hdg kk
theorem L_X2_core {own : String} {i : Int32} {j : Nat} (X : CallFix p m c cc nL s args Ts own) (Z : ZZ D cI (cw q cI g mm) A s H locs) (hi : vp_in i 4096) (hj : i.toNatClampNeg = j) (hdg : decode cc pc = .ok (.iaload, 1)) (kk : W p l e R s m args below meth c H locs cells slots Q (F0 m (pc + 1) ls (.int (mm 0 j) :: rest))) : W p l e R s m args below meth c H locs cells slots Q (F0 m pc ls (.int i :: .ref (q 1) :: rest)) := z_ld X Z 1 rfl hi hj hdg kk
theorem S_X2_core {own : String} {i x : Int32} {j : Nat} (X : CallFix p m c cc nL s args Ts own) (Z : ZZ D cI (cw q cI g mm) A s H locs) (hi : vp_in i 4096) (hj : i.toNatClampNeg = j) (hdg : decode cc pc = .ok (.iastore, 1)) (kk : ∀ (H1 : Heap) (locs1 : List Loc), ZZ D cI (cw q cI g (va_up mm 0 (upd (mm 0) j x))) A s H1 locs1 → W p l e R s m args below meth c H1 locs1 cells slots Q (F0 m (pc + 1) ls rest)) : W p l e R s m args below meth c H locs cells slots Q (F0 m pc ls (.int x :: .int i :: .ref (q 1) :: rest)) := z_st X Z 1 rfl hi hj rfl hdg kk
theorem L_X3_core {own : String} {i : Int32} {j : Nat} (X : CallFix p m c cc nL s args Ts own) (Z : ZZ D cI (mw q cI g mm) A s H locs) (hi : vp_in i 4096) (hj : i.toNatClampNeg = j) (hdg : decode cc pc = .ok (.iaload, 1)) (kk : W p l e R s m args below meth c H locs cells slots Q (F0 m (pc + 1) ls (.int (mm 0 j) :: rest))) : W p l e R s m args below meth c H locs cells slots Q (F0 m pc ls (.int i :: .ref (q 1) :: rest)) := z_ld X Z 1 rfl hi hj hdg kk
theorem S_X3_core {own : String} {i x : Int32} {j : Nat} (X : CallFix p m c cc nL s args Ts own) (Z : ZZ D cI (mw q cI g mm) A s H locs) (hi : vp_in i 4096) (hj : i.toNatClampNeg = j) (hdg : decode cc pc = .ok (.iastore, 1)) (kk : ∀ (H1 : Heap) (locs1 : List Loc), ZZ D cI (mw q cI g (va_up mm 0 (upd (mm 0) j x))) A s H1 locs1 → W p l e R s m args below meth c H1 locs1 cells slots Q (F0 m (pc + 1) ls rest)) : W p l e R s m args below meth c H locs cells slots Q (F0 m pc ls (.int x :: .int i :: .ref (q 1) :: rest)) := z_st X Z 1 rfl hi hj rfl hdg kk
theorem L_X3_r {own : String} {i : Int32} {j : Nat} (X : CallFix p m c cc nL s args Ts own) (Z : ZZ D cI (mw q cI g mm) A s H locs) (hi : vp_in i 11) (hj : i.toNatClampNeg = j) (hdg : decode cc pc = .ok (.iaload, 1)) (kk : W p l e R s m args below meth c H locs cells slots Q (F0 m (pc + 1) ls (.int (mm 1 j) :: rest))) : W p l e R s m args below meth c H locs cells slots Q (F0 m pc ls (.int i :: .ref (q 2) :: rest)) := z_ld X Z 2 rfl hi hj hdg kk
theorem S_X3_r {own : String} {i x : Int32} {j : Nat} (X : CallFix p m c cc nL s args Ts own) (Z : ZZ D cI (mw q cI g mm) A s H locs) (hi : vp_in i 11) (hj : i.toNatClampNeg = j) (hdg : decode cc pc = .ok (.iastore, 1)) (kk : ∀ (H1 : Heap) (locs1 : List Loc), ZZ D cI (mw q cI g (va_up mm 1 (upd (mm 1) j x))) A s H1 locs1 → W p l e R s m args below meth c H1 locs1 cells slots Q (F0 m (pc + 1) ls rest)) : W p l e R s m args below meth c H locs cells slots Q (F0 m pc ls (.int x :: .int i :: .ref (q 2) :: rest)) := z_st X Z 2 rfl hi hj rfl hdg kk
theorem L_X3_tape {own : String} {i : Int32} {j : Nat} (X : CallFix p m c cc nL s args Ts own) (Z : ZZ D cI (mw q cI g mm) A s H locs) (hi : vp_in i 400) (hj : i.toNatClampNeg = j) (hdg : decode cc pc = .ok (.iaload, 1)) (kk : W p l e R s m args below meth c H locs cells slots Q (F0 m (pc + 1) ls (.int (mm 2 j) :: rest))) : W p l e R s m args below meth c H locs cells slots Q (F0 m pc ls (.int i :: .ref (q 3) :: rest)) := z_ld X Z 3 rfl hi hj hdg kk
theorem S_X3_tape {own : String} {i x : Int32} {j : Nat} (X : CallFix p m c cc nL s args Ts own) (Z : ZZ D cI (mw q cI g mm) A s H locs) (hi : vp_in i 400) (hj : i.toNatClampNeg = j) (hdg : decode cc pc = .ok (.iastore, 1)) (kk : ∀ (H1 : Heap) (locs1 : List Loc), ZZ D cI (mw q cI g (va_up mm 2 (upd (mm 2) j x))) A s H1 locs1 → W p l e R s m args below meth c H1 locs1 cells slots Q (F0 m (pc + 1) ls rest)) : W p l e R s m args below meth c H locs cells slots Q (F0 m pc ls (.int x :: .int i :: .ref (q 3) :: rest)) := z_st X Z 3 rfl hi hj rfl hdg kk
theorem L_X3_out {own : String} {i : Int32} {j : Nat} (X : CallFix p m c cc nL s args Ts own) (Z : ZZ D cI (mw q cI g mm) A s H locs) (hi : vp_in i 64) (hj : i.toNatClampNeg = j) (hdg : decode cc pc = .ok (.iaload, 1)) (kk : W p l e R s m args below meth c H locs cells slots Q (F0 m (pc + 1) ls (.int (mm 3 j) :: rest))) : W p l e R s m args below meth c H locs cells slots Q (F0 m pc ls (.int i :: .ref (q 4) :: rest)) := z_ld X Z 4 rfl hi hj hdg kk
theorem S_X3_out {own : String} {i x : Int32} {j : Nat} (X : CallFix p m c cc nL s args Ts own) (Z : ZZ D cI (mw q cI g mm) A s H locs) (hi : vp_in i 64) (hj : i.toNatClampNeg = j) (hdg : decode cc pc = .ok (.iastore, 1)) (kk : ∀ (H1 : Heap) (locs1 : List Loc), ZZ D cI (mw q cI g (va_up mm 3 (upd (mm 3) j x))) A s H1 locs1 → W p l e R s m args below meth c H1 locs1 cells slots Q (F0 m (pc + 1) ls rest)) : W p l e R s m args below meth c H locs cells slots Q (F0 m pc ls (.int x :: .int i :: .ref (q 4) :: rest)) := z_st X Z 4 rfl hi hj rfl hdg kk
theorem L_X3_places {own : String} {i : Int32} {j : Nat} (X : CallFix p m c cc nL s args Ts own) (Z : ZZ D cI (mw q cI g mm) A s H locs) (hi : vp_in i 64) (hj : i.toNatClampNeg = j) (hdg : decode cc pc = .ok (.iaload, 1)) (kk : W p l e R s m args below meth c H locs cells slots Q (F0 m (pc + 1) ls (.int (mm 4 j) :: rest))) : W p l e R s m args below meth c H locs cells slots Q (F0 m pc ls (.int i :: .ref (q 5) :: rest)) := z_ld X Z 5 rfl hi hj hdg kk
theorem S_X3_places {own : String} {i x : Int32} {j : Nat} (X : CallFix p m c cc nL s args Ts own) (Z : ZZ D cI (mw q cI g mm) A s H locs) (hi : vp_in i 64) (hj : i.toNatClampNeg = j) (hdg : decode cc pc = .ok (.iastore, 1)) (kk : ∀ (H1 : Heap) (locs1 : List Loc), ZZ D cI (mw q cI g (va_up mm 4 (upd (mm 4) j x))) A s H1 locs1 → W p l e R s m args below meth c H1 locs1 cells slots Q (F0 m (pc + 1) ls rest)) : W p l e R s m args below meth c H locs cells slots Q (F0 m pc ls (.int x :: .int i :: .ref (q 5) :: rest)) := z_st X Z 5 rfl hi hj rfl hdg kk
theorem L_X0_tape {own : String} {i : Int32} {j : Nat} (X : CallFix p m c cc nL s args Ts own) (Z : ZZ D cI (rdw a b cI fd tk bf fl tp) A s H locs) (hi : vp_in i 400) (hj : i.toNatClampNeg = j) (hdg : decode cc pc = .ok (.iaload, 1)) (kk : W p l e R s m args below meth c H locs cells slots Q (F0 m (pc + 1) ls (.int (tp j) :: rest))) : W p l e R s m args below meth c H locs cells slots Q (F0 m pc ls (.int i :: .ref b :: rest)) := z_ld X Z 1 rfl hi hj hdg kk
theorem S_X0_tape {own : String} {i x : Int32} {j : Nat} (X : CallFix p m c cc nL s args Ts own) (Z : ZZ D cI (rdw a b cI fd tk bf fl tp) A s H locs) (hi : vp_in i 400) (hj : i.toNatClampNeg = j) (hdg : decode cc pc = .ok (.iastore, 1)) (kk : ∀ (H1 : Heap) (locs1 : List Loc), ZZ D cI (rdw a b cI fd tk bf fl (upd tp j x)) A s H1 locs1 → W p l e R s m args below meth c H1 locs1 cells slots Q (F0 m (pc + 1) ls rest)) : W p l e R s m args below meth c H locs cells slots Q (F0 m pc ls (.int x :: .int i :: .ref b :: rest)) := z_st X Z 1 rfl hi hj rfl hdg kk
theorem L_X1_row {own : String} {i : Int32} {j : Nat} (X : CallFix p m c cc nL s args Ts own) (Z : ZZ D cI (rcw a b cI ct rw) A s H locs) (hi : vp_in i 64) (hj : i.toNatClampNeg = j) (hdg : decode cc pc = .ok (.iaload, 1)) (kk : W p l e R s m args below meth c H locs cells slots Q (F0 m (pc + 1) ls (.int (rw j) :: rest))) : W p l e R s m args below meth c H locs cells slots Q (F0 m pc ls (.int i :: .ref b :: rest)) := z_ld X Z 1 rfl hi hj hdg kk
theorem S_X1_row {own : String} {i x : Int32} {j : Nat} (X : CallFix p m c cc nL s args Ts own) (Z : ZZ D cI (rcw a b cI ct rw) A s H locs) (hi : vp_in i 64) (hj : i.toNatClampNeg = j) (hdg : decode cc pc = .ok (.iastore, 1)) (kk : ∀ (H1 : Heap) (locs1 : List Loc), ZZ D cI (rcw a b cI ct (upd rw j x)) A s H1 locs1 → W p l e R s m args below meth c H1 locs1 cells slots Q (F0 m (pc + 1) ls rest)) : W p l e R s m args below meth c H locs cells slots Q (F0 m pc ls (.int x :: .int i :: .ref b :: rest)) := z_st X Z 1 rfl hi hj rfl hdg kk
end ROWS
theorem vin4095 (x : Int32) : vp_in (x &&& 4095) 4096 := pk_andIn x (m := 4095) 12 (by decide) (by decide)
theorem vin63 (x : Int32) : vp_in (x &&& 63) 64 := pk_andIn x (m := 63) 6 (by decide) (by decide)
theorem vin_of {a M : Int32} {n : Nat} (h1 : ¬ a < 0) (h2 : a ≤ M) (hM : M.toInt < n) : vp_in a n := by
  rw [vp_in_iff]
  rw [Int32.lt_iff_toInt_lt, Int32.toInt_zero] at h1
  rw [Int32.le_iff_toInt_le] at h2
  omega
theorem vin_lt {a M : Int32} {n : Nat} (h1 : ¬ a < 0) (h2 : a < M) (hM : M.toInt ≤ n) : vp_in a n := by
  rw [vp_in_iff]
  rw [Int32.lt_iff_toInt_lt, Int32.toInt_zero] at h1
  rw [Int32.lt_iff_toInt_lt] at h2
  omega
theorem vin_c {a : Int32} {n : Nat} (h : (0 ≤ a.toInt ∧ a.toInt < n)) : vp_in a n := vp_in_iff.mpr h
theorem nb_if {P : Prop} [Decidable P] : narrow .boolean (.int (if P then (1 : Int32) else 0)) = .int (if P then (1 : Int32) else 0) := by split <;> rfl
theorem nb_if2 {P : Prop} [Decidable P] : narrow .boolean (.int (if P then (0 : Int32) else 1)) = .int (if P then (0 : Int32) else 1) := by split <;> rfl
theorem sw_def {x : Int32} {lo hi : Int} (h : ¬ (x.toInt < lo ∨ hi < x.toInt)) : ∃ j : Nat, j ≤ (hi - lo).toNat ∧ x.toInt = lo + j := ⟨(x.toInt - lo).toNat, by omega, by omega⟩
end
section
def uX2_isAddress_j16_s0 (a1 : Int32) : Int32 := if a1 < (0 : Int32) then (0) else (if (4096 : Int32) ≤ a1 then (0) else (1))
def rX2_isAddress  (a1 : Int32) : Int32 := let j16_s0 : Int32 := uX2_isAddress_j16_s0 a1; j16_s0
set_option maxRecDepth 20000 in
set_option maxHeartbeats 4000000 in
theorem c_X2_isAddress (l : Launch) (D : va_G) (cI : ClassId) (ws : va_W) (a1 : Int32)  : MI l D cI yX2_isAddress (.code yX2_isAddress cX2_isAddress 1 (some .boolean)) ({ frames := 0, cells := 0, slots := 0, locals := 0 } : Room) [.int a1] (ws) (ws) (some (.int (rX2_isAddress a1))) := by
  refine MI.ofZ (own := RX2) (by decide) rfl (Nat.le_of_ble_eq_true rfl) ?_
  intro p e s m args below meth c A ls Q X Z hl hret
  have hT : ∀ w ∈ TB, w ∈ (Cond.code yX2_isAddress cX2_isAddress 1 (some .boolean) :: TB) := fun _ h => List.mem_cons_of_mem _ h
  have hl : lv_has ls 1 [(0, .int a1)] := hl
  refine lv_iload_n X.1 X.2.1 dX2_isAddress_0 rfl (lv_at hl 0 rfl) ?_
  suffices K_16 : ∀ (j16_s0 : Int32) (ls : Array Slot) (H : Heap) (locs : List Loc), j16_s0 = uX2_isAddress_j16_s0 a1 → lv_has ls 1 [(0, .int a1)] → ZZ D cI (ws) A s H locs → W p l e ({ frames := 0, cells := 0, slots := 0, locals := 0 } : Room) s m args below meth c H locs 0 0 Q (F0 m 16 ls [.int j16_s0]) by
    refine lv_if_lt (tgt := 15) X.1 X.2.1 dX2_isAddress_1 (by decide) (fun c_1 => ?_) (fun c_1 => ?_)
    · refine lv_iconst (v := 0) X.1 X.2.1 dX2_isAddress_15 (by decide) ?_
      exact K_16 0 _ _ _ (if_pos c_1).symm (lv_sub hl [0] rfl) Z
    · refine lv_iload_n X.1 X.2.1 dX2_isAddress_4 rfl (lv_at hl 0 rfl) ?_
      refine lv_sipush (v := 4096) X.1 X.2.1 dX2_isAddress_5 (by decide) ?_
      refine lv_icmp_ge (tgt := 15) X.1 X.2.1 dX2_isAddress_8 (by decide) (fun c_8 => ?_) (fun c_8 => ?_)
      · refine lv_iconst (v := 0) X.1 X.2.1 dX2_isAddress_15 (by decide) ?_
        exact K_16 0 _ _ _ ((if_neg c_1).trans (if_pos c_8)).symm (lv_sub hl [0] rfl) Z
      · refine lv_iconst (v := 1) X.1 X.2.1 dX2_isAddress_11 (by decide) ?_
        refine lv_goto (tgt := 16) X.1 X.2.1 dX2_isAddress_12 (by decide) ?_
        exact K_16 1 _ _ _ ((if_neg c_1).trans (if_neg c_8)).symm (lv_sub hl [0] rfl) Z
  intro j16_s0 ls H locs e_j16_s0 hl Z
  exact hret _ _ _ _ _ _ Z rfl (by subst e_j16_s0; exact rfl) (by subst_vars; first | exact nb_if | exact nb_if2 | (unfold uX2_isAddress_j16_s0; (repeat' split) <;> rfl)) dX2_isAddress_16
def uX2_bit_j9_s0 (a1 : Int32) : Int32 := if a1 = 0 then (0) else (1)
def rX2_bit  (a1 : Int32) : Int32 := let j9_s0 : Int32 := uX2_bit_j9_s0 a1; j9_s0
set_option maxRecDepth 20000 in
set_option maxHeartbeats 4000000 in
theorem c_X2_bit (l : Launch) (D : va_G) (cI : ClassId) (ws : va_W) (a1 : Int32)  : MI l D cI yX2_bit (.code yX2_bit cX2_bit 1 (some .int)) ({ frames := 0, cells := 0, slots := 0, locals := 0 } : Room) [.int a1] (ws) (ws) (some (.int (rX2_bit a1))) := by
  refine MI.ofI (own := RX2) (by decide) rfl (Nat.le_of_ble_eq_true rfl) ?_
  intro p e s m args below meth c A ls Q X Z hl hret
  have hT : ∀ w ∈ TB, w ∈ (Cond.code yX2_bit cX2_bit 1 (some .int) :: TB) := fun _ h => List.mem_cons_of_mem _ h
  have hl : lv_has ls 1 [(0, .int a1)] := hl
  refine lv_iload_n X.1 X.2.1 dX2_bit_0 rfl (lv_at hl 0 rfl) ?_
  suffices K_9 : ∀ (j9_s0 : Int32) (ls : Array Slot) (H : Heap) (locs : List Loc), j9_s0 = uX2_bit_j9_s0 a1 → lv_has ls 1 [(0, .int a1)] → ZZ D cI (ws) A s H locs → W p l e ({ frames := 0, cells := 0, slots := 0, locals := 0 } : Room) s m args below meth c H locs 0 0 Q (F0 m 9 ls [.int j9_s0]) by
    refine lv_if_eq (tgt := 8) X.1 X.2.1 dX2_bit_1 (by decide) (fun c_1 => ?_) (fun c_1 => ?_)
    · refine lv_iconst (v := 0) X.1 X.2.1 dX2_bit_8 (by decide) ?_
      exact K_9 0 _ _ _ (if_pos c_1).symm (lv_sub hl [0] rfl) Z
    · refine lv_iconst (v := 1) X.1 X.2.1 dX2_bit_4 (by decide) ?_
      refine lv_goto (tgt := 9) X.1 X.2.1 dX2_bit_5 (by decide) ?_
      exact K_9 1 _ _ _ (if_neg c_1).symm (lv_sub hl [0] rfl) Z
  intro j9_s0 ls H locs e_j9_s0 hl Z
  exact hret _ _ _ _ _ _ Z rfl (by subst e_j9_s0; exact rfl) dX2_bit_9
def uX2_has_j11_s0 (a1 : Int32) (a2 : Int32) : Int32 := if (a1 &&& a2) = 0 then (0) else (1)
def rX2_has  (a1 : Int32) (a2 : Int32) : Int32 := let j11_s0 : Int32 := uX2_has_j11_s0 a1 a2; j11_s0
set_option maxRecDepth 20000 in
set_option maxHeartbeats 4000000 in
theorem c_X2_has (l : Launch) (D : va_G) (cI : ClassId) (ws : va_W) (a1 : Int32) (a2 : Int32)  : MI l D cI yX2_has (.code yX2_has cX2_has 2 (some .boolean)) ({ frames := 0, cells := 0, slots := 0, locals := 0 } : Room) [.int a1, .int a2] (ws) (ws) (some (.int (rX2_has a1 a2))) := by
  refine MI.ofZ (own := RX2) (by decide) rfl (Nat.le_of_ble_eq_true rfl) ?_
  intro p e s m args below meth c A ls Q X Z hl hret
  have hT : ∀ w ∈ TB, w ∈ (Cond.code yX2_has cX2_has 2 (some .boolean) :: TB) := fun _ h => List.mem_cons_of_mem _ h
  have hl : lv_has ls 2 [(0, .int a1), (1, .int a2)] := hl
  refine lv_iload_n X.1 X.2.1 dX2_has_0 rfl (lv_at hl 0 rfl) ?_
  refine lv_iload_n X.1 X.2.1 dX2_has_1 rfl (lv_at hl 1 rfl) ?_
  refine lv_iand X.1 X.2.1 dX2_has_2 ?_
  suffices K_11 : ∀ (j11_s0 : Int32) (ls : Array Slot) (H : Heap) (locs : List Loc), j11_s0 = uX2_has_j11_s0 a1 a2 → lv_has ls 2 [(0, .int a1), (1, .int a2)] → ZZ D cI (ws) A s H locs → W p l e ({ frames := 0, cells := 0, slots := 0, locals := 0 } : Room) s m args below meth c H locs 0 0 Q (F0 m 11 ls [.int j11_s0]) by
    refine lv_if_eq (tgt := 10) X.1 X.2.1 dX2_has_3 (by decide) (fun c_3 => ?_) (fun c_3 => ?_)
    · refine lv_iconst (v := 0) X.1 X.2.1 dX2_has_10 (by decide) ?_
      exact K_11 0 _ _ _ (if_pos c_3).symm (lv_sub hl [0, 1] rfl) Z
    · refine lv_iconst (v := 1) X.1 X.2.1 dX2_has_6 (by decide) ?_
      refine lv_goto (tgt := 11) X.1 X.2.1 dX2_has_7 (by decide) ?_
      exact K_11 1 _ _ _ (if_neg c_3).symm (lv_sub hl [0, 1] rfl) Z
  intro j11_s0 ls H locs e_j11_s0 hl Z
  exact hret _ _ _ _ _ _ Z rfl (by subst e_j11_s0; exact rfl) (by subst_vars; first | exact nb_if | exact nb_if2 | (unfold uX2_has_j11_s0; (repeat' split) <;> rfl)) dX2_has_11
def rX2_next  (a1 : Int32) : Int32 := ((a1 + 1) &&& 4095)
set_option maxRecDepth 20000 in
set_option maxHeartbeats 4000000 in
theorem c_X2_next (l : Launch) (D : va_G) (cI : ClassId) (ws : va_W) (a1 : Int32)  : MI l D cI yX2_next (.code yX2_next cX2_next 1 (some .int)) ({ frames := 0, cells := 0, slots := 0, locals := 0 } : Room) [.int a1] (ws) (ws) (some (.int (rX2_next a1))) := by
  refine MI.ofI (own := RX2) (by decide) rfl (Nat.le_of_ble_eq_true rfl) ?_
  intro p e s m args below meth c A ls Q X Z hl hret
  have hT : ∀ w ∈ TB, w ∈ (Cond.code yX2_next cX2_next 1 (some .int) :: TB) := fun _ h => List.mem_cons_of_mem _ h
  have hl : lv_has ls 1 [(0, .int a1)] := hl
  refine lv_iload_n X.1 X.2.1 dX2_next_0 rfl (lv_at hl 0 rfl) ?_
  refine lv_iconst (v := 1) X.1 X.2.1 dX2_next_1 (by decide) ?_
  refine lv_iadd X.1 X.2.1 dX2_next_2 ?_
  refine lv_sipush (v := 4095) X.1 X.2.1 dX2_next_3 (by decide) ?_
  refine lv_iand X.1 X.2.1 dX2_next_6 ?_
  exact hret _ _ _ _ _ _ Z rfl rfl dX2_next_7
def uX3_has_j14_s0 (a1 : Int32) (a2 : Int32) : Int32 := if ((a1 / a2) - (a1 / a2) / 2 * 2) = 1 then (1) else (0)
def rX3_has  (a1 : Int32) (a2 : Int32) : Int32 := let j14_s0 : Int32 := uX3_has_j14_s0 a1 a2; j14_s0
set_option maxRecDepth 20000 in
set_option maxHeartbeats 4000000 in
theorem c_X3_has (l : Launch) (D : va_G) (cI : ClassId) (ws : va_W) (a1 : Int32) (a2 : Int32) (h2 : ¬ a2 = 0) : MI l D cI yX3_has (.code yX3_has cX3_has 2 (some .boolean)) ({ frames := 0, cells := 0, slots := 0, locals := 0 } : Room) [.int a1, .int a2] (ws) (ws) (some (.int (rX3_has a1 a2))) := by
  refine MI.ofZ (own := RX3) (by decide) rfl (Nat.le_of_ble_eq_true rfl) ?_
  intro p e s m args below meth c A ls Q X Z hl hret
  have hT : ∀ w ∈ TB, w ∈ (Cond.code yX3_has cX3_has 2 (some .boolean) :: TB) := fun _ h => List.mem_cons_of_mem _ h
  have hl : lv_has ls 2 [(0, .int a1), (1, .int a2)] := hl
  refine lv_iload_n X.1 X.2.1 dX3_has_0 rfl (lv_at hl 0 rfl) ?_
  refine lv_iload_n X.1 X.2.1 dX3_has_1 rfl (lv_at hl 1 rfl) ?_
  refine lv_idiv X.1 X.2.1 dX3_has_2 h2 ?_
  refine lv_iconst (v := 2) X.1 X.2.1 dX3_has_3 (by decide) ?_
  refine lv_irem X.1 X.2.1 dX3_has_4 (by decide) ?_
  refine lv_iconst (v := 1) X.1 X.2.1 dX3_has_5 (by decide) ?_
  suffices K_14 : ∀ (j14_s0 : Int32) (ls : Array Slot) (H : Heap) (locs : List Loc), j14_s0 = uX3_has_j14_s0 a1 a2 → lv_has ls 2 [(0, .int a1), (1, .int a2)] → ZZ D cI (ws) A s H locs → W p l e ({ frames := 0, cells := 0, slots := 0, locals := 0 } : Room) s m args below meth c H locs 0 0 Q (F0 m 14 ls [.int j14_s0]) by
    refine lv_icmp_ne (tgt := 13) X.1 X.2.1 dX3_has_6 (by decide) (fun c_6 => ?_) (fun c_6 => ?_)
    · refine lv_iconst (v := 0) X.1 X.2.1 dX3_has_13 (by decide) ?_
      exact K_14 0 _ _ _ (if_neg c_6).symm (lv_sub hl [0, 1] rfl) Z
    · refine lv_iconst (v := 1) X.1 X.2.1 dX3_has_9 (by decide) ?_
      refine lv_goto (tgt := 14) X.1 X.2.1 dX3_has_10 (by decide) ?_
      exact K_14 1 _ _ _ (if_pos c_6).symm (lv_sub hl [0, 1] rfl) Z
  intro j14_s0 ls H locs e_j14_s0 hl Z
  exact hret _ _ _ _ _ _ Z rfl (by subst e_j14_s0; exact rfl) (by subst_vars; first | exact nb_if | exact nb_if2 | (unfold uX3_has_j14_s0; (repeat' split) <;> rfl)) dX3_has_14
def uX3_after_j14_s0 (a1 : Int32) : Int32 := if a1 = 4095 then (0) else ((a1 + 1))
def rX3_after  (a1 : Int32) : Int32 := let j14_s0 : Int32 := uX3_after_j14_s0 a1; j14_s0
set_option maxRecDepth 20000 in
set_option maxHeartbeats 4000000 in
theorem c_X3_after (l : Launch) (D : va_G) (cI : ClassId) (ws : va_W) (a1 : Int32)  : MI l D cI yX3_after (.code yX3_after cX3_after 1 (some .int)) ({ frames := 0, cells := 0, slots := 0, locals := 0 } : Room) [.int a1] (ws) (ws) (some (.int (rX3_after a1))) := by
  refine MI.ofI (own := RX3) (by decide) rfl (Nat.le_of_ble_eq_true rfl) ?_
  intro p e s m args below meth c A ls Q X Z hl hret
  have hT : ∀ w ∈ TB, w ∈ (Cond.code yX3_after cX3_after 1 (some .int) :: TB) := fun _ h => List.mem_cons_of_mem _ h
  have hl : lv_has ls 1 [(0, .int a1)] := hl
  refine lv_iload_n X.1 X.2.1 dX3_after_0 rfl (lv_at hl 0 rfl) ?_
  refine lv_sipush (v := 4095) X.1 X.2.1 dX3_after_1 (by decide) ?_
  suffices K_14 : ∀ (j14_s0 : Int32) (ls : Array Slot) (H : Heap) (locs : List Loc), j14_s0 = uX3_after_j14_s0 a1 → lv_has ls 1 [(0, .int a1)] → ZZ D cI (ws) A s H locs → W p l e ({ frames := 0, cells := 0, slots := 0, locals := 0 } : Room) s m args below meth c H locs 0 0 Q (F0 m 14 ls [.int j14_s0]) by
    refine lv_icmp_ne (tgt := 11) X.1 X.2.1 dX3_after_4 (by decide) (fun c_4 => ?_) (fun c_4 => ?_)
    · refine lv_iload_n X.1 X.2.1 dX3_after_11 rfl (lv_at hl 0 rfl) ?_
      refine lv_iconst (v := 1) X.1 X.2.1 dX3_after_12 (by decide) ?_
      refine lv_iadd X.1 X.2.1 dX3_after_13 ?_
      exact K_14 (a1 + 1) _ _ _ (if_neg c_4).symm (lv_sub hl [0] rfl) Z
    · refine lv_iconst (v := 0) X.1 X.2.1 dX3_after_7 (by decide) ?_
      refine lv_goto (tgt := 14) X.1 X.2.1 dX3_after_8 (by decide) ?_
      exact K_14 0 _ _ _ (if_pos c_4).symm (lv_sub hl [0] rfl) Z
  intro j14_s0 ls H locs e_j14_s0 hl Z
  exact hret _ _ _ _ _ _ Z rfl (by subst e_j14_s0; exact rfl) dX3_after_14
end
section
def fdX0_append (fd : Int32) (tk : Int32) (bf : Int32) (fl : Int32) (tp : Nat → Int32) (a1 : Int32) : Int32 := if a1 < (0 : Int32) then (fd) else (if (255 : Int32) < a1 then (fd) else (if fd < (400 : Int32) then ((fd + 1)) else (fd)))
def tpX0_append (fd : Int32) (tk : Int32) (bf : Int32) (fl : Int32) (tp : Nat → Int32) (a1 : Int32) : Nat → Int32 := if a1 < (0 : Int32) then (tp) else (if (255 : Int32) < a1 then (tp) else (if fd < (400 : Int32) then ((upd tp fd.toNatClampNeg a1)) else (tp)))
def rX0_append (fd : Int32) (tk : Int32) (bf : Int32) (fl : Int32) (tp : Nat → Int32) (a1 : Int32) : Int32 := if a1 < (0 : Int32) then (0) else (if (255 : Int32) < a1 then (0) else (if fd < (400 : Int32) then (1) else (0)))
set_option maxRecDepth 20000 in
set_option maxHeartbeats 4000000 in
theorem c_X0_append (l : Launch) (D : va_G) (cI : ClassId) (a b : Nat) (fd tk bf fl : Int32) (tp : Nat → Int32) (a1 : Int32) (hf : ¬ fd < 0) : MI l D cI yX0_append (.code yX0_append cX0_append 2 (some .boolean)) ({ frames := 0, cells := 0, slots := 0, locals := 0 } : Room) [.ref a, .int a1] (rdw a b cI fd tk bf fl tp) (rdw a b cI (fdX0_append fd tk bf fl tp a1) tk bf fl (tpX0_append fd tk bf fl tp a1)) (some (.int (rX0_append fd tk bf fl tp a1))) := by
  refine MI.ofZ (own := RX0) (by decide) rfl (Nat.le_of_ble_eq_true rfl) ?_
  intro p e s m args below meth c A ls Q X Z hl hret
  have hT : ∀ w ∈ TB, w ∈ (Cond.code yX0_append cX0_append 2 (some .boolean) :: TB) := fun _ h => List.mem_cons_of_mem _ h
  have hl : lv_has ls 2 [(0, .ref a), (1, .int a1)] := hl
  refine lv_iload_n X.1 X.2.1 dX0_append_0 rfl (lv_at hl 1 rfl) ?_
  refine lv_if_lt (tgt := 21) X.1 X.2.1 dX0_append_1 (by decide) (fun c_1 => ?_) (fun c_1 => ?_)
  · refine lv_iconst (v := 0) X.1 X.2.1 dX0_append_21 (by decide) ?_
    exact hret _ _ _ _ _ _ Z (rdw_eq (if_pos c_1).symm rfl rfl rfl (if_pos c_1).symm) (if_pos c_1).symm rfl dX0_append_22
  · refine lv_iload_n X.1 X.2.1 dX0_append_4 rfl (lv_at hl 1 rfl) ?_
    refine lv_sipush (v := 255) X.1 X.2.1 dX0_append_5 (by decide) ?_
    refine lv_icmp_gt (tgt := 21) X.1 X.2.1 dX0_append_8 (by decide) (fun c_8 => ?_) (fun c_8 => ?_)
    · refine lv_iconst (v := 0) X.1 X.2.1 dX0_append_21 (by decide) ?_
      exact hret _ _ _ _ _ _ Z (rdw_eq ((if_neg c_1).trans (if_pos c_8)).symm rfl rfl rfl ((if_neg c_1).trans (if_pos c_8)).symm) ((if_neg c_1).trans (if_pos c_8)).symm rfl dX0_append_22
    · refine lv_aload_n X.1 X.2.1 dX0_append_11 rfl (lv_at hl 0 rfl) ?_
      refine G_X0_fed X hT Z dX0_append_12 ?_
      refine lv_sipush (v := 400) X.1 X.2.1 dX0_append_15 (by decide) ?_
      refine lv_icmp_lt (tgt := 23) X.1 X.2.1 dX0_append_18 (by decide) (fun c_18 => ?_) (fun c_18 => ?_)
      · refine lv_aload_n X.1 X.2.1 dX0_append_23 rfl (lv_at hl 0 rfl) ?_
        refine G_X0_tape X hT Z dX0_append_24 ?_
        refine lv_aload_n X.1 X.2.1 dX0_append_27 rfl (lv_at hl 0 rfl) ?_
        refine G_X0_fed X hT Z dX0_append_28 ?_
        refine lv_iload_n X.1 X.2.1 dX0_append_31 rfl (lv_at hl 1 rfl) ?_
        refine S_X0_tape (j := fd.toNatClampNeg) X Z (vin_lt hf c_18 (by decide)) rfl dX0_append_32 (fun H locs Z => ?_)
        refine lv_aload_n X.1 X.2.1 dX0_append_33 rfl (lv_at hl 0 rfl) ?_
        refine lv_dup X.1 X.2.1 dX0_append_34 rfl ?_
        refine G_X0_fed X hT Z dX0_append_35 ?_
        refine lv_iconst (v := 1) X.1 X.2.1 dX0_append_38 (by decide) ?_
        refine lv_iadd X.1 X.2.1 dX0_append_39 ?_
        refine P_X0_fed X hT Z dX0_append_40 (fun H locs Z => ?_)
        refine lv_iconst (v := 1) X.1 X.2.1 dX0_append_43 (by decide) ?_
        exact hret _ _ _ _ _ _ Z (rdw_eq ((if_neg c_1).trans ((if_neg c_8).trans (if_pos c_18))).symm rfl rfl rfl ((if_neg c_1).trans ((if_neg c_8).trans (if_pos c_18))).symm) ((if_neg c_1).trans ((if_neg c_8).trans (if_pos c_18))).symm rfl dX0_append_44
      · refine lv_iconst (v := 0) X.1 X.2.1 dX0_append_21 (by decide) ?_
        exact hret _ _ _ _ _ _ Z (rdw_eq ((if_neg c_1).trans ((if_neg c_8).trans (if_neg c_18))).symm rfl rfl rfl ((if_neg c_1).trans ((if_neg c_8).trans (if_neg c_18))).symm) ((if_neg c_1).trans ((if_neg c_8).trans (if_neg c_18))).symm rfl dX0_append_22
def rX0_unread (fd : Int32) (tk : Int32) (bf : Int32) (fl : Int32) (tp : Nat → Int32)  : Int32 := (fd - tk)
set_option maxRecDepth 20000 in
set_option maxHeartbeats 4000000 in
theorem c_X0_unread (l : Launch) (D : va_G) (cI : ClassId) (a b : Nat) (fd tk bf fl : Int32) (tp : Nat → Int32)   : MI l D cI yX0_unread (.code yX0_unread cX0_unread 1 (some .int)) ({ frames := 0, cells := 0, slots := 0, locals := 0 } : Room) [.ref a] (rdw a b cI fd tk bf fl tp) (rdw a b cI fd tk bf fl tp) (some (.int (rX0_unread fd tk bf fl tp))) := by
  refine MI.ofI (own := RX0) (by decide) rfl (Nat.le_of_ble_eq_true rfl) ?_
  intro p e s m args below meth c A ls Q X Z hl hret
  have hT : ∀ w ∈ TB, w ∈ (Cond.code yX0_unread cX0_unread 1 (some .int) :: TB) := fun _ h => List.mem_cons_of_mem _ h
  have hl : lv_has ls 1 [(0, .ref a)] := hl
  refine lv_aload_n X.1 X.2.1 dX0_unread_0 rfl (lv_at hl 0 rfl) ?_
  refine G_X0_fed X hT Z dX0_unread_1 ?_
  refine lv_aload_n X.1 X.2.1 dX0_unread_4 rfl (lv_at hl 0 rfl) ?_
  refine G_X0_taken X hT Z dX0_unread_5 ?_
  refine lv_isub X.1 X.2.1 dX0_unread_8 ?_
  exact hret _ _ _ _ _ _ Z (rdw_eq rfl rfl rfl rfl rfl) rfl dX0_unread_9
def uX0_restart_j44_tk (fd : Int32) (tk : Int32) : Int32 := if fd ≤ tk then (tk) else ((tk + 1))
def uX0_restart_j44_bf (fd : Int32) (tk : Int32) (bf : Int32) (tp : Nat → Int32) : Int32 := if fd ≤ tk then (bf) else ((tp tk.toNatClampNeg))
def uX0_restart_j44_fl (fd : Int32) (tk : Int32) : Int32 := if fd ≤ tk then (0) else (1)
def tkX0_restart (fd : Int32) (tk : Int32) (bf : Int32) (fl : Int32) (tp : Nat → Int32)  : Int32 := let j44_tk : Int32 := uX0_restart_j44_tk fd tk; j44_tk
def bfX0_restart (fd : Int32) (tk : Int32) (bf : Int32) (fl : Int32) (tp : Nat → Int32)  : Int32 := let j44_bf : Int32 := uX0_restart_j44_bf fd tk bf tp; j44_bf
def flX0_restart (fd : Int32) (tk : Int32) (bf : Int32) (fl : Int32) (tp : Nat → Int32)  : Int32 := let j44_fl : Int32 := uX0_restart_j44_fl fd tk; j44_fl
set_option maxRecDepth 20000 in
set_option maxHeartbeats 4000000 in
theorem c_X0_restart (l : Launch) (D : va_G) (cI : ClassId) (a b : Nat) (fd tk bf fl : Int32) (tp : Nat → Int32)  (ht : ¬ fd ≤ tk → vp_in tk 400) : MI l D cI yX0_restart (.code yX0_restart cX0_restart 1 none) ({ frames := 0, cells := 0, slots := 0, locals := 0 } : Room) [.ref a] (rdw a b cI fd tk bf fl tp) (rdw a b cI fd (tkX0_restart fd tk bf fl tp) (bfX0_restart fd tk bf fl tp) (flX0_restart fd tk bf fl tp) tp) none := by
  refine MI.ofV (own := RX0) (by decide) rfl (Nat.le_of_ble_eq_true rfl) ?_
  intro p e s m args below meth c A ls Q X Z hl hret
  have hT : ∀ w ∈ TB, w ∈ (Cond.code yX0_restart cX0_restart 1 none :: TB) := fun _ h => List.mem_cons_of_mem _ h
  have hl : lv_has ls 1 [(0, .ref a)] := hl
  refine lv_aload_n X.1 X.2.1 dX0_restart_0 rfl (lv_at hl 0 rfl) ?_
  refine lv_iconst (v := 0) X.1 X.2.1 dX0_restart_1 (by decide) ?_
  refine P_X0_flag X hT Z ⟨rfl, rfl⟩ dX0_restart_2 (fun H locs Z => ?_)
  refine lv_aload_n X.1 X.2.1 dX0_restart_5 rfl (lv_at hl 0 rfl) ?_
  refine G_X0_taken X hT Z dX0_restart_6 ?_
  refine lv_aload_n X.1 X.2.1 dX0_restart_9 rfl (lv_at hl 0 rfl) ?_
  refine G_X0_fed X hT Z dX0_restart_10 ?_
  suffices K_44 : ∀ (j44_tk : Int32) (j44_bf : Int32) (j44_fl : Int32) (ls : Array Slot) (H : Heap) (locs : List Loc), j44_tk = uX0_restart_j44_tk fd tk → j44_bf = uX0_restart_j44_bf fd tk bf tp → j44_fl = uX0_restart_j44_fl fd tk → lv_has ls 1 [(0, .ref a)] → ZZ D cI (rdw a b cI fd j44_tk j44_bf j44_fl tp) A s H locs → W p l e ({ frames := 0, cells := 0, slots := 0, locals := 0 } : Room) s m args below meth c H locs 0 0 Q (F0 m 44 ls []) by
    refine lv_icmp_ge (tgt := 44) X.1 X.2.1 dX0_restart_13 (by decide) (fun c_13 => ?_) (fun c_13 => ?_)
    · exact K_44 tk bf 0 _ _ _ (if_pos c_13).symm (if_pos c_13).symm (if_pos c_13).symm (lv_sub hl [0] rfl) Z
    · refine lv_aload_n X.1 X.2.1 dX0_restart_16 rfl (lv_at hl 0 rfl) ?_
      refine lv_aload_n X.1 X.2.1 dX0_restart_17 rfl (lv_at hl 0 rfl) ?_
      refine G_X0_tape X hT Z dX0_restart_18 ?_
      refine lv_aload_n X.1 X.2.1 dX0_restart_21 rfl (lv_at hl 0 rfl) ?_
      refine G_X0_taken X hT Z dX0_restart_22 ?_
      refine L_X0_tape (j := tk.toNatClampNeg) X Z (ht c_13) rfl dX0_restart_25 ?_
      refine P_X0_buffer X hT Z dX0_restart_26 (fun H locs Z => ?_)
      refine lv_aload_n X.1 X.2.1 dX0_restart_29 rfl (lv_at hl 0 rfl) ?_
      refine lv_dup X.1 X.2.1 dX0_restart_30 rfl ?_
      refine G_X0_taken X hT Z dX0_restart_31 ?_
      refine lv_iconst (v := 1) X.1 X.2.1 dX0_restart_34 (by decide) ?_
      refine lv_iadd X.1 X.2.1 dX0_restart_35 ?_
      refine P_X0_taken X hT Z dX0_restart_36 (fun H locs Z => ?_)
      refine lv_aload_n X.1 X.2.1 dX0_restart_39 rfl (lv_at hl 0 rfl) ?_
      refine lv_iconst (v := 1) X.1 X.2.1 dX0_restart_40 (by decide) ?_
      refine P_X0_flag X hT Z ⟨rfl, rfl⟩ dX0_restart_41 (fun H locs Z => ?_)
      exact K_44 (tk + 1) (tp tk.toNatClampNeg) 1 _ _ _ (if_neg c_13).symm (if_neg c_13).symm (if_neg c_13).symm (lv_sub hl [0] rfl) Z
  intro j44_tk j44_bf j44_fl ls H locs e_j44_tk e_j44_bf e_j44_fl hl Z
  exact hret _ _ _ _ _ Z (rdw_eq rfl (by subst e_j44_tk e_j44_bf e_j44_fl; exact rfl) (by subst e_j44_tk e_j44_bf e_j44_fl; exact rfl) (by subst e_j44_tk e_j44_bf e_j44_fl; exact rfl) rfl) dX0_restart_44
def ctX1_add (ct : Int32) (rw : Nat → Int32) (a1 : Int32) : Int32 := (ct + 1)
def rwX1_add (ct : Int32) (rw : Nat → Int32) (a1 : Int32) : Nat → Int32 := (upd rw ((ct &&& 63).toNatClampNeg) a1)
set_option maxRecDepth 20000 in
set_option maxHeartbeats 4000000 in
theorem c_X1_add (l : Launch) (D : va_G) (cI : ClassId) (a b : Nat) (ct : Int32) (rw : Nat → Int32) (a1 : Int32)  : MI l D cI yX1_add (.code yX1_add cX1_add 2 none) ({ frames := 0, cells := 0, slots := 0, locals := 0 } : Room) [.ref a, .int a1] (rcw a b cI ct rw) (rcw a b cI (ctX1_add ct rw a1) (rwX1_add ct rw a1)) none := by
  refine MI.ofV (own := RX1) (by decide) rfl (Nat.le_of_ble_eq_true rfl) ?_
  intro p e s m args below meth c A ls Q X Z hl hret
  have hT : ∀ w ∈ TB, w ∈ (Cond.code yX1_add cX1_add 2 none :: TB) := fun _ h => List.mem_cons_of_mem _ h
  have hl : lv_has ls 2 [(0, .ref a), (1, .int a1)] := hl
  refine lv_aload_n X.1 X.2.1 dX1_add_0 rfl (lv_at hl 0 rfl) ?_
  refine G_X1_row X hT Z dX1_add_1 ?_
  refine lv_aload_n X.1 X.2.1 dX1_add_4 rfl (lv_at hl 0 rfl) ?_
  refine G_X1_count X hT Z dX1_add_5 ?_
  refine lv_bipush (v := 63) X.1 X.2.1 dX1_add_8 (by decide) ?_
  refine lv_iand X.1 X.2.1 dX1_add_10 ?_
  refine lv_iload_n X.1 X.2.1 dX1_add_11 rfl (lv_at hl 1 rfl) ?_
  refine S_X1_row (j := (ct &&& 63).toNatClampNeg) X Z (vin63 _) rfl dX1_add_12 (fun H locs Z => ?_)
  refine lv_aload_n X.1 X.2.1 dX1_add_13 rfl (lv_at hl 0 rfl) ?_
  refine lv_dup X.1 X.2.1 dX1_add_14 rfl ?_
  refine G_X1_count X hT Z dX1_add_15 ?_
  refine lv_iconst (v := 1) X.1 X.2.1 dX1_add_18 (by decide) ?_
  refine lv_iadd X.1 X.2.1 dX1_add_19 ?_
  refine P_X1_count X hT Z dX1_add_20 (fun H locs Z => ?_)
  exact hret _ _ _ _ _ Z (rcw_eq rfl rfl) dX1_add_23
def rX1_fromLatest (ct : Int32) (rw : Nat → Int32) (a1 : Int32) : Int32 := if a1 < (0 : Int32) then ((-1)) else (if (64 : Int32) ≤ a1 then ((-1)) else (if a1 < ct then ((rw ((((ct - 1) - a1) &&& 63).toNatClampNeg))) else ((-1))))
set_option maxRecDepth 20000 in
set_option maxHeartbeats 4000000 in
theorem c_X1_fromLatest (l : Launch) (D : va_G) (cI : ClassId) (a b : Nat) (ct : Int32) (rw : Nat → Int32) (a1 : Int32)  : MI l D cI yX1_fromLatest (.code yX1_fromLatest cX1_fromLatest 2 (some .int)) ({ frames := 0, cells := 0, slots := 0, locals := 0 } : Room) [.ref a, .int a1] (rcw a b cI ct rw) (rcw a b cI ct rw) (some (.int (rX1_fromLatest ct rw a1))) := by
  refine MI.ofI (own := RX1) (by decide) rfl (Nat.le_of_ble_eq_true rfl) ?_
  intro p e s m args below meth c A ls Q X Z hl hret
  have hT : ∀ w ∈ TB, w ∈ (Cond.code yX1_fromLatest cX1_fromLatest 2 (some .int) :: TB) := fun _ h => List.mem_cons_of_mem _ h
  have hl : lv_has ls 2 [(0, .ref a), (1, .int a1)] := hl
  refine lv_iload_n X.1 X.2.1 dX1_fromLatest_0 rfl (lv_at hl 1 rfl) ?_
  refine lv_if_lt (tgt := 18) X.1 X.2.1 dX1_fromLatest_1 (by decide) (fun c_1 => ?_) (fun c_1 => ?_)
  · refine lv_iconst (v := (-1)) X.1 X.2.1 dX1_fromLatest_18 (by decide) ?_
    exact hret _ _ _ _ _ _ Z (rcw_eq rfl rfl) (if_pos c_1).symm dX1_fromLatest_19
  · refine lv_iload_n X.1 X.2.1 dX1_fromLatest_4 rfl (lv_at hl 1 rfl) ?_
    refine lv_bipush (v := 64) X.1 X.2.1 dX1_fromLatest_5 (by decide) ?_
    refine lv_icmp_ge (tgt := 18) X.1 X.2.1 dX1_fromLatest_7 (by decide) (fun c_7 => ?_) (fun c_7 => ?_)
    · refine lv_iconst (v := (-1)) X.1 X.2.1 dX1_fromLatest_18 (by decide) ?_
      exact hret _ _ _ _ _ _ Z (rcw_eq rfl rfl) ((if_neg c_1).trans (if_pos c_7)).symm dX1_fromLatest_19
    · refine lv_iload_n X.1 X.2.1 dX1_fromLatest_10 rfl (lv_at hl 1 rfl) ?_
      refine lv_aload_n X.1 X.2.1 dX1_fromLatest_11 rfl (lv_at hl 0 rfl) ?_
      refine G_X1_count X hT Z dX1_fromLatest_12 ?_
      refine lv_icmp_lt (tgt := 20) X.1 X.2.1 dX1_fromLatest_15 (by decide) (fun c_15 => ?_) (fun c_15 => ?_)
      · refine lv_aload_n X.1 X.2.1 dX1_fromLatest_20 rfl (lv_at hl 0 rfl) ?_
        refine G_X1_row X hT Z dX1_fromLatest_21 ?_
        refine lv_aload_n X.1 X.2.1 dX1_fromLatest_24 rfl (lv_at hl 0 rfl) ?_
        refine G_X1_count X hT Z dX1_fromLatest_25 ?_
        refine lv_iconst (v := 1) X.1 X.2.1 dX1_fromLatest_28 (by decide) ?_
        refine lv_isub X.1 X.2.1 dX1_fromLatest_29 ?_
        refine lv_iload_n X.1 X.2.1 dX1_fromLatest_30 rfl (lv_at hl 1 rfl) ?_
        refine lv_isub X.1 X.2.1 dX1_fromLatest_31 ?_
        refine lv_bipush (v := 63) X.1 X.2.1 dX1_fromLatest_32 (by decide) ?_
        refine lv_iand X.1 X.2.1 dX1_fromLatest_34 ?_
        refine L_X1_row (j := (((ct - 1) - a1) &&& 63).toNatClampNeg) X Z (vin63 _) rfl dX1_fromLatest_35 ?_
        exact hret _ _ _ _ _ _ Z (rcw_eq rfl rfl) ((if_neg c_1).trans ((if_neg c_7).trans (if_pos c_15))).symm dX1_fromLatest_36
      · refine lv_iconst (v := (-1)) X.1 X.2.1 dX1_fromLatest_18 (by decide) ?_
        exact hret _ _ _ _ _ _ Z (rcw_eq rfl rfl) ((if_neg c_1).trans ((if_neg c_7).trans (if_neg c_15))).symm dX1_fromLatest_19
end
section
/-- the reader's next byte lies in its row -/
def Cq (g : Nat → Int32) : Prop := ¬ g 11 ≤ g 12 → vp_in (g 12) 400
theorem nb_append {fd tk bf fl : Int32} {tp : Nat → Int32} {a1 : Int32} : narrow .boolean (.int (rX0_append fd tk bf fl tp a1)) = .int (rX0_append fd tk bf fl tp a1) := by
  unfold rX0_append
  (repeat' split) <;> rfl
def rX2_wordAt (g : Nat → Int32) (mm : Nat → Nat → Int32) (a1 : Int32) : Int32 := (mm 0 ((a1 &&& 4095).toNatClampNeg))
set_option maxRecDepth 20000 in
set_option maxHeartbeats 4000000 in
theorem c_X2_wordAt (l : Launch) (D : va_G) (cI : ClassId) (q : Nat → Nat) (g : Nat → Int32) (mm : Nat → Nat → Int32) (a1 : Int32)  : MI l D cI yX2_wordAt (.code yX2_wordAt cX2_wordAt 2 (some .int)) ({ frames := 0, cells := 0, slots := 0, locals := 0 } : Room) [.ref (q 0), .int a1] (cw q cI g mm) (cw q cI g mm) (some (.int (rX2_wordAt g mm a1))) := by
  refine MI.ofI (own := RX2) (by decide) rfl (Nat.le_of_ble_eq_true rfl) ?_
  intro p e s m args below meth c A ls Q X Z hl hret
  have hT : ∀ w ∈ TB, w ∈ (Cond.code yX2_wordAt cX2_wordAt 2 (some .int) :: TB) := fun _ h => List.mem_cons_of_mem _ h
  have hl : lv_has ls 2 [(0, .ref (q 0)), (1, .int a1)] := hl
  refine lv_aload_n X.1 X.2.1 dX2_wordAt_0 rfl (lv_at hl 0 rfl) ?_
  refine G_X2_core X hT Z dX2_wordAt_1 ?_
  refine lv_iload_n X.1 X.2.1 dX2_wordAt_4 rfl (lv_at hl 1 rfl) ?_
  refine lv_sipush (v := 4095) X.1 X.2.1 dX2_wordAt_5 (by decide) ?_
  refine lv_iand X.1 X.2.1 dX2_wordAt_8 ?_
  refine L_X2_core (j := (a1 &&& 4095).toNatClampNeg) X Z (vin4095 _) rfl dX2_wordAt_9 ?_
  exact hret _ _ _ _ _ _ Z (cw_eq rfl rfl) rfl dX2_wordAt_10
def mX2_putWord (g : Nat → Int32) (mm : Nat → Nat → Int32) (a1 : Int32) (a2 : Int32) : Nat → Nat → Int32 := (va_up mm 0 (upd (mm 0) ((a1 &&& 4095).toNatClampNeg) (a2 &&& 4095)))
set_option maxRecDepth 20000 in
set_option maxHeartbeats 4000000 in
theorem c_X2_putWord (l : Launch) (D : va_G) (cI : ClassId) (q : Nat → Nat) (g : Nat → Int32) (mm : Nat → Nat → Int32) (a1 : Int32) (a2 : Int32)  : MI l D cI yX2_putWord (.code yX2_putWord cX2_putWord 3 none) ({ frames := 0, cells := 0, slots := 0, locals := 0 } : Room) [.ref (q 0), .int a1, .int a2] (cw q cI g mm) (cw q cI g (mX2_putWord g mm a1 a2)) none := by
  refine MI.ofV (own := RX2) (by decide) rfl (Nat.le_of_ble_eq_true rfl) ?_
  intro p e s m args below meth c A ls Q X Z hl hret
  have hT : ∀ w ∈ TB, w ∈ (Cond.code yX2_putWord cX2_putWord 3 none :: TB) := fun _ h => List.mem_cons_of_mem _ h
  have hl : lv_has ls 3 [(0, .ref (q 0)), (1, .int a1), (2, .int a2)] := hl
  refine lv_aload_n X.1 X.2.1 dX2_putWord_0 rfl (lv_at hl 0 rfl) ?_
  refine G_X2_core X hT Z dX2_putWord_1 ?_
  refine lv_iload_n X.1 X.2.1 dX2_putWord_4 rfl (lv_at hl 1 rfl) ?_
  refine lv_sipush (v := 4095) X.1 X.2.1 dX2_putWord_5 (by decide) ?_
  refine lv_iand X.1 X.2.1 dX2_putWord_8 ?_
  refine lv_iload_n X.1 X.2.1 dX2_putWord_9 rfl (lv_at hl 2 rfl) ?_
  refine lv_sipush (v := 4095) X.1 X.2.1 dX2_putWord_10 (by decide) ?_
  refine lv_iand X.1 X.2.1 dX2_putWord_13 ?_
  refine S_X2_core (j := (a1 &&& 4095).toNatClampNeg) X Z (vin4095 _) rfl dX2_putWord_14 (fun H locs Z => ?_)
  exact hret _ _ _ _ _ Z (cw_eq rfl rfl) dX2_putWord_15
def uX2_skipIf_j25_g (g : Nat → Int32) (a1 : Int32) : Nat → Int32 := if a1 = 0 then (g) else ((upd (upd g 2 (rX2_next (g 2))) 10 (((upd g 2 (rX2_next (g 2))) 10) + 1)))
def gX2_skipIf (g : Nat → Int32) (mm : Nat → Nat → Int32) (a1 : Int32) : Nat → Int32 := let j25_g : Nat → Int32 := uX2_skipIf_j25_g g a1; j25_g
set_option maxRecDepth 20000 in
set_option maxHeartbeats 4000000 in
theorem c_X2_skipIf (l : Launch) (D : va_G) (cI : ClassId) (q : Nat → Nat) (g : Nat → Int32) (mm : Nat → Nat → Int32) (a1 : Int32)  : MI l D cI yX2_skipIf (.code yX2_skipIf cX2_skipIf 2 none) ({ frames := 1, cells := 0, slots := 0, locals := 20 } : Room) [.ref (q 0), .int a1] (cw q cI g mm) (cw q cI (gX2_skipIf g mm a1) mm) none := by
  refine MI.ofV (own := RX2) (by decide) rfl (Nat.le_of_ble_eq_true rfl) ?_
  intro p e s m args below meth c A ls Q X Z hl hret
  have hT : ∀ w ∈ TB, w ∈ (Cond.code yX2_skipIf cX2_skipIf 2 none :: TB) := fun _ h => List.mem_cons_of_mem _ h
  have hl : lv_has ls 2 [(0, .ref (q 0)), (1, .int a1)] := hl
  refine lv_iload_n X.1 X.2.1 dX2_skipIf_0 rfl (lv_at hl 1 rfl) ?_
  suffices K_25 : ∀ (j25_g : Nat → Int32) (ls : Array Slot) (H : Heap) (locs : List Loc), j25_g = uX2_skipIf_j25_g g a1 → lv_has ls 2 [(0, .ref (q 0)), (1, .int a1)] → ZZ D cI (cw q cI j25_g mm) A s H locs → W p l e ({ frames := 1, cells := 0, slots := 0, locals := 20 } : Room) s m args below meth c H locs 0 0 Q (F0 m 25 ls []) by
    refine lv_if_eq (tgt := 25) X.1 X.2.1 dX2_skipIf_1 (by decide) (fun c_1 => ?_) (fun c_1 => ?_)
    · exact K_25 g _ _ _ (if_pos c_1).symm (lv_sub hl [0, 1] rfl) Z
    · refine lv_aload_n X.1 X.2.1 dX2_skipIf_4 rfl (lv_at hl 0 rfl) ?_
      refine lv_aload_n X.1 X.2.1 dX2_skipIf_5 rfl (lv_at hl 0 rfl) ?_
      refine G_X2_pc X hT Z dX2_skipIf_6 ?_
      refine call_Si X hT Z k_X2_103 (c_X2_next l D cI (cw q cI g mm) (g 2) ) hd_X2_next ⟨by decide, by decide⟩ ⟨rfl, rfl⟩ hl.1 (rest := [.ref (q 0)]) rfl (Nat.le_of_ble_eq_true rfl) ⟨by decide, by decide⟩ dX2_skipIf_9 (fun H locs Z => ?_)
      refine P_X2_pc X hT Z dX2_skipIf_12 (fun H locs Z => ?_)
      refine lv_aload_n X.1 X.2.1 dX2_skipIf_15 rfl (lv_at hl 0 rfl) ?_
      refine lv_dup X.1 X.2.1 dX2_skipIf_16 rfl ?_
      refine G_X2_skipCount X hT Z dX2_skipIf_17 ?_
      refine lv_iconst (v := 1) X.1 X.2.1 dX2_skipIf_20 (by decide) ?_
      refine lv_iadd X.1 X.2.1 dX2_skipIf_21 ?_
      refine P_X2_skipCount X hT Z dX2_skipIf_22 (fun H locs Z => ?_)
      exact K_25 (upd (upd g 2 (rX2_next (g 2))) 10 (((upd g 2 (rX2_next (g 2))) 10) + 1)) _ _ _ (if_neg c_1).symm (lv_sub hl [0, 1] rfl) Z
  intro j25_g ls H locs e_j25_g hl Z
  exact hret _ _ _ _ _ Z (cw_eq (by subst e_j25_g; exact rfl) rfl) dX2_skipIf_25
def gX2_interrupt (g : Nat → Int32) (mm : Nat → Nat → Int32)  : Nat → Int32 := (upd (upd (upd g 2 1) 6 0) 9 (((upd (upd g 2 1) 6 0) 9) + 1))
def mX2_interrupt (g : Nat → Int32) (mm : Nat → Nat → Int32)  : Nat → Nat → Int32 := (mX2_putWord g mm 0 (g 2))
set_option maxRecDepth 20000 in
set_option maxHeartbeats 4000000 in
theorem c_X2_interrupt (l : Launch) (D : va_G) (cI : ClassId) (q : Nat → Nat) (g : Nat → Int32) (mm : Nat → Nat → Int32)   : MI l D cI yX2_interrupt (.code yX2_interrupt cX2_interrupt 1 none) ({ frames := 1, cells := 0, slots := 0, locals := 22 } : Room) [.ref (q 0)] (cw q cI g mm) (cw q cI (gX2_interrupt g mm) (mX2_interrupt g mm)) none := by
  refine MI.ofV (own := RX2) (by decide) rfl (Nat.le_of_ble_eq_true rfl) ?_
  intro p e s m args below meth c A ls Q X Z hl hret
  have hT : ∀ w ∈ TB, w ∈ (Cond.code yX2_interrupt cX2_interrupt 1 none :: TB) := fun _ h => List.mem_cons_of_mem _ h
  have hl : lv_has ls 1 [(0, .ref (q 0))] := hl
  refine lv_aload_n X.1 X.2.1 dX2_interrupt_0 rfl (lv_at hl 0 rfl) ?_
  refine lv_iconst (v := 0) X.1 X.2.1 dX2_interrupt_1 (by decide) ?_
  refine lv_aload_n X.1 X.2.1 dX2_interrupt_2 rfl (lv_at hl 0 rfl) ?_
  refine G_X2_pc X hT Z dX2_interrupt_3 ?_
  refine call_Vv X hT Z (qq := (RX2, TX2, 15)) k_X2_45 (c_X2_putWord l D cI q g mm 0 (g 2) ) rfl rfl hd_X2_putWord ⟨by decide, by decide⟩ ⟨rfl, rfl⟩ hl.1 (rest := []) rfl (Nat.le_of_ble_eq_true rfl) ⟨by decide, by decide⟩ dX2_interrupt_6 (fun H locs Z => ?_)
  refine lv_aload_n X.1 X.2.1 dX2_interrupt_9 rfl (lv_at hl 0 rfl) ?_
  refine lv_iconst (v := 1) X.1 X.2.1 dX2_interrupt_10 (by decide) ?_
  refine P_X2_pc X hT Z dX2_interrupt_11 (fun H locs Z => ?_)
  refine lv_aload_n X.1 X.2.1 dX2_interrupt_14 rfl (lv_at hl 0 rfl) ?_
  refine lv_iconst (v := 0) X.1 X.2.1 dX2_interrupt_15 (by decide) ?_
  refine P_X2_ion X hT Z ⟨rfl, rfl⟩ dX2_interrupt_16 (fun H locs Z => ?_)
  refine lv_aload_n X.1 X.2.1 dX2_interrupt_19 rfl (lv_at hl 0 rfl) ?_
  refine lv_dup X.1 X.2.1 dX2_interrupt_20 rfl ?_
  refine G_X2_interruptCount X hT Z dX2_interrupt_21 ?_
  refine lv_iconst (v := 1) X.1 X.2.1 dX2_interrupt_24 (by decide) ?_
  refine lv_iadd X.1 X.2.1 dX2_interrupt_25 ?_
  refine P_X2_interruptCount X hT Z dX2_interrupt_26 (fun H locs Z => ?_)
  exact hret _ _ _ _ _ Z (cw_eq rfl rfl) dX2_interrupt_29
def uX2_effectiveAddress_j23_l3 (a1 : Int32) (a2 : Int32) : Int32 := if (rX2_has a1 128) = 0 then ((a1 &&& 127)) else (((a1 &&& 127) + (a2 &&& 3968)))
def uX2_effectiveAddress_j60_mm (g : Nat → Int32) (mm : Nat → Nat → Int32) (j23_l3 : Int32) : Nat → Nat → Int32 := if j23_l3 < (8 : Int32) then (mm) else (if (15 : Int32) < j23_l3 then (mm) else ((mX2_putWord g mm j23_l3 (rX2_next (rX2_wordAt g mm j23_l3)))))
def mX2_effectiveAddress (g : Nat → Int32) (mm : Nat → Nat → Int32) (a1 : Int32) (a2 : Int32) : Nat → Nat → Int32 := let j23_l3 : Int32 := uX2_effectiveAddress_j23_l3 a1 a2; if (rX2_has a1 256) = 0 then (mm) else (let j60_mm : Nat → Nat → Int32 := uX2_effectiveAddress_j60_mm g mm j23_l3; j60_mm)
def rX2_effectiveAddress (g : Nat → Int32) (mm : Nat → Nat → Int32) (a1 : Int32) (a2 : Int32) : Int32 := let j23_l3 : Int32 := uX2_effectiveAddress_j23_l3 a1 a2; if (rX2_has a1 256) = 0 then (j23_l3) else (let j60_mm : Nat → Nat → Int32 := uX2_effectiveAddress_j60_mm g mm j23_l3; (rX2_wordAt g j60_mm j23_l3))
set_option maxRecDepth 20000 in
set_option maxHeartbeats 4000000 in
theorem c_X2_effectiveAddress (l : Launch) (D : va_G) (cI : ClassId) (q : Nat → Nat) (g : Nat → Int32) (mm : Nat → Nat → Int32) (a1 : Int32) (a2 : Int32)  : MI l D cI yX2_effectiveAddress (.code yX2_effectiveAddress cX2_effectiveAddress 4 (some .int)) ({ frames := 1, cells := 0, slots := 0, locals := 22 } : Room) [.ref (q 0), .int a1, .int a2] (cw q cI g mm) (cw q cI g (mX2_effectiveAddress g mm a1 a2)) (some (.int (rX2_effectiveAddress g mm a1 a2))) := by
  refine MI.ofI (own := RX2) (by decide) rfl (Nat.le_of_ble_eq_true rfl) ?_
  intro p e s m args below meth c A ls Q X Z hl hret
  have hT : ∀ w ∈ TB, w ∈ (Cond.code yX2_effectiveAddress cX2_effectiveAddress 4 (some .int) :: TB) := fun _ h => List.mem_cons_of_mem _ h
  have hl : lv_has ls 4 [(0, .ref (q 0)), (1, .int a1), (2, .int a2)] := hl
  refine lv_iload_n X.1 X.2.1 dX2_effectiveAddress_0 rfl (lv_at hl 1 rfl) ?_
  refine lv_bipush (v := 127) X.1 X.2.1 dX2_effectiveAddress_1 (by decide) ?_
  refine lv_iand X.1 X.2.1 dX2_effectiveAddress_3 ?_
  refine lv_istore_n (lv' := [(3, .int (a1 &&& 127)), (0, .ref (q 0)), (1, .int a1), (2, .int a2)]) X.1 X.2.1 dX2_effectiveAddress_4 rfl hl (by decide) rfl (fun ls hl => ?_)
  refine lv_iload_n X.1 X.2.1 dX2_effectiveAddress_5 rfl (lv_at hl 2 rfl) ?_
  refine lv_sipush (v := 128) X.1 X.2.1 dX2_effectiveAddress_6 (by decide) ?_
  refine call_Si X hT Z k_X2_126 (c_X2_has l D cI (cw q cI g mm) a1 128 ) hd_X2_has ⟨by decide, by decide⟩ ⟨rfl, rfl⟩ hl.1 (rest := []) rfl (Nat.le_of_ble_eq_true rfl) ⟨by decide, by decide⟩ dX2_effectiveAddress_9 (fun H locs Z => ?_)
  suffices K_23 : ∀ (j23_l3 : Int32) (ls : Array Slot) (H : Heap) (locs : List Loc), j23_l3 = uX2_effectiveAddress_j23_l3 a1 a2 → lv_has ls 4 [(3, .int j23_l3), (0, .ref (q 0)), (1, .int a1), (2, .int a2)] → ZZ D cI (cw q cI g mm) A s H locs → W p l e ({ frames := 1, cells := 0, slots := 0, locals := 22 } : Room) s m args below meth c H locs 0 0 Q (F0 m 23 ls []) by
    refine lv_if_eq (tgt := 23) X.1 X.2.1 dX2_effectiveAddress_12 (by decide) (fun c_12 => ?_) (fun c_12 => ?_)
    · exact K_23 (a1 &&& 127) _ _ _ (if_pos c_12).symm (lv_sub hl [0, 1, 2, 3] rfl) Z
    · refine lv_iload_n X.1 X.2.1 dX2_effectiveAddress_15 rfl (lv_at hl 0 rfl) ?_
      refine lv_iload_n X.1 X.2.1 dX2_effectiveAddress_16 rfl (lv_at hl 3 rfl) ?_
      refine lv_sipush (v := 3968) X.1 X.2.1 dX2_effectiveAddress_17 (by decide) ?_
      refine lv_iand X.1 X.2.1 dX2_effectiveAddress_20 ?_
      refine lv_iadd X.1 X.2.1 dX2_effectiveAddress_21 ?_
      refine lv_istore_n (lv' := [(3, .int ((a1 &&& 127) + (a2 &&& 3968))), (0, .ref (q 0)), (1, .int a1), (2, .int a2)]) X.1 X.2.1 dX2_effectiveAddress_22 rfl hl (by decide) rfl (fun ls hl => ?_)
      exact K_23 ((a1 &&& 127) + (a2 &&& 3968)) _ _ _ (if_neg c_12).symm (lv_sub hl [0, 1, 2, 3] rfl) Z
  intro j23_l3 ls H locs e_j23_l3 hl Z
  refine lv_iload_n X.1 X.2.1 dX2_effectiveAddress_23 rfl (lv_at hl 2 rfl) ?_
  refine lv_sipush (v := 256) X.1 X.2.1 dX2_effectiveAddress_24 (by decide) ?_
  refine call_Si X hT Z k_X2_126 (c_X2_has l D cI (cw q cI g mm) a1 256 ) hd_X2_has ⟨by decide, by decide⟩ ⟨rfl, rfl⟩ hl.1 (rest := []) rfl (Nat.le_of_ble_eq_true rfl) ⟨by decide, by decide⟩ dX2_effectiveAddress_27 (fun H locs Z => ?_)
  refine lv_if_ne (tgt := 35) X.1 X.2.1 dX2_effectiveAddress_30 (by decide) (fun c_30 => ?_) (fun c_30 => ?_)
  · refine lv_iload_n X.1 X.2.1 dX2_effectiveAddress_35 rfl (lv_at hl 0 rfl) ?_
    refine lv_bipush (v := 8) X.1 X.2.1 dX2_effectiveAddress_36 (by decide) ?_
    suffices K_60 : ∀ (j60_mm : Nat → Nat → Int32) (ls : Array Slot) (H : Heap) (locs : List Loc), j60_mm = uX2_effectiveAddress_j60_mm g mm j23_l3 → lv_has ls 4 [(3, .int j23_l3), (0, .ref (q 0)), (1, .int a1), (2, .int a2)] → ZZ D cI (cw q cI g j60_mm) A s H locs → W p l e ({ frames := 1, cells := 0, slots := 0, locals := 22 } : Room) s m args below meth c H locs 0 0 Q (F0 m 60 ls []) by
      refine lv_icmp_lt (tgt := 60) X.1 X.2.1 dX2_effectiveAddress_38 (by decide) (fun c_38 => ?_) (fun c_38 => ?_)
      · exact K_60 mm _ _ _ (if_pos c_38).symm (lv_sub hl [0, 1, 2, 3] rfl) Z
      · refine lv_iload_n X.1 X.2.1 dX2_effectiveAddress_41 rfl (lv_at hl 0 rfl) ?_
        refine lv_bipush (v := 15) X.1 X.2.1 dX2_effectiveAddress_42 (by decide) ?_
        refine lv_icmp_gt (tgt := 60) X.1 X.2.1 dX2_effectiveAddress_44 (by decide) (fun c_44 => ?_) (fun c_44 => ?_)
        · exact K_60 mm _ _ _ ((if_neg c_38).trans (if_pos c_44)).symm (lv_sub hl [0, 1, 2, 3] rfl) Z
        · refine lv_aload_n X.1 X.2.1 dX2_effectiveAddress_47 rfl (lv_at hl 1 rfl) ?_
          refine lv_iload_n X.1 X.2.1 dX2_effectiveAddress_48 rfl (lv_at hl 0 rfl) ?_
          refine lv_aload_n X.1 X.2.1 dX2_effectiveAddress_49 rfl (lv_at hl 1 rfl) ?_
          refine lv_iload_n X.1 X.2.1 dX2_effectiveAddress_50 rfl (lv_at hl 0 rfl) ?_
          refine call_Vi X hT Z (qq := (RX2, TX2, 15)) k_X2_41 (c_X2_wordAt l D cI q g mm j23_l3 ) rfl rfl hd_X2_wordAt ⟨by decide, by decide⟩ ⟨rfl, rfl⟩ hl.1 (rest := [.int j23_l3, .ref (q 0)]) rfl (Nat.le_of_ble_eq_true rfl) ⟨by decide, by decide⟩ dX2_effectiveAddress_51 (fun H locs Z => ?_)
          refine call_Si X hT Z k_X2_103 (c_X2_next l D cI (cw q cI g mm) (rX2_wordAt g mm j23_l3) ) hd_X2_next ⟨by decide, by decide⟩ ⟨rfl, rfl⟩ hl.1 (rest := [.int j23_l3, .ref (q 0)]) rfl (Nat.le_of_ble_eq_true rfl) ⟨by decide, by decide⟩ dX2_effectiveAddress_54 (fun H locs Z => ?_)
          refine call_Vv X hT Z (qq := (RX2, TX2, 15)) k_X2_45 (c_X2_putWord l D cI q g mm j23_l3 (rX2_next (rX2_wordAt g mm j23_l3)) ) rfl rfl hd_X2_putWord ⟨by decide, by decide⟩ ⟨rfl, rfl⟩ hl.1 (rest := []) rfl (Nat.le_of_ble_eq_true rfl) ⟨by decide, by decide⟩ dX2_effectiveAddress_57 (fun H locs Z => ?_)
          exact K_60 (mX2_putWord g mm j23_l3 (rX2_next (rX2_wordAt g mm j23_l3))) _ _ _ ((if_neg c_38).trans (if_neg c_44)).symm (lv_sub hl [0, 1, 2, 3] rfl) Z
    intro j60_mm ls H locs e_j60_mm hl Z
    refine lv_aload_n X.1 X.2.1 dX2_effectiveAddress_60 rfl (lv_at hl 1 rfl) ?_
    refine lv_iload_n X.1 X.2.1 dX2_effectiveAddress_61 rfl (lv_at hl 0 rfl) ?_
    refine call_Vi X hT Z (qq := (RX2, TX2, 15)) k_X2_41 (c_X2_wordAt l D cI q g j60_mm j23_l3 ) rfl rfl hd_X2_wordAt ⟨by decide, by decide⟩ ⟨rfl, rfl⟩ hl.1 (rest := []) rfl (Nat.le_of_ble_eq_true rfl) ⟨by decide, by decide⟩ dX2_effectiveAddress_62 (fun H locs Z => ?_)
    exact hret _ _ _ _ _ _ Z (cw_eq rfl (by subst e_j23_l3 e_j60_mm; exact (if_neg c_30).symm)) (by subst e_j23_l3 e_j60_mm; exact (if_neg c_30).symm) dX2_effectiveAddress_65
  · refine lv_iload_n X.1 X.2.1 dX2_effectiveAddress_33 rfl (lv_at hl 0 rfl) ?_
    exact hret _ _ _ _ _ _ Z (cw_eq rfl (by subst e_j23_l3; exact (if_pos c_30).symm)) (by subst e_j23_l3; exact (if_pos c_30).symm) dX2_effectiveAddress_34
def uX2_add_j24_g (g : Nat → Int32) (a1 : Int32) : Nat → Int32 := if ((g 0) + a1) ≤ (4095 : Int32) then (g) else ((upd g 1 ((g 1) ^^^ 1)))
def gX2_add (g : Nat → Int32) (mm : Nat → Nat → Int32) (a1 : Int32) : Nat → Int32 := let j24_g : Nat → Int32 := uX2_add_j24_g g a1; (upd j24_g 0 (((g 0) + a1) &&& 4095))
set_option maxRecDepth 20000 in
set_option maxHeartbeats 4000000 in
theorem c_X2_add (l : Launch) (D : va_G) (cI : ClassId) (q : Nat → Nat) (g : Nat → Int32) (mm : Nat → Nat → Int32) (a1 : Int32)  : MI l D cI yX2_add (.code yX2_add cX2_add 3 none) ({ frames := 0, cells := 0, slots := 0, locals := 0 } : Room) [.ref (q 0), .int a1] (cw q cI g mm) (cw q cI (gX2_add g mm a1) mm) none := by
  refine MI.ofV (own := RX2) (by decide) rfl (Nat.le_of_ble_eq_true rfl) ?_
  intro p e s m args below meth c A ls Q X Z hl hret
  have hT : ∀ w ∈ TB, w ∈ (Cond.code yX2_add cX2_add 3 none :: TB) := fun _ h => List.mem_cons_of_mem _ h
  have hl : lv_has ls 3 [(0, .ref (q 0)), (1, .int a1)] := hl
  refine lv_aload_n X.1 X.2.1 dX2_add_0 rfl (lv_at hl 0 rfl) ?_
  refine G_X2_ac X hT Z dX2_add_1 ?_
  refine lv_iload_n X.1 X.2.1 dX2_add_4 rfl (lv_at hl 1 rfl) ?_
  refine lv_iadd X.1 X.2.1 dX2_add_5 ?_
  refine lv_istore_n (lv' := [(2, .int ((g 0) + a1)), (0, .ref (q 0)), (1, .int a1)]) X.1 X.2.1 dX2_add_6 rfl hl (by decide) rfl (fun ls hl => ?_)
  refine lv_iload_n X.1 X.2.1 dX2_add_7 rfl (lv_at hl 0 rfl) ?_
  refine lv_sipush (v := 4095) X.1 X.2.1 dX2_add_8 (by decide) ?_
  suffices K_24 : ∀ (j24_g : Nat → Int32) (ls : Array Slot) (H : Heap) (locs : List Loc), j24_g = uX2_add_j24_g g a1 → lv_has ls 3 [(2, .int ((g 0) + a1)), (0, .ref (q 0)), (1, .int a1)] → ZZ D cI (cw q cI j24_g mm) A s H locs → W p l e ({ frames := 0, cells := 0, slots := 0, locals := 0 } : Room) s m args below meth c H locs 0 0 Q (F0 m 24 ls []) by
    refine lv_icmp_le (tgt := 24) X.1 X.2.1 dX2_add_11 (by decide) (fun c_11 => ?_) (fun c_11 => ?_)
    · exact K_24 g _ _ _ (if_pos c_11).symm (lv_sub hl [0, 1, 2] rfl) Z
    · refine lv_aload_n X.1 X.2.1 dX2_add_14 rfl (lv_at hl 1 rfl) ?_
      refine lv_dup X.1 X.2.1 dX2_add_15 rfl ?_
      refine G_X2_link X hT Z dX2_add_16 ?_
      refine lv_iconst (v := 1) X.1 X.2.1 dX2_add_19 (by decide) ?_
      refine lv_ixor X.1 X.2.1 dX2_add_20 ?_
      refine P_X2_link X hT Z dX2_add_21 (fun H locs Z => ?_)
      exact K_24 (upd g 1 ((g 1) ^^^ 1)) _ _ _ (if_neg c_11).symm (lv_sub hl [0, 1, 2] rfl) Z
  intro j24_g ls H locs e_j24_g hl Z
  refine lv_aload_n X.1 X.2.1 dX2_add_24 rfl (lv_at hl 1 rfl) ?_
  refine lv_iload_n X.1 X.2.1 dX2_add_25 rfl (lv_at hl 0 rfl) ?_
  refine lv_sipush (v := 4095) X.1 X.2.1 dX2_add_26 (by decide) ?_
  refine lv_iand X.1 X.2.1 dX2_add_29 ?_
  refine P_X2_ac X hT Z dX2_add_30 (fun H locs Z => ?_)
  exact hret _ _ _ _ _ Z (cw_eq (by subst e_j24_g; exact rfl) rfl) dX2_add_33
def uX2_performAddressed_j92_s0 (g : Nat → Int32) (mm : Nat → Nat → Int32) (a2 : Int32) : Int32 := if (rX2_wordAt g (mX2_putWord g mm a2 (rX2_next (rX2_wordAt g mm a2))) a2) = 0 then (1) else (0)
def uX2_performAddressed_j140_g (g : Nat → Int32) (mm : Nat → Nat → Int32) (a1 : Int32) (a2 : Int32) : Nat → Int32 := if a1 = 0 then ((upd g 0 ((g 0) &&& (rX2_wordAt g mm a2)))) else (if a1 = 1 then ((gX2_add g mm (rX2_wordAt g mm a2))) else (if a1 = 2 then (let j92_s0 : Int32 := uX2_performAddressed_j92_s0 g mm a2; (gX2_skipIf g (mX2_putWord g mm a2 (rX2_next (rX2_wordAt g mm a2))) j92_s0)) else (if a1 = 3 then ((upd g 0 0)) else (if a1 = 4 then ((upd g 2 (rX2_next a2))) else ((upd g 2 a2))))))
def uX2_performAddressed_j140_mm (g : Nat → Int32) (mm : Nat → Nat → Int32) (a1 : Int32) (a2 : Int32) : Nat → Nat → Int32 := if a1 = 0 then (mm) else (if a1 = 1 then (mm) else (if a1 = 2 then ((mX2_putWord g mm a2 (rX2_next (rX2_wordAt g mm a2)))) else (if a1 = 3 then ((mX2_putWord g mm a2 (g 0))) else (if a1 = 4 then ((mX2_putWord g mm a2 (g 2))) else (mm)))))
def gX2_performAddressed (g : Nat → Int32) (mm : Nat → Nat → Int32) (a1 : Int32) (a2 : Int32) : Nat → Int32 := let j140_g : Nat → Int32 := uX2_performAddressed_j140_g g mm a1 a2; j140_g
def mX2_performAddressed (g : Nat → Int32) (mm : Nat → Nat → Int32) (a1 : Int32) (a2 : Int32) : Nat → Nat → Int32 := let j140_mm : Nat → Nat → Int32 := uX2_performAddressed_j140_mm g mm a1 a2; j140_mm
set_option maxRecDepth 20000 in
set_option maxHeartbeats 4000000 in
theorem c_X2_performAddressed (l : Launch) (D : va_G) (cI : ClassId) (q : Nat → Nat) (g : Nat → Int32) (mm : Nat → Nat → Int32) (a1 : Int32) (a2 : Int32)  : MI l D cI yX2_performAddressed (.code yX2_performAddressed cX2_performAddressed 3 none) ({ frames := 2, cells := 0, slots := 0, locals := 41 } : Room) [.ref (q 0), .int a1, .int a2] (cw q cI g mm) (cw q cI (gX2_performAddressed g mm a1 a2) (mX2_performAddressed g mm a1 a2)) none := by
  refine MI.ofV (own := RX2) (by decide) rfl (Nat.le_of_ble_eq_true rfl) ?_
  intro p e s m args below meth c A ls Q X Z hl hret
  have hT : ∀ w ∈ TB, w ∈ (Cond.code yX2_performAddressed cX2_performAddressed 3 none :: TB) := fun _ h => List.mem_cons_of_mem _ h
  have hl : lv_has ls 3 [(0, .ref (q 0)), (1, .int a1), (2, .int a2)] := hl
  refine lv_iload_n X.1 X.2.1 dX2_performAddressed_0 rfl (lv_at hl 1 rfl) ?_
  suffices K_140 : ∀ (j140_g : Nat → Int32) (j140_mm : Nat → Nat → Int32) (ls : Array Slot) (H : Heap) (locs : List Loc), j140_g = uX2_performAddressed_j140_g g mm a1 a2 → j140_mm = uX2_performAddressed_j140_mm g mm a1 a2 → lv_has ls 3 [(0, .ref (q 0)), (1, .int a1), (2, .int a2)] → ZZ D cI (cw q cI j140_g j140_mm) A s H locs → W p l e ({ frames := 2, cells := 0, slots := 0, locals := 41 } : Room) s m args below meth c H locs 0 0 Q (F0 m 140 ls []) by
    by_cases c_1_0 : a1 = 0
    · refine lv_tableIn (tgt := 36) (off := 35) X.1 X.2.1 dX2_performAddressed_1 (by rw [c_1_0]; decide) (by rw [c_1_0]; decide) (by rw [c_1_0]; decide) (by decide) ?_
      refine lv_aload_n X.1 X.2.1 dX2_performAddressed_36 rfl (lv_at hl 0 rfl) ?_
      refine lv_dup X.1 X.2.1 dX2_performAddressed_37 rfl ?_
      refine G_X2_ac X hT Z dX2_performAddressed_38 ?_
      refine lv_aload_n X.1 X.2.1 dX2_performAddressed_41 rfl (lv_at hl 0 rfl) ?_
      refine lv_iload_n X.1 X.2.1 dX2_performAddressed_42 rfl (lv_at hl 2 rfl) ?_
      refine call_Vi X hT Z (qq := (RX2, TX2, 15)) k_X2_41 (c_X2_wordAt l D cI q g mm a2 ) rfl rfl hd_X2_wordAt ⟨by decide, by decide⟩ ⟨rfl, rfl⟩ hl.1 (rest := [.int (g 0), .ref (q 0)]) rfl (Nat.le_of_ble_eq_true rfl) ⟨by decide, by decide⟩ dX2_performAddressed_43 (fun H locs Z => ?_)
      refine lv_iand X.1 X.2.1 dX2_performAddressed_46 ?_
      refine P_X2_ac X hT Z dX2_performAddressed_47 (fun H locs Z => ?_)
      refine lv_goto (tgt := 140) X.1 X.2.1 dX2_performAddressed_50 (by decide) ?_
      exact K_140 (upd g 0 ((g 0) &&& (rX2_wordAt g mm a2))) mm _ _ _ (if_pos c_1_0).symm (if_pos c_1_0).symm (lv_sub hl [0, 1, 2] rfl) Z
    · by_cases c_1_1 : a1 = 1
      · refine lv_tableIn (tgt := 53) (off := 52) X.1 X.2.1 dX2_performAddressed_1 (by rw [c_1_1]; decide) (by rw [c_1_1]; decide) (by rw [c_1_1]; decide) (by decide) ?_
        refine lv_aload_n X.1 X.2.1 dX2_performAddressed_53 rfl (lv_at hl 0 rfl) ?_
        refine lv_aload_n X.1 X.2.1 dX2_performAddressed_54 rfl (lv_at hl 0 rfl) ?_
        refine lv_iload_n X.1 X.2.1 dX2_performAddressed_55 rfl (lv_at hl 2 rfl) ?_
        refine call_Vi X hT Z (qq := (RX2, TX2, 15)) k_X2_41 (c_X2_wordAt l D cI q g mm a2 ) rfl rfl hd_X2_wordAt ⟨by decide, by decide⟩ ⟨rfl, rfl⟩ hl.1 (rest := [.ref (q 0)]) rfl (Nat.le_of_ble_eq_true rfl) ⟨by decide, by decide⟩ dX2_performAddressed_56 (fun H locs Z => ?_)
        refine call_Vv X hT Z (qq := (RX2, TX2, 15)) k_X2_139 (c_X2_add l D cI q g mm (rX2_wordAt g mm a2) ) rfl rfl hd_X2_add ⟨by decide, by decide⟩ ⟨rfl, rfl⟩ hl.1 (rest := []) rfl (Nat.le_of_ble_eq_true rfl) ⟨by decide, by decide⟩ dX2_performAddressed_59 (fun H locs Z => ?_)
        refine lv_goto (tgt := 140) X.1 X.2.1 dX2_performAddressed_62 (by decide) ?_
        exact K_140 (gX2_add g mm (rX2_wordAt g mm a2)) mm _ _ _ ((if_neg c_1_0).trans (if_pos c_1_1)).symm ((if_neg c_1_0).trans (if_pos c_1_1)).symm (lv_sub hl [0, 1, 2] rfl) Z
      · by_cases c_1_2 : a1 = 2
        · refine lv_tableIn (tgt := 65) (off := 64) X.1 X.2.1 dX2_performAddressed_1 (by rw [c_1_2]; decide) (by rw [c_1_2]; decide) (by rw [c_1_2]; decide) (by decide) ?_
          refine lv_aload_n X.1 X.2.1 dX2_performAddressed_65 rfl (lv_at hl 0 rfl) ?_
          refine lv_iload_n X.1 X.2.1 dX2_performAddressed_66 rfl (lv_at hl 2 rfl) ?_
          refine lv_aload_n X.1 X.2.1 dX2_performAddressed_67 rfl (lv_at hl 0 rfl) ?_
          refine lv_iload_n X.1 X.2.1 dX2_performAddressed_68 rfl (lv_at hl 2 rfl) ?_
          refine call_Vi X hT Z (qq := (RX2, TX2, 15)) k_X2_41 (c_X2_wordAt l D cI q g mm a2 ) rfl rfl hd_X2_wordAt ⟨by decide, by decide⟩ ⟨rfl, rfl⟩ hl.1 (rest := [.int a2, .ref (q 0)]) rfl (Nat.le_of_ble_eq_true rfl) ⟨by decide, by decide⟩ dX2_performAddressed_69 (fun H locs Z => ?_)
          refine call_Si X hT Z k_X2_103 (c_X2_next l D cI (cw q cI g mm) (rX2_wordAt g mm a2) ) hd_X2_next ⟨by decide, by decide⟩ ⟨rfl, rfl⟩ hl.1 (rest := [.int a2, .ref (q 0)]) rfl (Nat.le_of_ble_eq_true rfl) ⟨by decide, by decide⟩ dX2_performAddressed_72 (fun H locs Z => ?_)
          refine call_Vv X hT Z (qq := (RX2, TX2, 15)) k_X2_45 (c_X2_putWord l D cI q g mm a2 (rX2_next (rX2_wordAt g mm a2)) ) rfl rfl hd_X2_putWord ⟨by decide, by decide⟩ ⟨rfl, rfl⟩ hl.1 (rest := []) rfl (Nat.le_of_ble_eq_true rfl) ⟨by decide, by decide⟩ dX2_performAddressed_75 (fun H locs Z => ?_)
          refine lv_aload_n X.1 X.2.1 dX2_performAddressed_78 rfl (lv_at hl 0 rfl) ?_
          refine lv_aload_n X.1 X.2.1 dX2_performAddressed_79 rfl (lv_at hl 0 rfl) ?_
          refine lv_iload_n X.1 X.2.1 dX2_performAddressed_80 rfl (lv_at hl 2 rfl) ?_
          refine call_Vi X hT Z (qq := (RX2, TX2, 15)) k_X2_41 (c_X2_wordAt l D cI q g (mX2_putWord g mm a2 (rX2_next (rX2_wordAt g mm a2))) a2 ) rfl rfl hd_X2_wordAt ⟨by decide, by decide⟩ ⟨rfl, rfl⟩ hl.1 (rest := [.ref (q 0)]) rfl (Nat.le_of_ble_eq_true rfl) ⟨by decide, by decide⟩ dX2_performAddressed_81 (fun H locs Z => ?_)
          suffices K_92 : ∀ (j92_s0 : Int32) (ls : Array Slot) (H : Heap) (locs : List Loc), j92_s0 = uX2_performAddressed_j92_s0 g mm a2 → lv_has ls 3 [(0, .ref (q 0)), (1, .int a1), (2, .int a2)] → ZZ D cI (cw q cI g (mX2_putWord g mm a2 (rX2_next (rX2_wordAt g mm a2)))) A s H locs → W p l e ({ frames := 2, cells := 0, slots := 0, locals := 41 } : Room) s m args below meth c H locs 0 0 Q (F0 m 92 ls [.int j92_s0, .ref (q 0)]) by
            refine lv_if_ne (tgt := 91) X.1 X.2.1 dX2_performAddressed_84 (by decide) (fun c_84 => ?_) (fun c_84 => ?_)
            · refine lv_iconst (v := 0) X.1 X.2.1 dX2_performAddressed_91 (by decide) ?_
              exact K_92 0 _ _ _ (if_neg c_84).symm (lv_sub hl [0, 1, 2] rfl) Z
            · refine lv_iconst (v := 1) X.1 X.2.1 dX2_performAddressed_87 (by decide) ?_
              refine lv_goto (tgt := 92) X.1 X.2.1 dX2_performAddressed_88 (by decide) ?_
              exact K_92 1 _ _ _ (if_pos c_84).symm (lv_sub hl [0, 1, 2] rfl) Z
          intro j92_s0 ls H locs e_j92_s0 hl Z
          refine call_Vv X hT Z (qq := (RX2, TX2, 15)) k_X2_140 (c_X2_skipIf l D cI q g (mX2_putWord g mm a2 (rX2_next (rX2_wordAt g mm a2))) j92_s0 ) rfl rfl hd_X2_skipIf ⟨by decide, by decide⟩ ⟨rfl, rfl⟩ hl.1 (rest := []) rfl (Nat.le_of_ble_eq_true rfl) ⟨by decide, by decide⟩ dX2_performAddressed_92 (fun H locs Z => ?_)
          refine lv_goto (tgt := 140) X.1 X.2.1 dX2_performAddressed_95 (by decide) ?_
          exact K_140 (gX2_skipIf g (mX2_putWord g mm a2 (rX2_next (rX2_wordAt g mm a2))) j92_s0) (mX2_putWord g mm a2 (rX2_next (rX2_wordAt g mm a2))) _ _ _ (by subst e_j92_s0; exact ((if_neg c_1_0).trans ((if_neg c_1_1).trans (if_pos c_1_2))).symm) (by subst e_j92_s0; exact ((if_neg c_1_0).trans ((if_neg c_1_1).trans (if_pos c_1_2))).symm) (lv_sub hl [0, 1, 2] rfl) Z
        · by_cases c_1_3 : a1 = 3
          · refine lv_tableIn (tgt := 98) (off := 97) X.1 X.2.1 dX2_performAddressed_1 (by rw [c_1_3]; decide) (by rw [c_1_3]; decide) (by rw [c_1_3]; decide) (by decide) ?_
            refine lv_aload_n X.1 X.2.1 dX2_performAddressed_98 rfl (lv_at hl 0 rfl) ?_
            refine lv_iload_n X.1 X.2.1 dX2_performAddressed_99 rfl (lv_at hl 2 rfl) ?_
            refine lv_aload_n X.1 X.2.1 dX2_performAddressed_100 rfl (lv_at hl 0 rfl) ?_
            refine G_X2_ac X hT Z dX2_performAddressed_101 ?_
            refine call_Vv X hT Z (qq := (RX2, TX2, 15)) k_X2_45 (c_X2_putWord l D cI q g mm a2 (g 0) ) rfl rfl hd_X2_putWord ⟨by decide, by decide⟩ ⟨rfl, rfl⟩ hl.1 (rest := []) rfl (Nat.le_of_ble_eq_true rfl) ⟨by decide, by decide⟩ dX2_performAddressed_104 (fun H locs Z => ?_)
            refine lv_aload_n X.1 X.2.1 dX2_performAddressed_107 rfl (lv_at hl 0 rfl) ?_
            refine lv_iconst (v := 0) X.1 X.2.1 dX2_performAddressed_108 (by decide) ?_
            refine P_X2_ac X hT Z dX2_performAddressed_109 (fun H locs Z => ?_)
            refine lv_goto (tgt := 140) X.1 X.2.1 dX2_performAddressed_112 (by decide) ?_
            exact K_140 (upd g 0 0) (mX2_putWord g mm a2 (g 0)) _ _ _ ((if_neg c_1_0).trans ((if_neg c_1_1).trans ((if_neg c_1_2).trans (if_pos c_1_3)))).symm ((if_neg c_1_0).trans ((if_neg c_1_1).trans ((if_neg c_1_2).trans (if_pos c_1_3)))).symm (lv_sub hl [0, 1, 2] rfl) Z
          · by_cases c_1_4 : a1 = 4
            · refine lv_tableIn (tgt := 115) (off := 114) X.1 X.2.1 dX2_performAddressed_1 (by rw [c_1_4]; decide) (by rw [c_1_4]; decide) (by rw [c_1_4]; decide) (by decide) ?_
              refine lv_aload_n X.1 X.2.1 dX2_performAddressed_115 rfl (lv_at hl 0 rfl) ?_
              refine lv_iload_n X.1 X.2.1 dX2_performAddressed_116 rfl (lv_at hl 2 rfl) ?_
              refine lv_aload_n X.1 X.2.1 dX2_performAddressed_117 rfl (lv_at hl 0 rfl) ?_
              refine G_X2_pc X hT Z dX2_performAddressed_118 ?_
              refine call_Vv X hT Z (qq := (RX2, TX2, 15)) k_X2_45 (c_X2_putWord l D cI q g mm a2 (g 2) ) rfl rfl hd_X2_putWord ⟨by decide, by decide⟩ ⟨rfl, rfl⟩ hl.1 (rest := []) rfl (Nat.le_of_ble_eq_true rfl) ⟨by decide, by decide⟩ dX2_performAddressed_121 (fun H locs Z => ?_)
              refine lv_aload_n X.1 X.2.1 dX2_performAddressed_124 rfl (lv_at hl 0 rfl) ?_
              refine lv_iload_n X.1 X.2.1 dX2_performAddressed_125 rfl (lv_at hl 2 rfl) ?_
              refine call_Si X hT Z k_X2_103 (c_X2_next l D cI (cw q cI g (mX2_putWord g mm a2 (g 2))) a2 ) hd_X2_next ⟨by decide, by decide⟩ ⟨rfl, rfl⟩ hl.1 (rest := [.ref (q 0)]) rfl (Nat.le_of_ble_eq_true rfl) ⟨by decide, by decide⟩ dX2_performAddressed_126 (fun H locs Z => ?_)
              refine P_X2_pc X hT Z dX2_performAddressed_129 (fun H locs Z => ?_)
              refine lv_goto (tgt := 140) X.1 X.2.1 dX2_performAddressed_132 (by decide) ?_
              exact K_140 (upd g 2 (rX2_next a2)) (mX2_putWord g mm a2 (g 2)) _ _ _ ((if_neg c_1_0).trans ((if_neg c_1_1).trans ((if_neg c_1_2).trans ((if_neg c_1_3).trans (if_pos c_1_4))))).symm ((if_neg c_1_0).trans ((if_neg c_1_1).trans ((if_neg c_1_2).trans ((if_neg c_1_3).trans (if_pos c_1_4))))).symm (lv_sub hl [0, 1, 2] rfl) Z
            · by_cases hsw : a1.toInt < 0 ∨ 4 < a1.toInt
              · refine lv_tableOut (tgt := 135) X.1 X.2.1 dX2_performAddressed_1 hsw (by decide) ?_
                refine lv_aload_n X.1 X.2.1 dX2_performAddressed_135 rfl (lv_at hl 0 rfl) ?_
                refine lv_iload_n X.1 X.2.1 dX2_performAddressed_136 rfl (lv_at hl 2 rfl) ?_
                refine P_X2_pc X hT Z dX2_performAddressed_137 (fun H locs Z => ?_)
                exact K_140 (upd g 2 a2) mm _ _ _ ((if_neg c_1_0).trans ((if_neg c_1_1).trans ((if_neg c_1_2).trans ((if_neg c_1_3).trans (if_neg c_1_4))))).symm ((if_neg c_1_0).trans ((if_neg c_1_1).trans ((if_neg c_1_2).trans ((if_neg c_1_3).trans (if_neg c_1_4))))).symm (lv_sub hl [0, 1, 2] rfl) Z
              · obtain ⟨j, hj, hx⟩ := sw_def hsw
                have hne : j ≠ 0 ∧ j ≠ 1 ∧ j ≠ 2 ∧ j ≠ 3 ∧ j ≠ 4 := ⟨(fun h => absurd (by omega) (lv_neT (a := 0) c_1_0 (by decide))), (fun h => absurd (by omega) (lv_neT (a := 1) c_1_1 (by decide))), (fun h => absurd (by omega) (lv_neT (a := 2) c_1_2 (by decide))), (fun h => absurd (by omega) (lv_neT (a := 3) c_1_3 (by decide))), (fun h => absurd (by omega) (lv_neT (a := 4) c_1_4 (by decide)))⟩
                omega
  intro j140_g j140_mm ls H locs e_j140_g e_j140_mm hl Z
  exact hret _ _ _ _ _ Z (cw_eq (by subst e_j140_g e_j140_mm; exact rfl) (by subst e_j140_g e_j140_mm; exact rfl)) dX2_performAddressed_140
def gX2_turnLeft (g : Nat → Int32) (mm : Nat → Nat → Int32) (a1 : Int32) : Nat → Int32 := (upd (upd g 1 (((((((g 1) <<< ((12 : Int32) &&& 31)) ||| (g 0)) <<< (a1 &&& 31)) ||| ((((g 1) <<< ((12 : Int32) &&& 31)) ||| (g 0)) >>> ((13 - a1) &&& 31))) &&& 8191) >>> ((12 : Int32) &&& 31))) 0 (((((((g 1) <<< ((12 : Int32) &&& 31)) ||| (g 0)) <<< (a1 &&& 31)) ||| ((((g 1) <<< ((12 : Int32) &&& 31)) ||| (g 0)) >>> ((13 - a1) &&& 31))) &&& 8191) &&& 4095))
set_option maxRecDepth 20000 in
set_option maxHeartbeats 4000000 in
theorem c_X2_turnLeft (l : Launch) (D : va_G) (cI : ClassId) (q : Nat → Nat) (g : Nat → Int32) (mm : Nat → Nat → Int32) (a1 : Int32)  : MI l D cI yX2_turnLeft (.code yX2_turnLeft cX2_turnLeft 4 none) ({ frames := 0, cells := 0, slots := 0, locals := 0 } : Room) [.ref (q 0), .int a1] (cw q cI g mm) (cw q cI (gX2_turnLeft g mm a1) mm) none := by
  refine MI.ofV (own := RX2) (by decide) rfl (Nat.le_of_ble_eq_true rfl) ?_
  intro p e s m args below meth c A ls Q X Z hl hret
  have hT : ∀ w ∈ TB, w ∈ (Cond.code yX2_turnLeft cX2_turnLeft 4 none :: TB) := fun _ h => List.mem_cons_of_mem _ h
  have hl : lv_has ls 4 [(0, .ref (q 0)), (1, .int a1)] := hl
  refine lv_aload_n X.1 X.2.1 dX2_turnLeft_0 rfl (lv_at hl 0 rfl) ?_
  refine G_X2_link X hT Z dX2_turnLeft_1 ?_
  refine lv_bipush (v := 12) X.1 X.2.1 dX2_turnLeft_4 (by decide) ?_
  refine lv_ishl X.1 X.2.1 dX2_turnLeft_6 ?_
  refine lv_aload_n X.1 X.2.1 dX2_turnLeft_7 rfl (lv_at hl 0 rfl) ?_
  refine G_X2_ac X hT Z dX2_turnLeft_8 ?_
  refine lv_ior X.1 X.2.1 dX2_turnLeft_11 ?_
  refine lv_istore_n (lv' := [(2, .int (((g 1) <<< ((12 : Int32) &&& 31)) ||| (g 0))), (0, .ref (q 0)), (1, .int a1)]) X.1 X.2.1 dX2_turnLeft_12 rfl hl (by decide) rfl (fun ls hl => ?_)
  refine lv_iload_n X.1 X.2.1 dX2_turnLeft_13 rfl (lv_at hl 0 rfl) ?_
  refine lv_iload_n X.1 X.2.1 dX2_turnLeft_14 rfl (lv_at hl 2 rfl) ?_
  refine lv_ishl X.1 X.2.1 dX2_turnLeft_15 ?_
  refine lv_iload_n X.1 X.2.1 dX2_turnLeft_16 rfl (lv_at hl 0 rfl) ?_
  refine lv_bipush (v := 13) X.1 X.2.1 dX2_turnLeft_17 (by decide) ?_
  refine lv_iload_n X.1 X.2.1 dX2_turnLeft_19 rfl (lv_at hl 2 rfl) ?_
  refine lv_isub X.1 X.2.1 dX2_turnLeft_20 ?_
  refine lv_ishr X.1 X.2.1 dX2_turnLeft_21 ?_
  refine lv_ior X.1 X.2.1 dX2_turnLeft_22 ?_
  refine lv_sipush (v := 8191) X.1 X.2.1 dX2_turnLeft_23 (by decide) ?_
  refine lv_iand X.1 X.2.1 dX2_turnLeft_26 ?_
  refine lv_istore_n (lv' := [(3, .int ((((((g 1) <<< ((12 : Int32) &&& 31)) ||| (g 0)) <<< (a1 &&& 31)) ||| ((((g 1) <<< ((12 : Int32) &&& 31)) ||| (g 0)) >>> ((13 - a1) &&& 31))) &&& 8191)), (2, .int (((g 1) <<< ((12 : Int32) &&& 31)) ||| (g 0))), (0, .ref (q 0)), (1, .int a1)]) X.1 X.2.1 dX2_turnLeft_27 rfl hl (by decide) rfl (fun ls hl => ?_)
  refine lv_aload_n X.1 X.2.1 dX2_turnLeft_28 rfl (lv_at hl 2 rfl) ?_
  refine lv_iload_n X.1 X.2.1 dX2_turnLeft_29 rfl (lv_at hl 0 rfl) ?_
  refine lv_bipush (v := 12) X.1 X.2.1 dX2_turnLeft_30 (by decide) ?_
  refine lv_ishr X.1 X.2.1 dX2_turnLeft_32 ?_
  refine P_X2_link X hT Z dX2_turnLeft_33 (fun H locs Z => ?_)
  refine lv_aload_n X.1 X.2.1 dX2_turnLeft_36 rfl (lv_at hl 2 rfl) ?_
  refine lv_iload_n X.1 X.2.1 dX2_turnLeft_37 rfl (lv_at hl 0 rfl) ?_
  refine lv_sipush (v := 4095) X.1 X.2.1 dX2_turnLeft_38 (by decide) ?_
  refine lv_iand X.1 X.2.1 dX2_turnLeft_41 ?_
  refine P_X2_ac X hT Z dX2_turnLeft_42 (fun H locs Z => ?_)
  exact hret _ _ _ _ _ Z (cw_eq rfl rfl) dX2_turnLeft_45
end
section
def uX2_performDevice_j311_g (g : Nat → Int32) (mm : Nat → Nat → Int32) (a1 : Int32) : Nat → Int32 := if a1 = 3073 then ((upd g 7 1)) else (if a1 = 3074 then ((upd (upd g 6 0) 7 0)) else (if a1 = 3096 then ((upd g 14 0)) else (if a1 = 3097 then ((gX2_skipIf g mm (g 14))) else (if a1 = 3098 then ((upd (upd (upd (upd g 0 0) 12 (tkX0_restart ((upd g 0 0) 11) ((upd g 0 0) 12) ((upd g 0 0) 13) ((upd g 0 0) 14) (mm 1))) 13 (bfX0_restart ((upd g 0 0) 11) ((upd g 0 0) 12) ((upd g 0 0) 13) ((upd g 0 0) 14) (mm 1))) 14 (flX0_restart ((upd g 0 0) 11) ((upd g 0 0) 12) ((upd g 0 0) 13) ((upd g 0 0) 14) (mm 1)))) else (if a1 = 3100 then ((upd g 0 ((g 0) ||| (g 13)))) else (if a1 = 3102 then ((upd (upd (upd (upd g 0 (g 13)) 12 (tkX0_restart ((upd g 0 (g 13)) 11) ((upd g 0 (g 13)) 12) ((upd g 0 (g 13)) 13) ((upd g 0 (g 13)) 14) (mm 1))) 13 (bfX0_restart ((upd g 0 (g 13)) 11) ((upd g 0 (g 13)) 12) ((upd g 0 (g 13)) 13) ((upd g 0 (g 13)) 14) (mm 1))) 14 (flX0_restart ((upd g 0 (g 13)) 11) ((upd g 0 (g 13)) 12) ((upd g 0 (g 13)) 13) ((upd g 0 (g 13)) 14) (mm 1)))) else (if a1 = 3105 then ((gX2_skipIf g mm (g 8))) else (if a1 = 3106 then ((upd g 8 0)) else (if a1 = 3108 then ((upd (upd g 15 (ctX1_add (g 15) (mm 2) ((g 0) &&& 255))) 8 1)) else (if a1 = 3110 then ((upd (upd g 15 (ctX1_add (g 15) (mm 2) ((g 0) &&& 255))) 8 1)) else (g)))))))))))
def uX2_performDevice_j311_mm (g : Nat → Int32) (mm : Nat → Nat → Int32) (a1 : Int32) : Nat → Nat → Int32 := if a1 = 3073 then (mm) else (if a1 = 3074 then (mm) else (if a1 = 3096 then (mm) else (if a1 = 3097 then (mm) else (if a1 = 3098 then (mm) else (if a1 = 3100 then (mm) else (if a1 = 3102 then (mm) else (if a1 = 3105 then (mm) else (if a1 = 3106 then (mm) else (if a1 = 3108 then ((va_up mm 2 (rwX1_add (g 15) (mm 2) ((g 0) &&& 255)))) else (if a1 = 3110 then ((va_up mm 2 (rwX1_add (g 15) (mm 2) ((g 0) &&& 255)))) else (mm)))))))))))
def gX2_performDevice (g : Nat → Int32) (mm : Nat → Nat → Int32) (a1 : Int32) : Nat → Int32 := let j311_g : Nat → Int32 := uX2_performDevice_j311_g g mm a1; j311_g
def mX2_performDevice (g : Nat → Int32) (mm : Nat → Nat → Int32) (a1 : Int32) : Nat → Nat → Int32 := let j311_mm : Nat → Nat → Int32 := uX2_performDevice_j311_mm g mm a1; j311_mm
set_option maxRecDepth 20000 in
set_option maxHeartbeats 4000000 in
theorem c_X2_performDevice (l : Launch) (D : va_G) (cI : ClassId) (q : Nat → Nat) (g : Nat → Int32) (mm : Nat → Nat → Int32) (a1 : Int32) (hq : Cq g) : MI l D cI yX2_performDevice (.code yX2_performDevice cX2_performDevice 2 none) ({ frames := 2, cells := 0, slots := 0, locals := 41 } : Room) [.ref (q 0), .int a1] (cw q cI g mm) (cw q cI (gX2_performDevice g mm a1) (mX2_performDevice g mm a1)) none := by
  refine MI.ofV (own := RX2) (by decide) rfl (Nat.le_of_ble_eq_true rfl) ?_
  intro p e s m args below meth c A ls Q X Z hl hret
  have hT : ∀ w ∈ TB, w ∈ (Cond.code yX2_performDevice cX2_performDevice 2 none :: TB) := fun _ h => List.mem_cons_of_mem _ h
  have hl : lv_has ls 2 [(0, .ref (q 0)), (1, .int a1)] := hl
  refine lv_iload_n X.1 X.2.1 dX2_performDevice_0 rfl (lv_at hl 1 rfl) ?_
  suffices K_311 : ∀ (j311_g : Nat → Int32) (j311_mm : Nat → Nat → Int32) (ls : Array Slot) (H : Heap) (locs : List Loc), j311_g = uX2_performDevice_j311_g g mm a1 → j311_mm = uX2_performDevice_j311_mm g mm a1 → lv_has ls 2 [(0, .ref (q 0)), (1, .int a1)] → ZZ D cI (cw q cI j311_g j311_mm) A s H locs → W p l e ({ frames := 2, cells := 0, slots := 0, locals := 41 } : Room) s m args below meth c H locs 0 0 Q (F0 m 311 ls []) by
    by_cases c_1_3073 : a1 = 3073
    · refine lv_tableIn (tgt := 168) (off := 167) X.1 X.2.1 dX2_performDevice_1 (by rw [c_1_3073]; decide) (by rw [c_1_3073]; decide) (by rw [c_1_3073]; decide) (by decide) ?_
      refine lv_aload_n X.1 X.2.1 dX2_performDevice_168 rfl (lv_at hl 0 rfl) ?_
      refine lv_iconst (v := 1) X.1 X.2.1 dX2_performDevice_169 (by decide) ?_
      refine P_X2_delay X hT Z ⟨rfl, rfl⟩ dX2_performDevice_170 (fun H locs Z => ?_)
      refine lv_goto (tgt := 311) X.1 X.2.1 dX2_performDevice_173 (by decide) ?_
      exact K_311 (upd g 7 1) mm _ _ _ (if_pos c_1_3073).symm (if_pos c_1_3073).symm (lv_sub hl [0, 1] rfl) Z
    · by_cases c_1_3074 : a1 = 3074
      · refine lv_tableIn (tgt := 176) (off := 175) X.1 X.2.1 dX2_performDevice_1 (by rw [c_1_3074]; decide) (by rw [c_1_3074]; decide) (by rw [c_1_3074]; decide) (by decide) ?_
        refine lv_aload_n X.1 X.2.1 dX2_performDevice_176 rfl (lv_at hl 0 rfl) ?_
        refine lv_iconst (v := 0) X.1 X.2.1 dX2_performDevice_177 (by decide) ?_
        refine P_X2_ion X hT Z ⟨rfl, rfl⟩ dX2_performDevice_178 (fun H locs Z => ?_)
        refine lv_aload_n X.1 X.2.1 dX2_performDevice_181 rfl (lv_at hl 0 rfl) ?_
        refine lv_iconst (v := 0) X.1 X.2.1 dX2_performDevice_182 (by decide) ?_
        refine P_X2_delay X hT Z ⟨rfl, rfl⟩ dX2_performDevice_183 (fun H locs Z => ?_)
        refine lv_goto (tgt := 311) X.1 X.2.1 dX2_performDevice_186 (by decide) ?_
        exact K_311 (upd (upd g 6 0) 7 0) mm _ _ _ ((if_neg c_1_3073).trans (if_pos c_1_3074)).symm ((if_neg c_1_3073).trans (if_pos c_1_3074)).symm (lv_sub hl [0, 1] rfl) Z
      · by_cases c_1_3096 : a1 = 3096
        · refine lv_tableIn (tgt := 189) (off := 188) X.1 X.2.1 dX2_performDevice_1 (by rw [c_1_3096]; decide) (by rw [c_1_3096]; decide) (by rw [c_1_3096]; decide) (by decide) ?_
          refine lv_aload_n X.1 X.2.1 dX2_performDevice_189 rfl (lv_at hl 0 rfl) ?_
          refine G_X2_reader X hT Z dX2_performDevice_190 ?_
          refine lv_iconst (v := 0) X.1 X.2.1 dX2_performDevice_193 (by decide) ?_
          refine P_X2_r_flag X hT Z ⟨rfl, rfl⟩ dX2_performDevice_194 (fun H locs Z => ?_)
          refine lv_goto (tgt := 311) X.1 X.2.1 dX2_performDevice_197 (by decide) ?_
          exact K_311 (upd g 14 0) mm _ _ _ ((if_neg c_1_3073).trans ((if_neg c_1_3074).trans (if_pos c_1_3096))).symm ((if_neg c_1_3073).trans ((if_neg c_1_3074).trans (if_pos c_1_3096))).symm (lv_sub hl [0, 1] rfl) Z
        · by_cases c_1_3097 : a1 = 3097
          · refine lv_tableIn (tgt := 200) (off := 199) X.1 X.2.1 dX2_performDevice_1 (by rw [c_1_3097]; decide) (by rw [c_1_3097]; decide) (by rw [c_1_3097]; decide) (by decide) ?_
            refine lv_aload_n X.1 X.2.1 dX2_performDevice_200 rfl (lv_at hl 0 rfl) ?_
            refine lv_aload_n X.1 X.2.1 dX2_performDevice_201 rfl (lv_at hl 0 rfl) ?_
            refine G_X2_reader X hT Z dX2_performDevice_202 ?_
            refine G_X2_r_flag X hT Z dX2_performDevice_205 ?_
            refine call_Vv X hT Z (qq := (RX2, TX2, 15)) k_X2_140 (c_X2_skipIf l D cI q g mm (g 14) ) rfl rfl hd_X2_skipIf ⟨by decide, by decide⟩ ⟨rfl, rfl⟩ hl.1 (rest := []) rfl (Nat.le_of_ble_eq_true rfl) ⟨by decide, by decide⟩ dX2_performDevice_208 (fun H locs Z => ?_)
            refine lv_goto (tgt := 311) X.1 X.2.1 dX2_performDevice_211 (by decide) ?_
            exact K_311 (gX2_skipIf g mm (g 14)) mm _ _ _ ((if_neg c_1_3073).trans ((if_neg c_1_3074).trans ((if_neg c_1_3096).trans (if_pos c_1_3097)))).symm ((if_neg c_1_3073).trans ((if_neg c_1_3074).trans ((if_neg c_1_3096).trans (if_pos c_1_3097)))).symm (lv_sub hl [0, 1] rfl) Z
          · by_cases c_1_3098 : a1 = 3098
            · refine lv_tableIn (tgt := 214) (off := 213) X.1 X.2.1 dX2_performDevice_1 (by rw [c_1_3098]; decide) (by rw [c_1_3098]; decide) (by rw [c_1_3098]; decide) (by decide) ?_
              refine lv_aload_n X.1 X.2.1 dX2_performDevice_214 rfl (lv_at hl 0 rfl) ?_
              refine lv_iconst (v := 0) X.1 X.2.1 dX2_performDevice_215 (by decide) ?_
              refine P_X2_ac X hT Z dX2_performDevice_216 (fun H locs Z => ?_)
              refine lv_aload_n X.1 X.2.1 dX2_performDevice_219 rfl (lv_at hl 0 rfl) ?_
              refine G_X2_reader X hT Z dX2_performDevice_220 ?_
              refine call_Nv X hT Z (wc := rdw (q 2) (q 5) cI ((upd g 0 0) 11) ((upd g 0 0) 12) ((upd g 0 0) 13) ((upd g 0 0) 14) (mm 1)) (wr := [(q 0, .inr (2, [.ref (q 1), .ref (q 2), .ref (q 3), .ref (q 4), .int ((upd g 0 0) 0), .int ((upd g 0 0) 1), .int ((upd g 0 0) 2), .int ((upd g 0 0) 3), .int ((upd g 0 0) 4), .int ((upd g 0 0) 5), .int ((upd g 0 0) 6), .int ((upd g 0 0) 7), .int ((upd g 0 0) 8), .int ((upd g 0 0) 9), .int ((upd g 0 0) 10)])), (q 1, .inl (cI, 4096, .inl (mm 0))), (q 3, .inr (1, [.ref (q 6), .int ((upd g 0 0) 15)])), (q 6, .inl (cI, 64, .inl (mm 2))), (q 4, .inr (1, [.ref (q 7), .int ((upd g 0 0) 16)])), (q 7, .inl (cI, 64, .inl (mm 3)))]) [2, 3] [0, 1, 4, 5, 6, 7] rfl rfl rfl rfl (by decide) (qq := (RX0, TX0, 5)) k_X2_144 (c_X0_restart l D cI (q 2) (q 5) ((upd g 0 0) 11) ((upd g 0 0) 12) ((upd g 0 0) 13) ((upd g 0 0) 14) (mm 1) hq) rfl rfl hd_X0_restart ⟨by decide, by decide⟩ ⟨rfl, rfl⟩ hl.1 (rest := []) rfl (Nat.le_of_ble_eq_true rfl) ⟨by decide, by decide⟩ dX2_performDevice_223 (fun H locs Z => ?_)
              have Z := Z.perm (ws' := cw q cI (upd (upd (upd (upd g 0 0) 12 (tkX0_restart ((upd g 0 0) 11) ((upd g 0 0) 12) ((upd g 0 0) 13) ((upd g 0 0) 14) (mm 1))) 13 (bfX0_restart ((upd g 0 0) 11) ((upd g 0 0) 12) ((upd g 0 0) 13) ((upd g 0 0) 14) (mm 1))) 14 (flX0_restart ((upd g 0 0) 11) ((upd g 0 0) 12) ((upd g 0 0) 13) ((upd g 0 0) 14) (mm 1))) mm) [0, 1, 6, 7, 2, 3, 4, 5] rfl rfl
              refine lv_goto (tgt := 311) X.1 X.2.1 dX2_performDevice_226 (by decide) ?_
              exact K_311 (upd (upd (upd (upd g 0 0) 12 (tkX0_restart ((upd g 0 0) 11) ((upd g 0 0) 12) ((upd g 0 0) 13) ((upd g 0 0) 14) (mm 1))) 13 (bfX0_restart ((upd g 0 0) 11) ((upd g 0 0) 12) ((upd g 0 0) 13) ((upd g 0 0) 14) (mm 1))) 14 (flX0_restart ((upd g 0 0) 11) ((upd g 0 0) 12) ((upd g 0 0) 13) ((upd g 0 0) 14) (mm 1))) mm _ _ _ ((if_neg c_1_3073).trans ((if_neg c_1_3074).trans ((if_neg c_1_3096).trans ((if_neg c_1_3097).trans (if_pos c_1_3098))))).symm ((if_neg c_1_3073).trans ((if_neg c_1_3074).trans ((if_neg c_1_3096).trans ((if_neg c_1_3097).trans (if_pos c_1_3098))))).symm (lv_sub hl [0, 1] rfl) Z
            · by_cases c_1_3100 : a1 = 3100
              · refine lv_tableIn (tgt := 229) (off := 228) X.1 X.2.1 dX2_performDevice_1 (by rw [c_1_3100]; decide) (by rw [c_1_3100]; decide) (by rw [c_1_3100]; decide) (by decide) ?_
                refine lv_aload_n X.1 X.2.1 dX2_performDevice_229 rfl (lv_at hl 0 rfl) ?_
                refine lv_dup X.1 X.2.1 dX2_performDevice_230 rfl ?_
                refine G_X2_ac X hT Z dX2_performDevice_231 ?_
                refine lv_aload_n X.1 X.2.1 dX2_performDevice_234 rfl (lv_at hl 0 rfl) ?_
                refine G_X2_reader X hT Z dX2_performDevice_235 ?_
                refine G_X2_r_buffer X hT Z dX2_performDevice_238 ?_
                refine lv_ior X.1 X.2.1 dX2_performDevice_241 ?_
                refine P_X2_ac X hT Z dX2_performDevice_242 (fun H locs Z => ?_)
                refine lv_goto (tgt := 311) X.1 X.2.1 dX2_performDevice_245 (by decide) ?_
                exact K_311 (upd g 0 ((g 0) ||| (g 13))) mm _ _ _ ((if_neg c_1_3073).trans ((if_neg c_1_3074).trans ((if_neg c_1_3096).trans ((if_neg c_1_3097).trans ((if_neg c_1_3098).trans (if_pos c_1_3100)))))).symm ((if_neg c_1_3073).trans ((if_neg c_1_3074).trans ((if_neg c_1_3096).trans ((if_neg c_1_3097).trans ((if_neg c_1_3098).trans (if_pos c_1_3100)))))).symm (lv_sub hl [0, 1] rfl) Z
              · by_cases c_1_3102 : a1 = 3102
                · refine lv_tableIn (tgt := 248) (off := 247) X.1 X.2.1 dX2_performDevice_1 (by rw [c_1_3102]; decide) (by rw [c_1_3102]; decide) (by rw [c_1_3102]; decide) (by decide) ?_
                  refine lv_aload_n X.1 X.2.1 dX2_performDevice_248 rfl (lv_at hl 0 rfl) ?_
                  refine lv_aload_n X.1 X.2.1 dX2_performDevice_249 rfl (lv_at hl 0 rfl) ?_
                  refine G_X2_reader X hT Z dX2_performDevice_250 ?_
                  refine G_X2_r_buffer X hT Z dX2_performDevice_253 ?_
                  refine P_X2_ac X hT Z dX2_performDevice_256 (fun H locs Z => ?_)
                  refine lv_aload_n X.1 X.2.1 dX2_performDevice_259 rfl (lv_at hl 0 rfl) ?_
                  refine G_X2_reader X hT Z dX2_performDevice_260 ?_
                  refine call_Nv X hT Z (wc := rdw (q 2) (q 5) cI ((upd g 0 (g 13)) 11) ((upd g 0 (g 13)) 12) ((upd g 0 (g 13)) 13) ((upd g 0 (g 13)) 14) (mm 1)) (wr := [(q 0, .inr (2, [.ref (q 1), .ref (q 2), .ref (q 3), .ref (q 4), .int ((upd g 0 (g 13)) 0), .int ((upd g 0 (g 13)) 1), .int ((upd g 0 (g 13)) 2), .int ((upd g 0 (g 13)) 3), .int ((upd g 0 (g 13)) 4), .int ((upd g 0 (g 13)) 5), .int ((upd g 0 (g 13)) 6), .int ((upd g 0 (g 13)) 7), .int ((upd g 0 (g 13)) 8), .int ((upd g 0 (g 13)) 9), .int ((upd g 0 (g 13)) 10)])), (q 1, .inl (cI, 4096, .inl (mm 0))), (q 3, .inr (1, [.ref (q 6), .int ((upd g 0 (g 13)) 15)])), (q 6, .inl (cI, 64, .inl (mm 2))), (q 4, .inr (1, [.ref (q 7), .int ((upd g 0 (g 13)) 16)])), (q 7, .inl (cI, 64, .inl (mm 3)))]) [2, 3] [0, 1, 4, 5, 6, 7] rfl rfl rfl rfl (by decide) (qq := (RX0, TX0, 5)) k_X2_144 (c_X0_restart l D cI (q 2) (q 5) ((upd g 0 (g 13)) 11) ((upd g 0 (g 13)) 12) ((upd g 0 (g 13)) 13) ((upd g 0 (g 13)) 14) (mm 1) hq) rfl rfl hd_X0_restart ⟨by decide, by decide⟩ ⟨rfl, rfl⟩ hl.1 (rest := []) rfl (Nat.le_of_ble_eq_true rfl) ⟨by decide, by decide⟩ dX2_performDevice_263 (fun H locs Z => ?_)
                  have Z := Z.perm (ws' := cw q cI (upd (upd (upd (upd g 0 (g 13)) 12 (tkX0_restart ((upd g 0 (g 13)) 11) ((upd g 0 (g 13)) 12) ((upd g 0 (g 13)) 13) ((upd g 0 (g 13)) 14) (mm 1))) 13 (bfX0_restart ((upd g 0 (g 13)) 11) ((upd g 0 (g 13)) 12) ((upd g 0 (g 13)) 13) ((upd g 0 (g 13)) 14) (mm 1))) 14 (flX0_restart ((upd g 0 (g 13)) 11) ((upd g 0 (g 13)) 12) ((upd g 0 (g 13)) 13) ((upd g 0 (g 13)) 14) (mm 1))) mm) [0, 1, 6, 7, 2, 3, 4, 5] rfl rfl
                  refine lv_goto (tgt := 311) X.1 X.2.1 dX2_performDevice_266 (by decide) ?_
                  exact K_311 (upd (upd (upd (upd g 0 (g 13)) 12 (tkX0_restart ((upd g 0 (g 13)) 11) ((upd g 0 (g 13)) 12) ((upd g 0 (g 13)) 13) ((upd g 0 (g 13)) 14) (mm 1))) 13 (bfX0_restart ((upd g 0 (g 13)) 11) ((upd g 0 (g 13)) 12) ((upd g 0 (g 13)) 13) ((upd g 0 (g 13)) 14) (mm 1))) 14 (flX0_restart ((upd g 0 (g 13)) 11) ((upd g 0 (g 13)) 12) ((upd g 0 (g 13)) 13) ((upd g 0 (g 13)) 14) (mm 1))) mm _ _ _ ((if_neg c_1_3073).trans ((if_neg c_1_3074).trans ((if_neg c_1_3096).trans ((if_neg c_1_3097).trans ((if_neg c_1_3098).trans ((if_neg c_1_3100).trans (if_pos c_1_3102))))))).symm ((if_neg c_1_3073).trans ((if_neg c_1_3074).trans ((if_neg c_1_3096).trans ((if_neg c_1_3097).trans ((if_neg c_1_3098).trans ((if_neg c_1_3100).trans (if_pos c_1_3102))))))).symm (lv_sub hl [0, 1] rfl) Z
                · by_cases c_1_3105 : a1 = 3105
                  · refine lv_tableIn (tgt := 269) (off := 268) X.1 X.2.1 dX2_performDevice_1 (by rw [c_1_3105]; decide) (by rw [c_1_3105]; decide) (by rw [c_1_3105]; decide) (by decide) ?_
                    refine lv_aload_n X.1 X.2.1 dX2_performDevice_269 rfl (lv_at hl 0 rfl) ?_
                    refine lv_aload_n X.1 X.2.1 dX2_performDevice_270 rfl (lv_at hl 0 rfl) ?_
                    refine G_X2_printerFlag X hT Z dX2_performDevice_271 ?_
                    refine call_Vv X hT Z (qq := (RX2, TX2, 15)) k_X2_140 (c_X2_skipIf l D cI q g mm (g 8) ) rfl rfl hd_X2_skipIf ⟨by decide, by decide⟩ ⟨rfl, rfl⟩ hl.1 (rest := []) rfl (Nat.le_of_ble_eq_true rfl) ⟨by decide, by decide⟩ dX2_performDevice_274 (fun H locs Z => ?_)
                    refine lv_goto (tgt := 311) X.1 X.2.1 dX2_performDevice_277 (by decide) ?_
                    exact K_311 (gX2_skipIf g mm (g 8)) mm _ _ _ ((if_neg c_1_3073).trans ((if_neg c_1_3074).trans ((if_neg c_1_3096).trans ((if_neg c_1_3097).trans ((if_neg c_1_3098).trans ((if_neg c_1_3100).trans ((if_neg c_1_3102).trans (if_pos c_1_3105)))))))).symm ((if_neg c_1_3073).trans ((if_neg c_1_3074).trans ((if_neg c_1_3096).trans ((if_neg c_1_3097).trans ((if_neg c_1_3098).trans ((if_neg c_1_3100).trans ((if_neg c_1_3102).trans (if_pos c_1_3105)))))))).symm (lv_sub hl [0, 1] rfl) Z
                  · by_cases c_1_3106 : a1 = 3106
                    · refine lv_tableIn (tgt := 280) (off := 279) X.1 X.2.1 dX2_performDevice_1 (by rw [c_1_3106]; decide) (by rw [c_1_3106]; decide) (by rw [c_1_3106]; decide) (by decide) ?_
                      refine lv_aload_n X.1 X.2.1 dX2_performDevice_280 rfl (lv_at hl 0 rfl) ?_
                      refine lv_iconst (v := 0) X.1 X.2.1 dX2_performDevice_281 (by decide) ?_
                      refine P_X2_printerFlag X hT Z ⟨rfl, rfl⟩ dX2_performDevice_282 (fun H locs Z => ?_)
                      refine lv_goto (tgt := 311) X.1 X.2.1 dX2_performDevice_285 (by decide) ?_
                      exact K_311 (upd g 8 0) mm _ _ _ ((if_neg c_1_3073).trans ((if_neg c_1_3074).trans ((if_neg c_1_3096).trans ((if_neg c_1_3097).trans ((if_neg c_1_3098).trans ((if_neg c_1_3100).trans ((if_neg c_1_3102).trans ((if_neg c_1_3105).trans (if_pos c_1_3106))))))))).symm ((if_neg c_1_3073).trans ((if_neg c_1_3074).trans ((if_neg c_1_3096).trans ((if_neg c_1_3097).trans ((if_neg c_1_3098).trans ((if_neg c_1_3100).trans ((if_neg c_1_3102).trans ((if_neg c_1_3105).trans (if_pos c_1_3106))))))))).symm (lv_sub hl [0, 1] rfl) Z
                    · by_cases c_1_3108 : a1 = 3108
                      · refine lv_tableIn (tgt := 288) (off := 287) X.1 X.2.1 dX2_performDevice_1 (by rw [c_1_3108]; decide) (by rw [c_1_3108]; decide) (by rw [c_1_3108]; decide) (by decide) ?_
                        refine lv_aload_n X.1 X.2.1 dX2_performDevice_288 rfl (lv_at hl 0 rfl) ?_
                        refine G_X2_prints X hT Z dX2_performDevice_289 ?_
                        refine lv_aload_n X.1 X.2.1 dX2_performDevice_292 rfl (lv_at hl 0 rfl) ?_
                        refine G_X2_ac X hT Z dX2_performDevice_293 ?_
                        refine lv_sipush (v := 255) X.1 X.2.1 dX2_performDevice_296 (by decide) ?_
                        refine lv_iand X.1 X.2.1 dX2_performDevice_299 ?_
                        refine call_Nv X hT Z (wc := rcw (q 3) (q 6) cI (g 15) (mm 2)) (wr := [(q 0, .inr (2, [.ref (q 1), .ref (q 2), .ref (q 3), .ref (q 4), .int (g 0), .int (g 1), .int (g 2), .int (g 3), .int (g 4), .int (g 5), .int (g 6), .int (g 7), .int (g 8), .int (g 9), .int (g 10)])), (q 1, .inl (cI, 4096, .inl (mm 0))), (q 2, .inr (0, [.ref (q 5), .int (g 11), .int (g 12), .int (g 13), .int (g 14)])), (q 5, .inl (cI, 400, .inl (mm 1))), (q 4, .inr (1, [.ref (q 7), .int (g 16)])), (q 7, .inl (cI, 64, .inl (mm 3)))]) [4, 5] [0, 1, 2, 3, 6, 7] rfl rfl rfl rfl (by decide) (qq := (RX1, TX1, 2)) k_X2_109 (c_X1_add l D cI (q 3) (q 6) (g 15) (mm 2) ((g 0) &&& 255) ) rfl rfl hd_X1_add ⟨by decide, by decide⟩ ⟨rfl, rfl⟩ hl.1 (rest := []) rfl (Nat.le_of_ble_eq_true rfl) ⟨by decide, by decide⟩ dX2_performDevice_300 (fun H locs Z => ?_)
                        have Z := Z.perm (ws' := cw q cI (upd g 15 (ctX1_add (g 15) (mm 2) ((g 0) &&& 255))) (va_up mm 2 (rwX1_add (g 15) (mm 2) ((g 0) &&& 255)))) [0, 1, 2, 3, 6, 7, 4, 5] rfl rfl
                        refine lv_aload_n X.1 X.2.1 dX2_performDevice_303 rfl (lv_at hl 0 rfl) ?_
                        refine lv_iconst (v := 1) X.1 X.2.1 dX2_performDevice_304 (by decide) ?_
                        refine P_X2_printerFlag X hT Z ⟨rfl, rfl⟩ dX2_performDevice_305 (fun H locs Z => ?_)
                        refine lv_goto (tgt := 311) X.1 X.2.1 dX2_performDevice_308 (by decide) ?_
                        exact K_311 (upd (upd g 15 (ctX1_add (g 15) (mm 2) ((g 0) &&& 255))) 8 1) (va_up mm 2 (rwX1_add (g 15) (mm 2) ((g 0) &&& 255))) _ _ _ ((if_neg c_1_3073).trans ((if_neg c_1_3074).trans ((if_neg c_1_3096).trans ((if_neg c_1_3097).trans ((if_neg c_1_3098).trans ((if_neg c_1_3100).trans ((if_neg c_1_3102).trans ((if_neg c_1_3105).trans ((if_neg c_1_3106).trans (if_pos c_1_3108)))))))))).symm ((if_neg c_1_3073).trans ((if_neg c_1_3074).trans ((if_neg c_1_3096).trans ((if_neg c_1_3097).trans ((if_neg c_1_3098).trans ((if_neg c_1_3100).trans ((if_neg c_1_3102).trans ((if_neg c_1_3105).trans ((if_neg c_1_3106).trans (if_pos c_1_3108)))))))))).symm (lv_sub hl [0, 1] rfl) Z
                      · by_cases c_1_3110 : a1 = 3110
                        · refine lv_tableIn (tgt := 288) (off := 287) X.1 X.2.1 dX2_performDevice_1 (by rw [c_1_3110]; decide) (by rw [c_1_3110]; decide) (by rw [c_1_3110]; decide) (by decide) ?_
                          refine lv_aload_n X.1 X.2.1 dX2_performDevice_288 rfl (lv_at hl 0 rfl) ?_
                          refine G_X2_prints X hT Z dX2_performDevice_289 ?_
                          refine lv_aload_n X.1 X.2.1 dX2_performDevice_292 rfl (lv_at hl 0 rfl) ?_
                          refine G_X2_ac X hT Z dX2_performDevice_293 ?_
                          refine lv_sipush (v := 255) X.1 X.2.1 dX2_performDevice_296 (by decide) ?_
                          refine lv_iand X.1 X.2.1 dX2_performDevice_299 ?_
                          refine call_Nv X hT Z (wc := rcw (q 3) (q 6) cI (g 15) (mm 2)) (wr := [(q 0, .inr (2, [.ref (q 1), .ref (q 2), .ref (q 3), .ref (q 4), .int (g 0), .int (g 1), .int (g 2), .int (g 3), .int (g 4), .int (g 5), .int (g 6), .int (g 7), .int (g 8), .int (g 9), .int (g 10)])), (q 1, .inl (cI, 4096, .inl (mm 0))), (q 2, .inr (0, [.ref (q 5), .int (g 11), .int (g 12), .int (g 13), .int (g 14)])), (q 5, .inl (cI, 400, .inl (mm 1))), (q 4, .inr (1, [.ref (q 7), .int (g 16)])), (q 7, .inl (cI, 64, .inl (mm 3)))]) [4, 5] [0, 1, 2, 3, 6, 7] rfl rfl rfl rfl (by decide) (qq := (RX1, TX1, 2)) k_X2_109 (c_X1_add l D cI (q 3) (q 6) (g 15) (mm 2) ((g 0) &&& 255) ) rfl rfl hd_X1_add ⟨by decide, by decide⟩ ⟨rfl, rfl⟩ hl.1 (rest := []) rfl (Nat.le_of_ble_eq_true rfl) ⟨by decide, by decide⟩ dX2_performDevice_300 (fun H locs Z => ?_)
                          have Z := Z.perm (ws' := cw q cI (upd g 15 (ctX1_add (g 15) (mm 2) ((g 0) &&& 255))) (va_up mm 2 (rwX1_add (g 15) (mm 2) ((g 0) &&& 255)))) [0, 1, 2, 3, 6, 7, 4, 5] rfl rfl
                          refine lv_aload_n X.1 X.2.1 dX2_performDevice_303 rfl (lv_at hl 0 rfl) ?_
                          refine lv_iconst (v := 1) X.1 X.2.1 dX2_performDevice_304 (by decide) ?_
                          refine P_X2_printerFlag X hT Z ⟨rfl, rfl⟩ dX2_performDevice_305 (fun H locs Z => ?_)
                          refine lv_goto (tgt := 311) X.1 X.2.1 dX2_performDevice_308 (by decide) ?_
                          exact K_311 (upd (upd g 15 (ctX1_add (g 15) (mm 2) ((g 0) &&& 255))) 8 1) (va_up mm 2 (rwX1_add (g 15) (mm 2) ((g 0) &&& 255))) _ _ _ ((if_neg c_1_3073).trans ((if_neg c_1_3074).trans ((if_neg c_1_3096).trans ((if_neg c_1_3097).trans ((if_neg c_1_3098).trans ((if_neg c_1_3100).trans ((if_neg c_1_3102).trans ((if_neg c_1_3105).trans ((if_neg c_1_3106).trans ((if_neg c_1_3108).trans (if_pos c_1_3110))))))))))).symm ((if_neg c_1_3073).trans ((if_neg c_1_3074).trans ((if_neg c_1_3096).trans ((if_neg c_1_3097).trans ((if_neg c_1_3098).trans ((if_neg c_1_3100).trans ((if_neg c_1_3102).trans ((if_neg c_1_3105).trans ((if_neg c_1_3106).trans ((if_neg c_1_3108).trans (if_pos c_1_3110))))))))))).symm (lv_sub hl [0, 1] rfl) Z
                        · by_cases hsw : a1.toInt < 3073 ∨ 3110 < a1.toInt
                          · refine lv_tableOut (tgt := 311) X.1 X.2.1 dX2_performDevice_1 hsw (by decide) ?_
                            exact K_311 g mm _ _ _ ((if_neg c_1_3073).trans ((if_neg c_1_3074).trans ((if_neg c_1_3096).trans ((if_neg c_1_3097).trans ((if_neg c_1_3098).trans ((if_neg c_1_3100).trans ((if_neg c_1_3102).trans ((if_neg c_1_3105).trans ((if_neg c_1_3106).trans ((if_neg c_1_3108).trans (if_neg c_1_3110))))))))))).symm ((if_neg c_1_3073).trans ((if_neg c_1_3074).trans ((if_neg c_1_3096).trans ((if_neg c_1_3097).trans ((if_neg c_1_3098).trans ((if_neg c_1_3100).trans ((if_neg c_1_3102).trans ((if_neg c_1_3105).trans ((if_neg c_1_3106).trans ((if_neg c_1_3108).trans (if_neg c_1_3110))))))))))).symm (lv_sub hl [0, 1] rfl) Z
                          · obtain ⟨j, hj, hx⟩ := sw_def hsw
                            have hne : j ≠ 0 ∧ j ≠ 1 ∧ j ≠ 23 ∧ j ≠ 24 ∧ j ≠ 25 ∧ j ≠ 27 ∧ j ≠ 29 ∧ j ≠ 32 ∧ j ≠ 33 ∧ j ≠ 35 ∧ j ≠ 37 := ⟨(fun h => absurd (by omega) (lv_neT (a := 3073) c_1_3073 (by decide))), (fun h => absurd (by omega) (lv_neT (a := 3074) c_1_3074 (by decide))), (fun h => absurd (by omega) (lv_neT (a := 3096) c_1_3096 (by decide))), (fun h => absurd (by omega) (lv_neT (a := 3097) c_1_3097 (by decide))), (fun h => absurd (by omega) (lv_neT (a := 3098) c_1_3098 (by decide))), (fun h => absurd (by omega) (lv_neT (a := 3100) c_1_3100 (by decide))), (fun h => absurd (by omega) (lv_neT (a := 3102) c_1_3102 (by decide))), (fun h => absurd (by omega) (lv_neT (a := 3105) c_1_3105 (by decide))), (fun h => absurd (by omega) (lv_neT (a := 3106) c_1_3106 (by decide))), (fun h => absurd (by omega) (lv_neT (a := 3108) c_1_3108 (by decide))), (fun h => absurd (by omega) (lv_neT (a := 3110) c_1_3110 (by decide)))⟩
                            have hsv : ∀ j : Nat, j < 38 → (j ≠ 0 ∧ j ≠ 1 ∧ j ≠ 23 ∧ j ≠ 24 ∧ j ≠ 25 ∧ j ≠ 27 ∧ j ≠ 29 ∧ j ≠ 32 ∧ j ≠ 33 ∧ j ≠ 35 ∧ j ≠ 37) → (#[167, 175, 310, 310, 310, 310, 310, 310, 310, 310, 310, 310, 310, 310, 310, 310, 310, 310, 310, 310, 310, 310, 310, 188, 199, 213, 310, 228, 310, 247, 310, 310, 268, 279, 310, 287, 310, 287] : Array Int)[j]? = some 310 := by decide
                            refine lv_tableIn (tgt := 311) (off := 310) X.1 X.2.1 dX2_performDevice_1 (by omega) (by omega) (by rw [show (a1.toInt - 3073).toNat = j by omega]; exact hsv j (by omega) hne) (by decide) ?_
                            exact K_311 g mm _ _ _ ((if_neg c_1_3073).trans ((if_neg c_1_3074).trans ((if_neg c_1_3096).trans ((if_neg c_1_3097).trans ((if_neg c_1_3098).trans ((if_neg c_1_3100).trans ((if_neg c_1_3102).trans ((if_neg c_1_3105).trans ((if_neg c_1_3106).trans ((if_neg c_1_3108).trans (if_neg c_1_3110))))))))))).symm ((if_neg c_1_3073).trans ((if_neg c_1_3074).trans ((if_neg c_1_3096).trans ((if_neg c_1_3097).trans ((if_neg c_1_3098).trans ((if_neg c_1_3100).trans ((if_neg c_1_3102).trans ((if_neg c_1_3105).trans ((if_neg c_1_3106).trans ((if_neg c_1_3108).trans (if_neg c_1_3110))))))))))).symm (lv_sub hl [0, 1] rfl) Z
  intro j311_g j311_mm ls H locs e_j311_g e_j311_mm hl Z
  exact hret _ _ _ _ _ Z (cw_eq (by subst e_j311_g e_j311_mm; exact rfl) (by subst e_j311_g e_j311_mm; exact rfl)) dX2_performDevice_311
def uX2_changeAccumulator_j15_g (g : Nat → Int32) (a1 : Int32) : Nat → Int32 := if (rX2_has a1 128) = 0 then (g) else ((upd g 0 0))
def uX2_changeAccumulator_j29_g (a1 : Int32) (j15_g : Nat → Int32) : Nat → Int32 := if (rX2_has a1 64) = 0 then (j15_g) else ((upd j15_g 1 0))
def uX2_changeAccumulator_j50_g (a1 : Int32) (j29_g : Nat → Int32) : Nat → Int32 := if (rX2_has a1 32) = 0 then (j29_g) else ((upd j29_g 0 ((j29_g 0) ^^^ 4095)))
def uX2_changeAccumulator_j69_g (a1 : Int32) (j50_g : Nat → Int32) : Nat → Int32 := if (rX2_has a1 16) = 0 then (j50_g) else ((upd j50_g 1 ((j50_g 1) ^^^ 1)))
def uX2_changeAccumulator_j82_g (mm : Nat → Nat → Int32) (a1 : Int32) (j69_g : Nat → Int32) : Nat → Int32 := if (rX2_has a1 1) = 0 then (j69_g) else ((gX2_add j69_g mm 1))
def uX2_changeAccumulator_j95_s0 (a1 : Int32) : Int32 := if (rX2_has a1 2) = 0 then (1) else (2)
def uX2_changeAccumulator_j144_g (mm : Nat → Nat → Int32) (a1 : Int32) (j82_g : Nat → Int32) (j95_s0 : Int32) : Nat → Int32 := if (rX2_has a1 4) = 0 then (if (rX2_has a1 8) = 0 then (j82_g) else (if (rX2_has a1 4) = 0 then ((gX2_turnLeft j82_g mm (13 - j95_s0))) else (j82_g))) else (if (rX2_has a1 8) = 0 then ((gX2_turnLeft j82_g mm j95_s0)) else (if (rX2_has a1 8) = 0 then (j82_g) else (if (rX2_has a1 4) = 0 then ((gX2_turnLeft j82_g mm (13 - j95_s0))) else (j82_g))))
def gX2_changeAccumulator (g : Nat → Int32) (mm : Nat → Nat → Int32) (a1 : Int32) : Nat → Int32 := let j15_g : Nat → Int32 := uX2_changeAccumulator_j15_g g a1; let j29_g : Nat → Int32 := uX2_changeAccumulator_j29_g a1 j15_g; let j50_g : Nat → Int32 := uX2_changeAccumulator_j50_g a1 j29_g; let j69_g : Nat → Int32 := uX2_changeAccumulator_j69_g a1 j50_g; let j82_g : Nat → Int32 := uX2_changeAccumulator_j82_g mm a1 j69_g; let j95_s0 : Int32 := uX2_changeAccumulator_j95_s0 a1; let j144_g : Nat → Int32 := uX2_changeAccumulator_j144_g mm a1 j82_g j95_s0; j144_g
set_option maxRecDepth 20000 in
set_option maxHeartbeats 4000000 in
theorem c_X2_changeAccumulator (l : Launch) (D : va_G) (cI : ClassId) (q : Nat → Nat) (g : Nat → Int32) (mm : Nat → Nat → Int32) (a1 : Int32)  : MI l D cI yX2_changeAccumulator (.code yX2_changeAccumulator cX2_changeAccumulator 5 none) ({ frames := 1, cells := 0, slots := 0, locals := 23 } : Room) [.ref (q 0), .int a1] (cw q cI g mm) (cw q cI (gX2_changeAccumulator g mm a1) mm) none := by
  refine MI.ofV (own := RX2) (by decide) rfl (Nat.le_of_ble_eq_true rfl) ?_
  intro p e s m args below meth c A ls Q X Z hl hret
  have hT : ∀ w ∈ TB, w ∈ (Cond.code yX2_changeAccumulator cX2_changeAccumulator 5 none :: TB) := fun _ h => List.mem_cons_of_mem _ h
  have hl : lv_has ls 5 [(0, .ref (q 0)), (1, .int a1)] := hl
  refine lv_iload_n X.1 X.2.1 dX2_changeAccumulator_0 rfl (lv_at hl 1 rfl) ?_
  refine lv_sipush (v := 128) X.1 X.2.1 dX2_changeAccumulator_1 (by decide) ?_
  refine call_Si X hT Z k_X2_126 (c_X2_has l D cI (cw q cI g mm) a1 128 ) hd_X2_has ⟨by decide, by decide⟩ ⟨rfl, rfl⟩ hl.1 (rest := []) rfl (Nat.le_of_ble_eq_true rfl) ⟨by decide, by decide⟩ dX2_changeAccumulator_4 (fun H locs Z => ?_)
  suffices K_15 : ∀ (j15_g : Nat → Int32) (ls : Array Slot) (H : Heap) (locs : List Loc), j15_g = uX2_changeAccumulator_j15_g g a1 → lv_has ls 5 [(0, .ref (q 0)), (1, .int a1)] → ZZ D cI (cw q cI j15_g mm) A s H locs → W p l e ({ frames := 1, cells := 0, slots := 0, locals := 23 } : Room) s m args below meth c H locs 0 0 Q (F0 m 15 ls []) by
    refine lv_if_eq (tgt := 15) X.1 X.2.1 dX2_changeAccumulator_7 (by decide) (fun c_7 => ?_) (fun c_7 => ?_)
    · exact K_15 g _ _ _ (if_pos c_7).symm (lv_sub hl [0, 1] rfl) Z
    · refine lv_aload_n X.1 X.2.1 dX2_changeAccumulator_10 rfl (lv_at hl 0 rfl) ?_
      refine lv_iconst (v := 0) X.1 X.2.1 dX2_changeAccumulator_11 (by decide) ?_
      refine P_X2_ac X hT Z dX2_changeAccumulator_12 (fun H locs Z => ?_)
      exact K_15 (upd g 0 0) _ _ _ (if_neg c_7).symm (lv_sub hl [0, 1] rfl) Z
  intro j15_g ls H locs e_j15_g hl Z
  refine lv_iload_n X.1 X.2.1 dX2_changeAccumulator_15 rfl (lv_at hl 1 rfl) ?_
  refine lv_bipush (v := 64) X.1 X.2.1 dX2_changeAccumulator_16 (by decide) ?_
  refine call_Si X hT Z k_X2_126 (c_X2_has l D cI (cw q cI j15_g mm) a1 64 ) hd_X2_has ⟨by decide, by decide⟩ ⟨rfl, rfl⟩ hl.1 (rest := []) rfl (Nat.le_of_ble_eq_true rfl) ⟨by decide, by decide⟩ dX2_changeAccumulator_18 (fun H locs Z => ?_)
  suffices K_29 : ∀ (j29_g : Nat → Int32) (ls : Array Slot) (H : Heap) (locs : List Loc), j29_g = uX2_changeAccumulator_j29_g a1 j15_g → lv_has ls 5 [(0, .ref (q 0)), (1, .int a1)] → ZZ D cI (cw q cI j29_g mm) A s H locs → W p l e ({ frames := 1, cells := 0, slots := 0, locals := 23 } : Room) s m args below meth c H locs 0 0 Q (F0 m 29 ls []) by
    refine lv_if_eq (tgt := 29) X.1 X.2.1 dX2_changeAccumulator_21 (by decide) (fun c_21 => ?_) (fun c_21 => ?_)
    · exact K_29 j15_g _ _ _ (if_pos c_21).symm (lv_sub hl [0, 1] rfl) Z
    · refine lv_aload_n X.1 X.2.1 dX2_changeAccumulator_24 rfl (lv_at hl 0 rfl) ?_
      refine lv_iconst (v := 0) X.1 X.2.1 dX2_changeAccumulator_25 (by decide) ?_
      refine P_X2_link X hT Z dX2_changeAccumulator_26 (fun H locs Z => ?_)
      exact K_29 (upd j15_g 1 0) _ _ _ (if_neg c_21).symm (lv_sub hl [0, 1] rfl) Z
  intro j29_g ls H locs e_j29_g hl Z
  refine lv_iload_n X.1 X.2.1 dX2_changeAccumulator_29 rfl (lv_at hl 1 rfl) ?_
  refine lv_bipush (v := 32) X.1 X.2.1 dX2_changeAccumulator_30 (by decide) ?_
  refine call_Si X hT Z k_X2_126 (c_X2_has l D cI (cw q cI j29_g mm) a1 32 ) hd_X2_has ⟨by decide, by decide⟩ ⟨rfl, rfl⟩ hl.1 (rest := []) rfl (Nat.le_of_ble_eq_true rfl) ⟨by decide, by decide⟩ dX2_changeAccumulator_32 (fun H locs Z => ?_)
  suffices K_50 : ∀ (j50_g : Nat → Int32) (ls : Array Slot) (H : Heap) (locs : List Loc), j50_g = uX2_changeAccumulator_j50_g a1 j29_g → lv_has ls 5 [(0, .ref (q 0)), (1, .int a1)] → ZZ D cI (cw q cI j50_g mm) A s H locs → W p l e ({ frames := 1, cells := 0, slots := 0, locals := 23 } : Room) s m args below meth c H locs 0 0 Q (F0 m 50 ls []) by
    refine lv_if_eq (tgt := 50) X.1 X.2.1 dX2_changeAccumulator_35 (by decide) (fun c_35 => ?_) (fun c_35 => ?_)
    · exact K_50 j29_g _ _ _ (if_pos c_35).symm (lv_sub hl [0, 1] rfl) Z
    · refine lv_aload_n X.1 X.2.1 dX2_changeAccumulator_38 rfl (lv_at hl 0 rfl) ?_
      refine lv_dup X.1 X.2.1 dX2_changeAccumulator_39 rfl ?_
      refine G_X2_ac X hT Z dX2_changeAccumulator_40 ?_
      refine lv_sipush (v := 4095) X.1 X.2.1 dX2_changeAccumulator_43 (by decide) ?_
      refine lv_ixor X.1 X.2.1 dX2_changeAccumulator_46 ?_
      refine P_X2_ac X hT Z dX2_changeAccumulator_47 (fun H locs Z => ?_)
      exact K_50 (upd j29_g 0 ((j29_g 0) ^^^ 4095)) _ _ _ (if_neg c_35).symm (lv_sub hl [0, 1] rfl) Z
  intro j50_g ls H locs e_j50_g hl Z
  refine lv_iload_n X.1 X.2.1 dX2_changeAccumulator_50 rfl (lv_at hl 1 rfl) ?_
  refine lv_bipush (v := 16) X.1 X.2.1 dX2_changeAccumulator_51 (by decide) ?_
  refine call_Si X hT Z k_X2_126 (c_X2_has l D cI (cw q cI j50_g mm) a1 16 ) hd_X2_has ⟨by decide, by decide⟩ ⟨rfl, rfl⟩ hl.1 (rest := []) rfl (Nat.le_of_ble_eq_true rfl) ⟨by decide, by decide⟩ dX2_changeAccumulator_53 (fun H locs Z => ?_)
  suffices K_69 : ∀ (j69_g : Nat → Int32) (ls : Array Slot) (H : Heap) (locs : List Loc), j69_g = uX2_changeAccumulator_j69_g a1 j50_g → lv_has ls 5 [(0, .ref (q 0)), (1, .int a1)] → ZZ D cI (cw q cI j69_g mm) A s H locs → W p l e ({ frames := 1, cells := 0, slots := 0, locals := 23 } : Room) s m args below meth c H locs 0 0 Q (F0 m 69 ls []) by
    refine lv_if_eq (tgt := 69) X.1 X.2.1 dX2_changeAccumulator_56 (by decide) (fun c_56 => ?_) (fun c_56 => ?_)
    · exact K_69 j50_g _ _ _ (if_pos c_56).symm (lv_sub hl [0, 1] rfl) Z
    · refine lv_aload_n X.1 X.2.1 dX2_changeAccumulator_59 rfl (lv_at hl 0 rfl) ?_
      refine lv_dup X.1 X.2.1 dX2_changeAccumulator_60 rfl ?_
      refine G_X2_link X hT Z dX2_changeAccumulator_61 ?_
      refine lv_iconst (v := 1) X.1 X.2.1 dX2_changeAccumulator_64 (by decide) ?_
      refine lv_ixor X.1 X.2.1 dX2_changeAccumulator_65 ?_
      refine P_X2_link X hT Z dX2_changeAccumulator_66 (fun H locs Z => ?_)
      exact K_69 (upd j50_g 1 ((j50_g 1) ^^^ 1)) _ _ _ (if_neg c_56).symm (lv_sub hl [0, 1] rfl) Z
  intro j69_g ls H locs e_j69_g hl Z
  refine lv_iload_n X.1 X.2.1 dX2_changeAccumulator_69 rfl (lv_at hl 1 rfl) ?_
  refine lv_iconst (v := 1) X.1 X.2.1 dX2_changeAccumulator_70 (by decide) ?_
  refine call_Si X hT Z k_X2_126 (c_X2_has l D cI (cw q cI j69_g mm) a1 1 ) hd_X2_has ⟨by decide, by decide⟩ ⟨rfl, rfl⟩ hl.1 (rest := []) rfl (Nat.le_of_ble_eq_true rfl) ⟨by decide, by decide⟩ dX2_changeAccumulator_71 (fun H locs Z => ?_)
  suffices K_82 : ∀ (j82_g : Nat → Int32) (ls : Array Slot) (H : Heap) (locs : List Loc), j82_g = uX2_changeAccumulator_j82_g mm a1 j69_g → lv_has ls 5 [(0, .ref (q 0)), (1, .int a1)] → ZZ D cI (cw q cI j82_g mm) A s H locs → W p l e ({ frames := 1, cells := 0, slots := 0, locals := 23 } : Room) s m args below meth c H locs 0 0 Q (F0 m 82 ls []) by
    refine lv_if_eq (tgt := 82) X.1 X.2.1 dX2_changeAccumulator_74 (by decide) (fun c_74 => ?_) (fun c_74 => ?_)
    · exact K_82 j69_g _ _ _ (if_pos c_74).symm (lv_sub hl [0, 1] rfl) Z
    · refine lv_aload_n X.1 X.2.1 dX2_changeAccumulator_77 rfl (lv_at hl 0 rfl) ?_
      refine lv_iconst (v := 1) X.1 X.2.1 dX2_changeAccumulator_78 (by decide) ?_
      refine call_Vv X hT Z (qq := (RX2, TX2, 15)) k_X2_139 (c_X2_add l D cI q j69_g mm 1 ) rfl rfl hd_X2_add ⟨by decide, by decide⟩ ⟨rfl, rfl⟩ hl.1 (rest := []) rfl (Nat.le_of_ble_eq_true rfl) ⟨by decide, by decide⟩ dX2_changeAccumulator_79 (fun H locs Z => ?_)
      exact K_82 (gX2_add j69_g mm 1) _ _ _ (if_neg c_74).symm (lv_sub hl [0, 1] rfl) Z
  intro j82_g ls H locs e_j82_g hl Z
  refine lv_iload_n X.1 X.2.1 dX2_changeAccumulator_82 rfl (lv_at hl 1 rfl) ?_
  refine lv_iconst (v := 2) X.1 X.2.1 dX2_changeAccumulator_83 (by decide) ?_
  refine call_Si X hT Z k_X2_126 (c_X2_has l D cI (cw q cI j82_g mm) a1 2 ) hd_X2_has ⟨by decide, by decide⟩ ⟨rfl, rfl⟩ hl.1 (rest := []) rfl (Nat.le_of_ble_eq_true rfl) ⟨by decide, by decide⟩ dX2_changeAccumulator_84 (fun H locs Z => ?_)
  suffices K_95 : ∀ (j95_s0 : Int32) (ls : Array Slot) (H : Heap) (locs : List Loc), j95_s0 = uX2_changeAccumulator_j95_s0 a1 → lv_has ls 5 [(0, .ref (q 0)), (1, .int a1)] → ZZ D cI (cw q cI j82_g mm) A s H locs → W p l e ({ frames := 1, cells := 0, slots := 0, locals := 23 } : Room) s m args below meth c H locs 0 0 Q (F0 m 95 ls [.int j95_s0]) by
    refine lv_if_eq (tgt := 94) X.1 X.2.1 dX2_changeAccumulator_87 (by decide) (fun c_87 => ?_) (fun c_87 => ?_)
    · refine lv_iconst (v := 1) X.1 X.2.1 dX2_changeAccumulator_94 (by decide) ?_
      exact K_95 1 _ _ _ (if_pos c_87).symm (lv_sub hl [0, 1] rfl) Z
    · refine lv_iconst (v := 2) X.1 X.2.1 dX2_changeAccumulator_90 (by decide) ?_
      refine lv_goto (tgt := 95) X.1 X.2.1 dX2_changeAccumulator_91 (by decide) ?_
      exact K_95 2 _ _ _ (if_neg c_87).symm (lv_sub hl [0, 1] rfl) Z
  intro j95_s0 ls H locs e_j95_s0 hl Z
  refine lv_istore_n (lv' := [(2, .int j95_s0), (0, .ref (q 0)), (1, .int a1)]) X.1 X.2.1 dX2_changeAccumulator_95 rfl hl (by decide) rfl (fun ls hl => ?_)
  refine lv_iload_n X.1 X.2.1 dX2_changeAccumulator_96 rfl (lv_at hl 2 rfl) ?_
  refine lv_iconst (v := 4) X.1 X.2.1 dX2_changeAccumulator_97 (by decide) ?_
  refine call_Si X hT Z k_X2_126 (c_X2_has l D cI (cw q cI j82_g mm) a1 4 ) hd_X2_has ⟨by decide, by decide⟩ ⟨rfl, rfl⟩ hl.1 (rest := []) rfl (Nat.le_of_ble_eq_true rfl) ⟨by decide, by decide⟩ dX2_changeAccumulator_98 (fun H locs Z => ?_)
  refine lv_istore_n (lv' := [(3, .int (rX2_has a1 4)), (2, .int j95_s0), (0, .ref (q 0)), (1, .int a1)]) X.1 X.2.1 dX2_changeAccumulator_101 rfl hl (by decide) rfl (fun ls hl => ?_)
  refine lv_iload_n X.1 X.2.1 dX2_changeAccumulator_102 rfl (lv_at hl 3 rfl) ?_
  refine lv_bipush (v := 8) X.1 X.2.1 dX2_changeAccumulator_103 (by decide) ?_
  refine call_Si X hT Z k_X2_126 (c_X2_has l D cI (cw q cI j82_g mm) a1 8 ) hd_X2_has ⟨by decide, by decide⟩ ⟨rfl, rfl⟩ hl.1 (rest := []) rfl (Nat.le_of_ble_eq_true rfl) ⟨by decide, by decide⟩ dX2_changeAccumulator_105 (fun H locs Z => ?_)
  refine lv_istore (lv' := [(4, .int (rX2_has a1 8)), (3, .int (rX2_has a1 4)), (2, .int j95_s0), (0, .ref (q 0)), (1, .int a1)]) X.1 X.2.1 dX2_changeAccumulator_108 hl (by decide) rfl (fun ls hl => ?_)
  refine lv_iload_n X.1 X.2.1 dX2_changeAccumulator_110 rfl (lv_at hl 1 rfl) ?_
  suffices K_144 : ∀ (j144_g : Nat → Int32) (ls : Array Slot) (H : Heap) (locs : List Loc), j144_g = uX2_changeAccumulator_j144_g mm a1 j82_g j95_s0 → lv_has ls 5 [(4, .int (rX2_has a1 8)), (3, .int (rX2_has a1 4)), (2, .int j95_s0), (0, .ref (q 0)), (1, .int a1)] → ZZ D cI (cw q cI j144_g mm) A s H locs → W p l e ({ frames := 1, cells := 0, slots := 0, locals := 23 } : Room) s m args below meth c H locs 0 0 Q (F0 m 144 ls []) by
    refine lv_if_eq (tgt := 127) X.1 X.2.1 dX2_changeAccumulator_111 (by decide) (fun c_111 => ?_) (fun c_111 => ?_)
    · refine lv_iload X.1 X.2.1 dX2_changeAccumulator_127 (lv_at hl 0 rfl) ?_
      refine lv_if_eq (tgt := 144) X.1 X.2.1 dX2_changeAccumulator_129 (by decide) (fun c_129 => ?_) (fun c_129 => ?_)
      · exact K_144 j82_g _ _ _ ((if_pos c_111).trans (if_pos c_129)).symm (lv_sub hl [0, 1, 2, 3, 4] rfl) Z
      · refine lv_iload_n X.1 X.2.1 dX2_changeAccumulator_132 rfl (lv_at hl 1 rfl) ?_
        refine lv_if_ne (tgt := 144) X.1 X.2.1 dX2_changeAccumulator_133 (by decide) (fun c_133 => ?_) (fun c_133 => ?_)
        · exact K_144 j82_g _ _ _ ((if_pos c_111).trans ((if_neg c_129).trans (if_neg c_133))).symm (lv_sub hl [0, 1, 2, 3, 4] rfl) Z
        · refine lv_aload_n X.1 X.2.1 dX2_changeAccumulator_136 rfl (lv_at hl 3 rfl) ?_
          refine lv_bipush (v := 13) X.1 X.2.1 dX2_changeAccumulator_137 (by decide) ?_
          refine lv_iload_n X.1 X.2.1 dX2_changeAccumulator_139 rfl (lv_at hl 2 rfl) ?_
          refine lv_isub X.1 X.2.1 dX2_changeAccumulator_140 ?_
          refine call_Vv X hT Z (qq := (RX2, TX2, 15)) k_X2_147 (c_X2_turnLeft l D cI q j82_g mm (13 - j95_s0) ) rfl rfl hd_X2_turnLeft ⟨by decide, by decide⟩ ⟨rfl, rfl⟩ hl.1 (rest := []) rfl (Nat.le_of_ble_eq_true rfl) ⟨by decide, by decide⟩ dX2_changeAccumulator_141 (fun H locs Z => ?_)
          exact K_144 (gX2_turnLeft j82_g mm (13 - j95_s0)) _ _ _ ((if_pos c_111).trans ((if_neg c_129).trans (if_pos c_133))).symm (lv_sub hl [0, 1, 2, 3, 4] rfl) Z
    · refine lv_iload X.1 X.2.1 dX2_changeAccumulator_114 (lv_at hl 0 rfl) ?_
      refine lv_if_ne (tgt := 127) X.1 X.2.1 dX2_changeAccumulator_116 (by decide) (fun c_116 => ?_) (fun c_116 => ?_)
      · refine lv_iload X.1 X.2.1 dX2_changeAccumulator_127 (lv_at hl 0 rfl) ?_
        refine lv_if_eq (tgt := 144) X.1 X.2.1 dX2_changeAccumulator_129 (by decide) (fun c_129 => ?_) (fun c_129 => ?_)
        · exact K_144 j82_g _ _ _ ((if_neg c_111).trans ((if_neg c_116).trans (if_pos c_129))).symm (lv_sub hl [0, 1, 2, 3, 4] rfl) Z
        · refine lv_iload_n X.1 X.2.1 dX2_changeAccumulator_132 rfl (lv_at hl 1 rfl) ?_
          refine lv_if_ne (tgt := 144) X.1 X.2.1 dX2_changeAccumulator_133 (by decide) (fun c_133 => ?_) (fun c_133 => ?_)
          · exact K_144 j82_g _ _ _ ((if_neg c_111).trans ((if_neg c_116).trans ((if_neg c_129).trans (if_neg c_133)))).symm (lv_sub hl [0, 1, 2, 3, 4] rfl) Z
          · refine lv_aload_n X.1 X.2.1 dX2_changeAccumulator_136 rfl (lv_at hl 3 rfl) ?_
            refine lv_bipush (v := 13) X.1 X.2.1 dX2_changeAccumulator_137 (by decide) ?_
            refine lv_iload_n X.1 X.2.1 dX2_changeAccumulator_139 rfl (lv_at hl 2 rfl) ?_
            refine lv_isub X.1 X.2.1 dX2_changeAccumulator_140 ?_
            refine call_Vv X hT Z (qq := (RX2, TX2, 15)) k_X2_147 (c_X2_turnLeft l D cI q j82_g mm (13 - j95_s0) ) rfl rfl hd_X2_turnLeft ⟨by decide, by decide⟩ ⟨rfl, rfl⟩ hl.1 (rest := []) rfl (Nat.le_of_ble_eq_true rfl) ⟨by decide, by decide⟩ dX2_changeAccumulator_141 (fun H locs Z => ?_)
            exact K_144 (gX2_turnLeft j82_g mm (13 - j95_s0)) _ _ _ ((if_neg c_111).trans ((if_neg c_116).trans ((if_neg c_129).trans (if_pos c_133)))).symm (lv_sub hl [0, 1, 2, 3, 4] rfl) Z
      · refine lv_aload_n X.1 X.2.1 dX2_changeAccumulator_119 rfl (lv_at hl 3 rfl) ?_
        refine lv_iload_n X.1 X.2.1 dX2_changeAccumulator_120 rfl (lv_at hl 2 rfl) ?_
        refine call_Vv X hT Z (qq := (RX2, TX2, 15)) k_X2_147 (c_X2_turnLeft l D cI q j82_g mm j95_s0 ) rfl rfl hd_X2_turnLeft ⟨by decide, by decide⟩ ⟨rfl, rfl⟩ hl.1 (rest := []) rfl (Nat.le_of_ble_eq_true rfl) ⟨by decide, by decide⟩ dX2_changeAccumulator_121 (fun H locs Z => ?_)
        refine lv_goto (tgt := 144) X.1 X.2.1 dX2_changeAccumulator_124 (by decide) ?_
        exact K_144 (gX2_turnLeft j82_g mm j95_s0) _ _ _ ((if_neg c_111).trans (if_pos c_116)).symm (lv_sub hl [0, 1, 2, 3, 4] rfl) Z
  intro j144_g ls H locs e_j144_g hl Z
  exact hret _ _ _ _ _ Z (cw_eq (by subst e_j15_g e_j29_g e_j50_g e_j69_g e_j82_g e_j95_s0 e_j144_g; exact rfl) rfl) dX2_changeAccumulator_144
def uX2_testAccumulator_j57_s0 (g : Nat → Int32) (a1 : Int32) : Int32 := if (rX2_has a1 64) = 0 then (if (rX2_has a1 32) = 0 then (if (rX2_has a1 16) = 0 then (0) else (if (g 1) = 1 then (1) else (0))) else (if (g 0) = 0 then (1) else (if (rX2_has a1 16) = 0 then (0) else (if (g 1) = 1 then (1) else (0))))) else (if (2048 : Int32) ≤ (g 0) then (1) else (if (rX2_has a1 32) = 0 then (if (rX2_has a1 16) = 0 then (0) else (if (g 1) = 1 then (1) else (0))) else (if (g 0) = 0 then (1) else (if (rX2_has a1 16) = 0 then (0) else (if (g 1) = 1 then (1) else (0))))))
def uX2_testAccumulator_j74_s0 (a1 : Int32) (j57_s0 : Int32) : Int32 := if j57_s0 = (rX2_has a1 8) then (0) else (1)
def uX2_testAccumulator_j92_g (g : Nat → Int32) (mm : Nat → Nat → Int32) (a1 : Int32) (j74_s0 : Int32) : Nat → Int32 := if (rX2_has a1 128) = 0 then ((gX2_skipIf g mm j74_s0)) else ((upd (gX2_skipIf g mm j74_s0) 0 0))
def uX2_testAccumulator_j113_g (a1 : Int32) (j92_g : Nat → Int32) : Nat → Int32 := if (rX2_has a1 4) = 0 then (j92_g) else ((upd j92_g 0 ((j92_g 0) ||| (j92_g 4))))
def uX2_testAccumulator_j126_g (a1 : Int32) (j113_g : Nat → Int32) : Nat → Int32 := if (rX2_has a1 2) = 0 then (j113_g) else ((upd j113_g 5 1))
def gX2_testAccumulator (g : Nat → Int32) (mm : Nat → Nat → Int32) (a1 : Int32) : Nat → Int32 := let j57_s0 : Int32 := uX2_testAccumulator_j57_s0 g a1; let j74_s0 : Int32 := uX2_testAccumulator_j74_s0 a1 j57_s0; let j92_g : Nat → Int32 := uX2_testAccumulator_j92_g g mm a1 j74_s0; let j113_g : Nat → Int32 := uX2_testAccumulator_j113_g a1 j92_g; let j126_g : Nat → Int32 := uX2_testAccumulator_j126_g a1 j113_g; j126_g
set_option maxRecDepth 20000 in
set_option maxHeartbeats 4000000 in
theorem c_X2_testAccumulator (l : Launch) (D : va_G) (cI : ClassId) (q : Nat → Nat) (g : Nat → Int32) (mm : Nat → Nat → Int32) (a1 : Int32)  : MI l D cI yX2_testAccumulator (.code yX2_testAccumulator cX2_testAccumulator 3 none) ({ frames := 2, cells := 0, slots := 0, locals := 41 } : Room) [.ref (q 0), .int a1] (cw q cI g mm) (cw q cI (gX2_testAccumulator g mm a1) mm) none := by
  refine MI.ofV (own := RX2) (by decide) rfl (Nat.le_of_ble_eq_true rfl) ?_
  intro p e s m args below meth c A ls Q X Z hl hret
  have hT : ∀ w ∈ TB, w ∈ (Cond.code yX2_testAccumulator cX2_testAccumulator 3 none :: TB) := fun _ h => List.mem_cons_of_mem _ h
  have hl : lv_has ls 3 [(0, .ref (q 0)), (1, .int a1)] := hl
  refine lv_iload_n X.1 X.2.1 dX2_testAccumulator_0 rfl (lv_at hl 1 rfl) ?_
  refine lv_bipush (v := 64) X.1 X.2.1 dX2_testAccumulator_1 (by decide) ?_
  refine call_Si X hT Z k_X2_126 (c_X2_has l D cI (cw q cI g mm) a1 64 ) hd_X2_has ⟨by decide, by decide⟩ ⟨rfl, rfl⟩ hl.1 (rest := []) rfl (Nat.le_of_ble_eq_true rfl) ⟨by decide, by decide⟩ dX2_testAccumulator_3 (fun H locs Z => ?_)
  suffices K_57 : ∀ (j57_s0 : Int32) (ls : Array Slot) (H : Heap) (locs : List Loc), j57_s0 = uX2_testAccumulator_j57_s0 g a1 → lv_has ls 3 [(0, .ref (q 0)), (1, .int a1)] → ZZ D cI (cw q cI g mm) A s H locs → W p l e ({ frames := 2, cells := 0, slots := 0, locals := 41 } : Room) s m args below meth c H locs 0 0 Q (F0 m 57 ls [.int j57_s0]) by
    refine lv_if_eq (tgt := 19) X.1 X.2.1 dX2_testAccumulator_6 (by decide) (fun c_6 => ?_) (fun c_6 => ?_)
    · refine lv_iload_n X.1 X.2.1 dX2_testAccumulator_19 rfl (lv_at hl 1 rfl) ?_
      refine lv_bipush (v := 32) X.1 X.2.1 dX2_testAccumulator_20 (by decide) ?_
      refine call_Si X hT Z k_X2_126 (c_X2_has l D cI (cw q cI g mm) a1 32 ) hd_X2_has ⟨by decide, by decide⟩ ⟨rfl, rfl⟩ hl.1 (rest := []) rfl (Nat.le_of_ble_eq_true rfl) ⟨by decide, by decide⟩ dX2_testAccumulator_22 (fun H locs Z => ?_)
      refine lv_if_eq (tgt := 35) X.1 X.2.1 dX2_testAccumulator_25 (by decide) (fun c_25 => ?_) (fun c_25 => ?_)
      · refine lv_iload_n X.1 X.2.1 dX2_testAccumulator_35 rfl (lv_at hl 1 rfl) ?_
        refine lv_bipush (v := 16) X.1 X.2.1 dX2_testAccumulator_36 (by decide) ?_
        refine call_Si X hT Z k_X2_126 (c_X2_has l D cI (cw q cI g mm) a1 16 ) hd_X2_has ⟨by decide, by decide⟩ ⟨rfl, rfl⟩ hl.1 (rest := []) rfl (Nat.le_of_ble_eq_true rfl) ⟨by decide, by decide⟩ dX2_testAccumulator_38 (fun H locs Z => ?_)
        refine lv_if_eq (tgt := 56) X.1 X.2.1 dX2_testAccumulator_41 (by decide) (fun c_41 => ?_) (fun c_41 => ?_)
        · refine lv_iconst (v := 0) X.1 X.2.1 dX2_testAccumulator_56 (by decide) ?_
          exact K_57 0 _ _ _ ((if_pos c_6).trans ((if_pos c_25).trans (if_pos c_41))).symm (lv_sub hl [0, 1] rfl) Z
        · refine lv_aload_n X.1 X.2.1 dX2_testAccumulator_44 rfl (lv_at hl 0 rfl) ?_
          refine G_X2_link X hT Z dX2_testAccumulator_45 ?_
          refine lv_iconst (v := 1) X.1 X.2.1 dX2_testAccumulator_48 (by decide) ?_
          refine lv_icmp_ne (tgt := 56) X.1 X.2.1 dX2_testAccumulator_49 (by decide) (fun c_49 => ?_) (fun c_49 => ?_)
          · refine lv_iconst (v := 0) X.1 X.2.1 dX2_testAccumulator_56 (by decide) ?_
            exact K_57 0 _ _ _ ((if_pos c_6).trans ((if_pos c_25).trans ((if_neg c_41).trans (if_neg c_49)))).symm (lv_sub hl [0, 1] rfl) Z
          · refine lv_iconst (v := 1) X.1 X.2.1 dX2_testAccumulator_52 (by decide) ?_
            refine lv_goto (tgt := 57) X.1 X.2.1 dX2_testAccumulator_53 (by decide) ?_
            exact K_57 1 _ _ _ ((if_pos c_6).trans ((if_pos c_25).trans ((if_neg c_41).trans (if_pos c_49)))).symm (lv_sub hl [0, 1] rfl) Z
      · refine lv_aload_n X.1 X.2.1 dX2_testAccumulator_28 rfl (lv_at hl 0 rfl) ?_
        refine G_X2_ac X hT Z dX2_testAccumulator_29 ?_
        refine lv_if_eq (tgt := 52) X.1 X.2.1 dX2_testAccumulator_32 (by decide) (fun c_32 => ?_) (fun c_32 => ?_)
        · refine lv_iconst (v := 1) X.1 X.2.1 dX2_testAccumulator_52 (by decide) ?_
          refine lv_goto (tgt := 57) X.1 X.2.1 dX2_testAccumulator_53 (by decide) ?_
          exact K_57 1 _ _ _ ((if_pos c_6).trans ((if_neg c_25).trans (if_pos c_32))).symm (lv_sub hl [0, 1] rfl) Z
        · refine lv_iload_n X.1 X.2.1 dX2_testAccumulator_35 rfl (lv_at hl 1 rfl) ?_
          refine lv_bipush (v := 16) X.1 X.2.1 dX2_testAccumulator_36 (by decide) ?_
          refine call_Si X hT Z k_X2_126 (c_X2_has l D cI (cw q cI g mm) a1 16 ) hd_X2_has ⟨by decide, by decide⟩ ⟨rfl, rfl⟩ hl.1 (rest := []) rfl (Nat.le_of_ble_eq_true rfl) ⟨by decide, by decide⟩ dX2_testAccumulator_38 (fun H locs Z => ?_)
          refine lv_if_eq (tgt := 56) X.1 X.2.1 dX2_testAccumulator_41 (by decide) (fun c_41 => ?_) (fun c_41 => ?_)
          · refine lv_iconst (v := 0) X.1 X.2.1 dX2_testAccumulator_56 (by decide) ?_
            exact K_57 0 _ _ _ ((if_pos c_6).trans ((if_neg c_25).trans ((if_neg c_32).trans (if_pos c_41)))).symm (lv_sub hl [0, 1] rfl) Z
          · refine lv_aload_n X.1 X.2.1 dX2_testAccumulator_44 rfl (lv_at hl 0 rfl) ?_
            refine G_X2_link X hT Z dX2_testAccumulator_45 ?_
            refine lv_iconst (v := 1) X.1 X.2.1 dX2_testAccumulator_48 (by decide) ?_
            refine lv_icmp_ne (tgt := 56) X.1 X.2.1 dX2_testAccumulator_49 (by decide) (fun c_49 => ?_) (fun c_49 => ?_)
            · refine lv_iconst (v := 0) X.1 X.2.1 dX2_testAccumulator_56 (by decide) ?_
              exact K_57 0 _ _ _ ((if_pos c_6).trans ((if_neg c_25).trans ((if_neg c_32).trans ((if_neg c_41).trans (if_neg c_49))))).symm (lv_sub hl [0, 1] rfl) Z
            · refine lv_iconst (v := 1) X.1 X.2.1 dX2_testAccumulator_52 (by decide) ?_
              refine lv_goto (tgt := 57) X.1 X.2.1 dX2_testAccumulator_53 (by decide) ?_
              exact K_57 1 _ _ _ ((if_pos c_6).trans ((if_neg c_25).trans ((if_neg c_32).trans ((if_neg c_41).trans (if_pos c_49))))).symm (lv_sub hl [0, 1] rfl) Z
    · refine lv_aload_n X.1 X.2.1 dX2_testAccumulator_9 rfl (lv_at hl 0 rfl) ?_
      refine G_X2_ac X hT Z dX2_testAccumulator_10 ?_
      refine lv_sipush (v := 2048) X.1 X.2.1 dX2_testAccumulator_13 (by decide) ?_
      refine lv_icmp_ge (tgt := 52) X.1 X.2.1 dX2_testAccumulator_16 (by decide) (fun c_16 => ?_) (fun c_16 => ?_)
      · refine lv_iconst (v := 1) X.1 X.2.1 dX2_testAccumulator_52 (by decide) ?_
        refine lv_goto (tgt := 57) X.1 X.2.1 dX2_testAccumulator_53 (by decide) ?_
        exact K_57 1 _ _ _ ((if_neg c_6).trans (if_pos c_16)).symm (lv_sub hl [0, 1] rfl) Z
      · refine lv_iload_n X.1 X.2.1 dX2_testAccumulator_19 rfl (lv_at hl 1 rfl) ?_
        refine lv_bipush (v := 32) X.1 X.2.1 dX2_testAccumulator_20 (by decide) ?_
        refine call_Si X hT Z k_X2_126 (c_X2_has l D cI (cw q cI g mm) a1 32 ) hd_X2_has ⟨by decide, by decide⟩ ⟨rfl, rfl⟩ hl.1 (rest := []) rfl (Nat.le_of_ble_eq_true rfl) ⟨by decide, by decide⟩ dX2_testAccumulator_22 (fun H locs Z => ?_)
        refine lv_if_eq (tgt := 35) X.1 X.2.1 dX2_testAccumulator_25 (by decide) (fun c_25 => ?_) (fun c_25 => ?_)
        · refine lv_iload_n X.1 X.2.1 dX2_testAccumulator_35 rfl (lv_at hl 1 rfl) ?_
          refine lv_bipush (v := 16) X.1 X.2.1 dX2_testAccumulator_36 (by decide) ?_
          refine call_Si X hT Z k_X2_126 (c_X2_has l D cI (cw q cI g mm) a1 16 ) hd_X2_has ⟨by decide, by decide⟩ ⟨rfl, rfl⟩ hl.1 (rest := []) rfl (Nat.le_of_ble_eq_true rfl) ⟨by decide, by decide⟩ dX2_testAccumulator_38 (fun H locs Z => ?_)
          refine lv_if_eq (tgt := 56) X.1 X.2.1 dX2_testAccumulator_41 (by decide) (fun c_41 => ?_) (fun c_41 => ?_)
          · refine lv_iconst (v := 0) X.1 X.2.1 dX2_testAccumulator_56 (by decide) ?_
            exact K_57 0 _ _ _ ((if_neg c_6).trans ((if_neg c_16).trans ((if_pos c_25).trans (if_pos c_41)))).symm (lv_sub hl [0, 1] rfl) Z
          · refine lv_aload_n X.1 X.2.1 dX2_testAccumulator_44 rfl (lv_at hl 0 rfl) ?_
            refine G_X2_link X hT Z dX2_testAccumulator_45 ?_
            refine lv_iconst (v := 1) X.1 X.2.1 dX2_testAccumulator_48 (by decide) ?_
            refine lv_icmp_ne (tgt := 56) X.1 X.2.1 dX2_testAccumulator_49 (by decide) (fun c_49 => ?_) (fun c_49 => ?_)
            · refine lv_iconst (v := 0) X.1 X.2.1 dX2_testAccumulator_56 (by decide) ?_
              exact K_57 0 _ _ _ ((if_neg c_6).trans ((if_neg c_16).trans ((if_pos c_25).trans ((if_neg c_41).trans (if_neg c_49))))).symm (lv_sub hl [0, 1] rfl) Z
            · refine lv_iconst (v := 1) X.1 X.2.1 dX2_testAccumulator_52 (by decide) ?_
              refine lv_goto (tgt := 57) X.1 X.2.1 dX2_testAccumulator_53 (by decide) ?_
              exact K_57 1 _ _ _ ((if_neg c_6).trans ((if_neg c_16).trans ((if_pos c_25).trans ((if_neg c_41).trans (if_pos c_49))))).symm (lv_sub hl [0, 1] rfl) Z
        · refine lv_aload_n X.1 X.2.1 dX2_testAccumulator_28 rfl (lv_at hl 0 rfl) ?_
          refine G_X2_ac X hT Z dX2_testAccumulator_29 ?_
          refine lv_if_eq (tgt := 52) X.1 X.2.1 dX2_testAccumulator_32 (by decide) (fun c_32 => ?_) (fun c_32 => ?_)
          · refine lv_iconst (v := 1) X.1 X.2.1 dX2_testAccumulator_52 (by decide) ?_
            refine lv_goto (tgt := 57) X.1 X.2.1 dX2_testAccumulator_53 (by decide) ?_
            exact K_57 1 _ _ _ ((if_neg c_6).trans ((if_neg c_16).trans ((if_neg c_25).trans (if_pos c_32)))).symm (lv_sub hl [0, 1] rfl) Z
          · refine lv_iload_n X.1 X.2.1 dX2_testAccumulator_35 rfl (lv_at hl 1 rfl) ?_
            refine lv_bipush (v := 16) X.1 X.2.1 dX2_testAccumulator_36 (by decide) ?_
            refine call_Si X hT Z k_X2_126 (c_X2_has l D cI (cw q cI g mm) a1 16 ) hd_X2_has ⟨by decide, by decide⟩ ⟨rfl, rfl⟩ hl.1 (rest := []) rfl (Nat.le_of_ble_eq_true rfl) ⟨by decide, by decide⟩ dX2_testAccumulator_38 (fun H locs Z => ?_)
            refine lv_if_eq (tgt := 56) X.1 X.2.1 dX2_testAccumulator_41 (by decide) (fun c_41 => ?_) (fun c_41 => ?_)
            · refine lv_iconst (v := 0) X.1 X.2.1 dX2_testAccumulator_56 (by decide) ?_
              exact K_57 0 _ _ _ ((if_neg c_6).trans ((if_neg c_16).trans ((if_neg c_25).trans ((if_neg c_32).trans (if_pos c_41))))).symm (lv_sub hl [0, 1] rfl) Z
            · refine lv_aload_n X.1 X.2.1 dX2_testAccumulator_44 rfl (lv_at hl 0 rfl) ?_
              refine G_X2_link X hT Z dX2_testAccumulator_45 ?_
              refine lv_iconst (v := 1) X.1 X.2.1 dX2_testAccumulator_48 (by decide) ?_
              refine lv_icmp_ne (tgt := 56) X.1 X.2.1 dX2_testAccumulator_49 (by decide) (fun c_49 => ?_) (fun c_49 => ?_)
              · refine lv_iconst (v := 0) X.1 X.2.1 dX2_testAccumulator_56 (by decide) ?_
                exact K_57 0 _ _ _ ((if_neg c_6).trans ((if_neg c_16).trans ((if_neg c_25).trans ((if_neg c_32).trans ((if_neg c_41).trans (if_neg c_49)))))).symm (lv_sub hl [0, 1] rfl) Z
              · refine lv_iconst (v := 1) X.1 X.2.1 dX2_testAccumulator_52 (by decide) ?_
                refine lv_goto (tgt := 57) X.1 X.2.1 dX2_testAccumulator_53 (by decide) ?_
                exact K_57 1 _ _ _ ((if_neg c_6).trans ((if_neg c_16).trans ((if_neg c_25).trans ((if_neg c_32).trans ((if_neg c_41).trans (if_pos c_49)))))).symm (lv_sub hl [0, 1] rfl) Z
  intro j57_s0 ls H locs e_j57_s0 hl Z
  refine lv_istore_n (lv' := [(2, .int j57_s0), (0, .ref (q 0)), (1, .int a1)]) X.1 X.2.1 dX2_testAccumulator_57 rfl hl (by decide) rfl (fun ls hl => ?_)
  refine lv_aload_n X.1 X.2.1 dX2_testAccumulator_58 rfl (lv_at hl 1 rfl) ?_
  refine lv_iload_n X.1 X.2.1 dX2_testAccumulator_59 rfl (lv_at hl 0 rfl) ?_
  refine lv_iload_n X.1 X.2.1 dX2_testAccumulator_60 rfl (lv_at hl 2 rfl) ?_
  refine lv_bipush (v := 8) X.1 X.2.1 dX2_testAccumulator_61 (by decide) ?_
  refine call_Si X hT Z k_X2_126 (c_X2_has l D cI (cw q cI g mm) a1 8 ) hd_X2_has ⟨by decide, by decide⟩ ⟨rfl, rfl⟩ hl.1 (rest := [.int j57_s0, .ref (q 0)]) rfl (Nat.le_of_ble_eq_true rfl) ⟨by decide, by decide⟩ dX2_testAccumulator_63 (fun H locs Z => ?_)
  suffices K_74 : ∀ (j74_s0 : Int32) (ls : Array Slot) (H : Heap) (locs : List Loc), j74_s0 = uX2_testAccumulator_j74_s0 a1 j57_s0 → lv_has ls 3 [(2, .int j57_s0), (0, .ref (q 0)), (1, .int a1)] → ZZ D cI (cw q cI g mm) A s H locs → W p l e ({ frames := 2, cells := 0, slots := 0, locals := 41 } : Room) s m args below meth c H locs 0 0 Q (F0 m 74 ls [.int j74_s0, .ref (q 0)]) by
    refine lv_icmp_eq (tgt := 73) X.1 X.2.1 dX2_testAccumulator_66 (by decide) (fun c_66 => ?_) (fun c_66 => ?_)
    · refine lv_iconst (v := 0) X.1 X.2.1 dX2_testAccumulator_73 (by decide) ?_
      exact K_74 0 _ _ _ (if_pos c_66).symm (lv_sub hl [0, 1, 2] rfl) Z
    · refine lv_iconst (v := 1) X.1 X.2.1 dX2_testAccumulator_69 (by decide) ?_
      refine lv_goto (tgt := 74) X.1 X.2.1 dX2_testAccumulator_70 (by decide) ?_
      exact K_74 1 _ _ _ (if_neg c_66).symm (lv_sub hl [0, 1, 2] rfl) Z
  intro j74_s0 ls H locs e_j74_s0 hl Z
  refine call_Vv X hT Z (qq := (RX2, TX2, 15)) k_X2_140 (c_X2_skipIf l D cI q g mm j74_s0 ) rfl rfl hd_X2_skipIf ⟨by decide, by decide⟩ ⟨rfl, rfl⟩ hl.1 (rest := []) rfl (Nat.le_of_ble_eq_true rfl) ⟨by decide, by decide⟩ dX2_testAccumulator_74 (fun H locs Z => ?_)
  refine lv_iload_n X.1 X.2.1 dX2_testAccumulator_77 rfl (lv_at hl 2 rfl) ?_
  refine lv_sipush (v := 128) X.1 X.2.1 dX2_testAccumulator_78 (by decide) ?_
  refine call_Si X hT Z k_X2_126 (c_X2_has l D cI (cw q cI (gX2_skipIf g mm j74_s0) mm) a1 128 ) hd_X2_has ⟨by decide, by decide⟩ ⟨rfl, rfl⟩ hl.1 (rest := []) rfl (Nat.le_of_ble_eq_true rfl) ⟨by decide, by decide⟩ dX2_testAccumulator_81 (fun H locs Z => ?_)
  suffices K_92 : ∀ (j92_g : Nat → Int32) (ls : Array Slot) (H : Heap) (locs : List Loc), j92_g = uX2_testAccumulator_j92_g g mm a1 j74_s0 → lv_has ls 3 [(2, .int j57_s0), (0, .ref (q 0)), (1, .int a1)] → ZZ D cI (cw q cI j92_g mm) A s H locs → W p l e ({ frames := 2, cells := 0, slots := 0, locals := 41 } : Room) s m args below meth c H locs 0 0 Q (F0 m 92 ls []) by
    refine lv_if_eq (tgt := 92) X.1 X.2.1 dX2_testAccumulator_84 (by decide) (fun c_84 => ?_) (fun c_84 => ?_)
    · exact K_92 (gX2_skipIf g mm j74_s0) _ _ _ (if_pos c_84).symm (lv_sub hl [0, 1, 2] rfl) Z
    · refine lv_aload_n X.1 X.2.1 dX2_testAccumulator_87 rfl (lv_at hl 1 rfl) ?_
      refine lv_iconst (v := 0) X.1 X.2.1 dX2_testAccumulator_88 (by decide) ?_
      refine P_X2_ac X hT Z dX2_testAccumulator_89 (fun H locs Z => ?_)
      exact K_92 (upd (gX2_skipIf g mm j74_s0) 0 0) _ _ _ (if_neg c_84).symm (lv_sub hl [0, 1, 2] rfl) Z
  intro j92_g ls H locs e_j92_g hl Z
  refine lv_iload_n X.1 X.2.1 dX2_testAccumulator_92 rfl (lv_at hl 2 rfl) ?_
  refine lv_iconst (v := 4) X.1 X.2.1 dX2_testAccumulator_93 (by decide) ?_
  refine call_Si X hT Z k_X2_126 (c_X2_has l D cI (cw q cI j92_g mm) a1 4 ) hd_X2_has ⟨by decide, by decide⟩ ⟨rfl, rfl⟩ hl.1 (rest := []) rfl (Nat.le_of_ble_eq_true rfl) ⟨by decide, by decide⟩ dX2_testAccumulator_94 (fun H locs Z => ?_)
  suffices K_113 : ∀ (j113_g : Nat → Int32) (ls : Array Slot) (H : Heap) (locs : List Loc), j113_g = uX2_testAccumulator_j113_g a1 j92_g → lv_has ls 3 [(2, .int j57_s0), (0, .ref (q 0)), (1, .int a1)] → ZZ D cI (cw q cI j113_g mm) A s H locs → W p l e ({ frames := 2, cells := 0, slots := 0, locals := 41 } : Room) s m args below meth c H locs 0 0 Q (F0 m 113 ls []) by
    refine lv_if_eq (tgt := 113) X.1 X.2.1 dX2_testAccumulator_97 (by decide) (fun c_97 => ?_) (fun c_97 => ?_)
    · exact K_113 j92_g _ _ _ (if_pos c_97).symm (lv_sub hl [0, 1, 2] rfl) Z
    · refine lv_aload_n X.1 X.2.1 dX2_testAccumulator_100 rfl (lv_at hl 1 rfl) ?_
      refine lv_dup X.1 X.2.1 dX2_testAccumulator_101 rfl ?_
      refine G_X2_ac X hT Z dX2_testAccumulator_102 ?_
      refine lv_aload_n X.1 X.2.1 dX2_testAccumulator_105 rfl (lv_at hl 1 rfl) ?_
      refine G_X2_sr X hT Z dX2_testAccumulator_106 ?_
      refine lv_ior X.1 X.2.1 dX2_testAccumulator_109 ?_
      refine P_X2_ac X hT Z dX2_testAccumulator_110 (fun H locs Z => ?_)
      exact K_113 (upd j92_g 0 ((j92_g 0) ||| (j92_g 4))) _ _ _ (if_neg c_97).symm (lv_sub hl [0, 1, 2] rfl) Z
  intro j113_g ls H locs e_j113_g hl Z
  refine lv_iload_n X.1 X.2.1 dX2_testAccumulator_113 rfl (lv_at hl 2 rfl) ?_
  refine lv_iconst (v := 2) X.1 X.2.1 dX2_testAccumulator_114 (by decide) ?_
  refine call_Si X hT Z k_X2_126 (c_X2_has l D cI (cw q cI j113_g mm) a1 2 ) hd_X2_has ⟨by decide, by decide⟩ ⟨rfl, rfl⟩ hl.1 (rest := []) rfl (Nat.le_of_ble_eq_true rfl) ⟨by decide, by decide⟩ dX2_testAccumulator_115 (fun H locs Z => ?_)
  suffices K_126 : ∀ (j126_g : Nat → Int32) (ls : Array Slot) (H : Heap) (locs : List Loc), j126_g = uX2_testAccumulator_j126_g a1 j113_g → lv_has ls 3 [(2, .int j57_s0), (0, .ref (q 0)), (1, .int a1)] → ZZ D cI (cw q cI j126_g mm) A s H locs → W p l e ({ frames := 2, cells := 0, slots := 0, locals := 41 } : Room) s m args below meth c H locs 0 0 Q (F0 m 126 ls []) by
    refine lv_if_eq (tgt := 126) X.1 X.2.1 dX2_testAccumulator_118 (by decide) (fun c_118 => ?_) (fun c_118 => ?_)
    · exact K_126 j113_g _ _ _ (if_pos c_118).symm (lv_sub hl [0, 1, 2] rfl) Z
    · refine lv_aload_n X.1 X.2.1 dX2_testAccumulator_121 rfl (lv_at hl 1 rfl) ?_
      refine lv_iconst (v := 1) X.1 X.2.1 dX2_testAccumulator_122 (by decide) ?_
      refine P_X2_halted X hT Z ⟨rfl, rfl⟩ dX2_testAccumulator_123 (fun H locs Z => ?_)
      exact K_126 (upd j113_g 5 1) _ _ _ (if_neg c_118).symm (lv_sub hl [0, 1, 2] rfl) Z
  intro j126_g ls H locs e_j126_g hl Z
  exact hret _ _ _ _ _ Z (cw_eq (by subst e_j57_s0 e_j74_s0 e_j92_g e_j113_g e_j126_g; exact rfl) rfl) dX2_testAccumulator_126
def uX2_exchangeWithMq_j15_g (g : Nat → Int32) (a1 : Int32) : Nat → Int32 := if (rX2_has a1 128) = 0 then (g) else ((upd g 0 0))
def uX2_exchangeWithMq_j52_g (a1 : Int32) (j15_g : Nat → Int32) : Nat → Int32 := if (rX2_has a1 16) = 0 then (j15_g) else ((upd (upd j15_g 3 (j15_g 0)) 0 0))
def uX2_exchangeWithMq_j67_g (a1 : Int32) (j15_g : Nat → Int32) (j52_g : Nat → Int32) : Nat → Int32 := if (rX2_has a1 64) = 0 then (j52_g) else ((upd j52_g 0 ((j52_g 0) ||| (j15_g 3))))
def gX2_exchangeWithMq (g : Nat → Int32) (mm : Nat → Nat → Int32) (a1 : Int32) : Nat → Int32 := let j15_g : Nat → Int32 := uX2_exchangeWithMq_j15_g g a1; let j52_g : Nat → Int32 := uX2_exchangeWithMq_j52_g a1 j15_g; let j67_g : Nat → Int32 := uX2_exchangeWithMq_j67_g a1 j15_g j52_g; j67_g
set_option maxRecDepth 20000 in
set_option maxHeartbeats 4000000 in
theorem c_X2_exchangeWithMq (l : Launch) (D : va_G) (cI : ClassId) (q : Nat → Nat) (g : Nat → Int32) (mm : Nat → Nat → Int32) (a1 : Int32)  : MI l D cI yX2_exchangeWithMq (.code yX2_exchangeWithMq cX2_exchangeWithMq 5 none) ({ frames := 1, cells := 0, slots := 0, locals := 21 } : Room) [.ref (q 0), .int a1] (cw q cI g mm) (cw q cI (gX2_exchangeWithMq g mm a1) mm) none := by
  refine MI.ofV (own := RX2) (by decide) rfl (Nat.le_of_ble_eq_true rfl) ?_
  intro p e s m args below meth c A ls Q X Z hl hret
  have hT : ∀ w ∈ TB, w ∈ (Cond.code yX2_exchangeWithMq cX2_exchangeWithMq 5 none :: TB) := fun _ h => List.mem_cons_of_mem _ h
  have hl : lv_has ls 5 [(0, .ref (q 0)), (1, .int a1)] := hl
  refine lv_iload_n X.1 X.2.1 dX2_exchangeWithMq_0 rfl (lv_at hl 1 rfl) ?_
  refine lv_sipush (v := 128) X.1 X.2.1 dX2_exchangeWithMq_1 (by decide) ?_
  refine call_Si X hT Z k_X2_126 (c_X2_has l D cI (cw q cI g mm) a1 128 ) hd_X2_has ⟨by decide, by decide⟩ ⟨rfl, rfl⟩ hl.1 (rest := []) rfl (Nat.le_of_ble_eq_true rfl) ⟨by decide, by decide⟩ dX2_exchangeWithMq_4 (fun H locs Z => ?_)
  suffices K_15 : ∀ (j15_g : Nat → Int32) (ls : Array Slot) (H : Heap) (locs : List Loc), j15_g = uX2_exchangeWithMq_j15_g g a1 → lv_has ls 5 [(0, .ref (q 0)), (1, .int a1)] → ZZ D cI (cw q cI j15_g mm) A s H locs → W p l e ({ frames := 1, cells := 0, slots := 0, locals := 21 } : Room) s m args below meth c H locs 0 0 Q (F0 m 15 ls []) by
    refine lv_if_eq (tgt := 15) X.1 X.2.1 dX2_exchangeWithMq_7 (by decide) (fun c_7 => ?_) (fun c_7 => ?_)
    · exact K_15 g _ _ _ (if_pos c_7).symm (lv_sub hl [0, 1] rfl) Z
    · refine lv_aload_n X.1 X.2.1 dX2_exchangeWithMq_10 rfl (lv_at hl 0 rfl) ?_
      refine lv_iconst (v := 0) X.1 X.2.1 dX2_exchangeWithMq_11 (by decide) ?_
      refine P_X2_ac X hT Z dX2_exchangeWithMq_12 (fun H locs Z => ?_)
      exact K_15 (upd g 0 0) _ _ _ (if_neg c_7).symm (lv_sub hl [0, 1] rfl) Z
  intro j15_g ls H locs e_j15_g hl Z
  refine lv_iload_n X.1 X.2.1 dX2_exchangeWithMq_15 rfl (lv_at hl 1 rfl) ?_
  refine lv_bipush (v := 64) X.1 X.2.1 dX2_exchangeWithMq_16 (by decide) ?_
  refine call_Si X hT Z k_X2_126 (c_X2_has l D cI (cw q cI j15_g mm) a1 64 ) hd_X2_has ⟨by decide, by decide⟩ ⟨rfl, rfl⟩ hl.1 (rest := []) rfl (Nat.le_of_ble_eq_true rfl) ⟨by decide, by decide⟩ dX2_exchangeWithMq_18 (fun H locs Z => ?_)
  refine lv_istore_n (lv' := [(2, .int (rX2_has a1 64)), (0, .ref (q 0)), (1, .int a1)]) X.1 X.2.1 dX2_exchangeWithMq_21 rfl hl (by decide) rfl (fun ls hl => ?_)
  refine lv_iload_n X.1 X.2.1 dX2_exchangeWithMq_22 rfl (lv_at hl 2 rfl) ?_
  refine lv_bipush (v := 16) X.1 X.2.1 dX2_exchangeWithMq_23 (by decide) ?_
  refine call_Si X hT Z k_X2_126 (c_X2_has l D cI (cw q cI j15_g mm) a1 16 ) hd_X2_has ⟨by decide, by decide⟩ ⟨rfl, rfl⟩ hl.1 (rest := []) rfl (Nat.le_of_ble_eq_true rfl) ⟨by decide, by decide⟩ dX2_exchangeWithMq_25 (fun H locs Z => ?_)
  refine lv_istore_n (lv' := [(3, .int (rX2_has a1 16)), (2, .int (rX2_has a1 64)), (0, .ref (q 0)), (1, .int a1)]) X.1 X.2.1 dX2_exchangeWithMq_28 rfl hl (by decide) rfl (fun ls hl => ?_)
  refine lv_aload_n X.1 X.2.1 dX2_exchangeWithMq_29 rfl (lv_at hl 2 rfl) ?_
  refine G_X2_mq X hT Z dX2_exchangeWithMq_30 ?_
  refine lv_istore (lv' := [(4, .int (j15_g 3)), (3, .int (rX2_has a1 16)), (2, .int (rX2_has a1 64)), (0, .ref (q 0)), (1, .int a1)]) X.1 X.2.1 dX2_exchangeWithMq_33 hl (by decide) rfl (fun ls hl => ?_)
  refine lv_iload_n X.1 X.2.1 dX2_exchangeWithMq_35 rfl (lv_at hl 1 rfl) ?_
  suffices K_52 : ∀ (j52_g : Nat → Int32) (ls : Array Slot) (H : Heap) (locs : List Loc), j52_g = uX2_exchangeWithMq_j52_g a1 j15_g → lv_has ls 5 [(4, .int (j15_g 3)), (3, .int (rX2_has a1 16)), (2, .int (rX2_has a1 64)), (0, .ref (q 0)), (1, .int a1)] → ZZ D cI (cw q cI j52_g mm) A s H locs → W p l e ({ frames := 1, cells := 0, slots := 0, locals := 21 } : Room) s m args below meth c H locs 0 0 Q (F0 m 52 ls []) by
    refine lv_if_eq (tgt := 52) X.1 X.2.1 dX2_exchangeWithMq_36 (by decide) (fun c_36 => ?_) (fun c_36 => ?_)
    · exact K_52 j15_g _ _ _ (if_pos c_36).symm (lv_sub hl [0, 1, 2, 3, 4] rfl) Z
    · refine lv_aload_n X.1 X.2.1 dX2_exchangeWithMq_39 rfl (lv_at hl 3 rfl) ?_
      refine lv_aload_n X.1 X.2.1 dX2_exchangeWithMq_40 rfl (lv_at hl 3 rfl) ?_
      refine G_X2_ac X hT Z dX2_exchangeWithMq_41 ?_
      refine P_X2_mq X hT Z dX2_exchangeWithMq_44 (fun H locs Z => ?_)
      refine lv_aload_n X.1 X.2.1 dX2_exchangeWithMq_47 rfl (lv_at hl 3 rfl) ?_
      refine lv_iconst (v := 0) X.1 X.2.1 dX2_exchangeWithMq_48 (by decide) ?_
      refine P_X2_ac X hT Z dX2_exchangeWithMq_49 (fun H locs Z => ?_)
      exact K_52 (upd (upd j15_g 3 (j15_g 0)) 0 0) _ _ _ (if_neg c_36).symm (lv_sub hl [0, 1, 2, 3, 4] rfl) Z
  intro j52_g ls H locs e_j52_g hl Z
  refine lv_iload_n X.1 X.2.1 dX2_exchangeWithMq_52 rfl (lv_at hl 2 rfl) ?_
  suffices K_67 : ∀ (j67_g : Nat → Int32) (ls : Array Slot) (H : Heap) (locs : List Loc), j67_g = uX2_exchangeWithMq_j67_g a1 j15_g j52_g → lv_has ls 5 [(4, .int (j15_g 3)), (3, .int (rX2_has a1 16)), (2, .int (rX2_has a1 64)), (0, .ref (q 0)), (1, .int a1)] → ZZ D cI (cw q cI j67_g mm) A s H locs → W p l e ({ frames := 1, cells := 0, slots := 0, locals := 21 } : Room) s m args below meth c H locs 0 0 Q (F0 m 67 ls []) by
    refine lv_if_eq (tgt := 67) X.1 X.2.1 dX2_exchangeWithMq_53 (by decide) (fun c_53 => ?_) (fun c_53 => ?_)
    · exact K_67 j52_g _ _ _ (if_pos c_53).symm (lv_sub hl [0, 1, 2, 3, 4] rfl) Z
    · refine lv_aload_n X.1 X.2.1 dX2_exchangeWithMq_56 rfl (lv_at hl 3 rfl) ?_
      refine lv_dup X.1 X.2.1 dX2_exchangeWithMq_57 rfl ?_
      refine G_X2_ac X hT Z dX2_exchangeWithMq_58 ?_
      refine lv_iload X.1 X.2.1 dX2_exchangeWithMq_61 (lv_at hl 0 rfl) ?_
      refine lv_ior X.1 X.2.1 dX2_exchangeWithMq_63 ?_
      refine P_X2_ac X hT Z dX2_exchangeWithMq_64 (fun H locs Z => ?_)
      exact K_67 (upd j52_g 0 ((j52_g 0) ||| (j15_g 3))) _ _ _ (if_neg c_53).symm (lv_sub hl [0, 1, 2, 3, 4] rfl) Z
  intro j67_g ls H locs e_j67_g hl Z
  exact hret _ _ _ _ _ Z (cw_eq (by subst e_j15_g e_j52_g e_j67_g; exact rfl) rfl) dX2_exchangeWithMq_67
def uX2_perform_j78_g (g : Nat → Int32) (mm : Nat → Nat → Int32) (a1 : Int32) (a2 : Int32) : Nat → Int32 := if (6 : Int32) ≤ (a1 >>> ((9 : Int32) &&& 31)) then (if (a1 >>> ((9 : Int32) &&& 31)) = 6 then ((gX2_performDevice g mm a1)) else (if (rX2_has a1 256) = 0 then ((gX2_changeAccumulator g mm a1)) else (if (rX2_has a1 1) = 0 then ((gX2_testAccumulator g mm a1)) else ((gX2_exchangeWithMq g mm a1))))) else ((gX2_performAddressed g (mX2_effectiveAddress g mm a1 a2) (a1 >>> ((9 : Int32) &&& 31)) (rX2_effectiveAddress g mm a1 a2)))
def uX2_perform_j78_mm (g : Nat → Int32) (mm : Nat → Nat → Int32) (a1 : Int32) (a2 : Int32) : Nat → Nat → Int32 := if (6 : Int32) ≤ (a1 >>> ((9 : Int32) &&& 31)) then (if (a1 >>> ((9 : Int32) &&& 31)) = 6 then ((mX2_performDevice g mm a1)) else (mm)) else ((mX2_performAddressed g (mX2_effectiveAddress g mm a1 a2) (a1 >>> ((9 : Int32) &&& 31)) (rX2_effectiveAddress g mm a1 a2)))
def gX2_perform (g : Nat → Int32) (mm : Nat → Nat → Int32) (a1 : Int32) (a2 : Int32) : Nat → Int32 := let j78_g : Nat → Int32 := uX2_perform_j78_g g mm a1 a2; j78_g
def mX2_perform (g : Nat → Int32) (mm : Nat → Nat → Int32) (a1 : Int32) (a2 : Int32) : Nat → Nat → Int32 := let j78_mm : Nat → Nat → Int32 := uX2_perform_j78_mm g mm a1 a2; j78_mm
set_option maxRecDepth 20000 in
set_option maxHeartbeats 4000000 in
theorem c_X2_perform (l : Launch) (D : va_G) (cI : ClassId) (q : Nat → Nat) (g : Nat → Int32) (mm : Nat → Nat → Int32) (a1 : Int32) (a2 : Int32) (hq : Cq g) : MI l D cI yX2_perform (.code yX2_perform cX2_perform 4 none) ({ frames := 3, cells := 0, slots := 0, locals := 63 } : Room) [.ref (q 0), .int a1, .int a2] (cw q cI g mm) (cw q cI (gX2_perform g mm a1 a2) (mX2_perform g mm a1 a2)) none := by
  refine MI.ofV (own := RX2) (by decide) rfl (Nat.le_of_ble_eq_true rfl) ?_
  intro p e s m args below meth c A ls Q X Z hl hret
  have hT : ∀ w ∈ TB, w ∈ (Cond.code yX2_perform cX2_perform 4 none :: TB) := fun _ h => List.mem_cons_of_mem _ h
  have hl : lv_has ls 4 [(0, .ref (q 0)), (1, .int a1), (2, .int a2)] := hl
  refine lv_iload_n X.1 X.2.1 dX2_perform_0 rfl (lv_at hl 1 rfl) ?_
  refine lv_bipush (v := 9) X.1 X.2.1 dX2_perform_1 (by decide) ?_
  refine lv_ishr X.1 X.2.1 dX2_perform_3 ?_
  refine lv_istore_n (lv' := [(3, .int (a1 >>> ((9 : Int32) &&& 31))), (0, .ref (q 0)), (1, .int a1), (2, .int a2)]) X.1 X.2.1 dX2_perform_4 rfl hl (by decide) rfl (fun ls hl => ?_)
  refine lv_iload_n X.1 X.2.1 dX2_perform_5 rfl (lv_at hl 0 rfl) ?_
  refine lv_bipush (v := 6) X.1 X.2.1 dX2_perform_6 (by decide) ?_
  suffices K_78 : ∀ (j78_g : Nat → Int32) (j78_mm : Nat → Nat → Int32) (ls : Array Slot) (H : Heap) (locs : List Loc), j78_g = uX2_perform_j78_g g mm a1 a2 → j78_mm = uX2_perform_j78_mm g mm a1 a2 → lv_has ls 4 [(3, .int (a1 >>> ((9 : Int32) &&& 31))), (0, .ref (q 0)), (1, .int a1), (2, .int a2)] → ZZ D cI (cw q cI j78_g j78_mm) A s H locs → W p l e ({ frames := 3, cells := 0, slots := 0, locals := 63 } : Room) s m args below meth c H locs 0 0 Q (F0 m 78 ls []) by
    refine lv_icmp_ge (tgt := 25) X.1 X.2.1 dX2_perform_8 (by decide) (fun c_8 => ?_) (fun c_8 => ?_)
    · refine lv_iload_n X.1 X.2.1 dX2_perform_25 rfl (lv_at hl 0 rfl) ?_
      refine lv_bipush (v := 6) X.1 X.2.1 dX2_perform_26 (by decide) ?_
      refine lv_icmp_ne (tgt := 39) X.1 X.2.1 dX2_perform_28 (by decide) (fun c_28 => ?_) (fun c_28 => ?_)
      · refine lv_iload_n X.1 X.2.1 dX2_perform_39 rfl (lv_at hl 2 rfl) ?_
        refine lv_sipush (v := 256) X.1 X.2.1 dX2_perform_40 (by decide) ?_
        refine call_Si X hT Z k_X2_126 (c_X2_has l D cI (cw q cI g mm) a1 256 ) hd_X2_has ⟨by decide, by decide⟩ ⟨rfl, rfl⟩ hl.1 (rest := []) rfl (Nat.le_of_ble_eq_true rfl) ⟨by decide, by decide⟩ dX2_perform_43 (fun H locs Z => ?_)
        refine lv_if_ne (tgt := 57) X.1 X.2.1 dX2_perform_46 (by decide) (fun c_46 => ?_) (fun c_46 => ?_)
        · refine lv_iload_n X.1 X.2.1 dX2_perform_57 rfl (lv_at hl 2 rfl) ?_
          refine lv_iconst (v := 1) X.1 X.2.1 dX2_perform_58 (by decide) ?_
          refine call_Si X hT Z k_X2_126 (c_X2_has l D cI (cw q cI g mm) a1 1 ) hd_X2_has ⟨by decide, by decide⟩ ⟨rfl, rfl⟩ hl.1 (rest := []) rfl (Nat.le_of_ble_eq_true rfl) ⟨by decide, by decide⟩ dX2_perform_59 (fun H locs Z => ?_)
          refine lv_if_ne (tgt := 73) X.1 X.2.1 dX2_perform_62 (by decide) (fun c_62 => ?_) (fun c_62 => ?_)
          · refine lv_aload_n X.1 X.2.1 dX2_perform_73 rfl (lv_at hl 1 rfl) ?_
            refine lv_iload_n X.1 X.2.1 dX2_perform_74 rfl (lv_at hl 2 rfl) ?_
            refine call_Vv X hT Z (qq := (RX2, TX2, 15)) k_X2_136 (c_X2_exchangeWithMq l D cI q g mm a1 ) rfl rfl hd_X2_exchangeWithMq ⟨by decide, by decide⟩ ⟨rfl, rfl⟩ hl.1 (rest := []) rfl (Nat.le_of_ble_eq_true rfl) ⟨by decide, by decide⟩ dX2_perform_75 (fun H locs Z => ?_)
            exact K_78 (gX2_exchangeWithMq g mm a1) mm _ _ _ ((if_pos c_8).trans ((if_neg c_28).trans ((if_neg c_46).trans (if_neg c_62)))).symm ((if_pos c_8).trans (if_neg c_28)).symm (lv_sub hl [0, 1, 2, 3] rfl) Z
          · refine lv_aload_n X.1 X.2.1 dX2_perform_65 rfl (lv_at hl 1 rfl) ?_
            refine lv_iload_n X.1 X.2.1 dX2_perform_66 rfl (lv_at hl 2 rfl) ?_
            refine call_Vv X hT Z (qq := (RX2, TX2, 15)) k_X2_133 (c_X2_testAccumulator l D cI q g mm a1 ) rfl rfl hd_X2_testAccumulator ⟨by decide, by decide⟩ ⟨rfl, rfl⟩ hl.1 (rest := []) rfl (Nat.le_of_ble_eq_true rfl) ⟨by decide, by decide⟩ dX2_perform_67 (fun H locs Z => ?_)
            refine lv_goto (tgt := 78) X.1 X.2.1 dX2_perform_70 (by decide) ?_
            exact K_78 (gX2_testAccumulator g mm a1) mm _ _ _ ((if_pos c_8).trans ((if_neg c_28).trans ((if_neg c_46).trans (if_pos c_62)))).symm ((if_pos c_8).trans (if_neg c_28)).symm (lv_sub hl [0, 1, 2, 3] rfl) Z
        · refine lv_aload_n X.1 X.2.1 dX2_perform_49 rfl (lv_at hl 1 rfl) ?_
          refine lv_iload_n X.1 X.2.1 dX2_perform_50 rfl (lv_at hl 2 rfl) ?_
          refine call_Vv X hT Z (qq := (RX2, TX2, 15)) k_X2_130 (c_X2_changeAccumulator l D cI q g mm a1 ) rfl rfl hd_X2_changeAccumulator ⟨by decide, by decide⟩ ⟨rfl, rfl⟩ hl.1 (rest := []) rfl (Nat.le_of_ble_eq_true rfl) ⟨by decide, by decide⟩ dX2_perform_51 (fun H locs Z => ?_)
          refine lv_goto (tgt := 78) X.1 X.2.1 dX2_perform_54 (by decide) ?_
          exact K_78 (gX2_changeAccumulator g mm a1) mm _ _ _ ((if_pos c_8).trans ((if_neg c_28).trans (if_pos c_46))).symm ((if_pos c_8).trans (if_neg c_28)).symm (lv_sub hl [0, 1, 2, 3] rfl) Z
      · refine lv_aload_n X.1 X.2.1 dX2_perform_31 rfl (lv_at hl 1 rfl) ?_
        refine lv_iload_n X.1 X.2.1 dX2_perform_32 rfl (lv_at hl 2 rfl) ?_
        refine call_Vv X hT Z (qq := (RX2, TX2, 15)) k_X2_123 (c_X2_performDevice l D cI q g mm a1 hq) rfl rfl hd_X2_performDevice ⟨by decide, by decide⟩ ⟨rfl, rfl⟩ hl.1 (rest := []) rfl (Nat.le_of_ble_eq_true rfl) ⟨by decide, by decide⟩ dX2_perform_33 (fun H locs Z => ?_)
        refine lv_goto (tgt := 78) X.1 X.2.1 dX2_perform_36 (by decide) ?_
        exact K_78 (gX2_performDevice g mm a1) (mX2_performDevice g mm a1) _ _ _ ((if_pos c_8).trans (if_pos c_28)).symm ((if_pos c_8).trans (if_pos c_28)).symm (lv_sub hl [0, 1, 2, 3] rfl) Z
    · refine lv_aload_n X.1 X.2.1 dX2_perform_11 rfl (lv_at hl 1 rfl) ?_
      refine lv_iload_n X.1 X.2.1 dX2_perform_12 rfl (lv_at hl 0 rfl) ?_
      refine lv_aload_n X.1 X.2.1 dX2_perform_13 rfl (lv_at hl 1 rfl) ?_
      refine lv_iload_n X.1 X.2.1 dX2_perform_14 rfl (lv_at hl 2 rfl) ?_
      refine lv_iload_n X.1 X.2.1 dX2_perform_15 rfl (lv_at hl 3 rfl) ?_
      refine call_Vi X hT Z (qq := (RX2, TX2, 15)) k_X2_116 (c_X2_effectiveAddress l D cI q g mm a1 a2 ) rfl rfl hd_X2_effectiveAddress ⟨by decide, by decide⟩ ⟨rfl, rfl⟩ hl.1 (rest := [.int (a1 >>> ((9 : Int32) &&& 31)), .ref (q 0)]) rfl (Nat.le_of_ble_eq_true rfl) ⟨by decide, by decide⟩ dX2_perform_16 (fun H locs Z => ?_)
      refine call_Vv X hT Z (qq := (RX2, TX2, 15)) k_X2_120 (c_X2_performAddressed l D cI q g (mX2_effectiveAddress g mm a1 a2) (a1 >>> ((9 : Int32) &&& 31)) (rX2_effectiveAddress g mm a1 a2) ) rfl rfl hd_X2_performAddressed ⟨by decide, by decide⟩ ⟨rfl, rfl⟩ hl.1 (rest := []) rfl (Nat.le_of_ble_eq_true rfl) ⟨by decide, by decide⟩ dX2_perform_19 (fun H locs Z => ?_)
      refine lv_goto (tgt := 78) X.1 X.2.1 dX2_perform_22 (by decide) ?_
      exact K_78 (gX2_performAddressed g (mX2_effectiveAddress g mm a1 a2) (a1 >>> ((9 : Int32) &&& 31)) (rX2_effectiveAddress g mm a1 a2)) (mX2_performAddressed g (mX2_effectiveAddress g mm a1 a2) (a1 >>> ((9 : Int32) &&& 31)) (rX2_effectiveAddress g mm a1 a2)) _ _ _ (if_neg c_8).symm (if_neg c_8).symm (lv_sub hl [0, 1, 2, 3] rfl) Z
  intro j78_g j78_mm ls H locs e_j78_g e_j78_mm hl Z
  exact hret _ _ _ _ _ Z (cw_eq (by subst e_j78_g e_j78_mm; exact rfl) (by subst e_j78_g e_j78_mm; exact rfl)) dX2_perform_78
end
section
def uX2_step_j28_g (g : Nat → Int32) (mm : Nat → Nat → Int32) : Nat → Int32 := if (g 6) = 0 then (g) else (if (g 14) = 0 then (if (g 8) = 0 then (g) else ((gX2_interrupt g mm))) else ((gX2_interrupt g mm)))
def uX2_step_j28_mm (g : Nat → Int32) (mm : Nat → Nat → Int32) : Nat → Nat → Int32 := if (g 6) = 0 then (mm) else (if (g 14) = 0 then (if (g 8) = 0 then (mm) else ((mX2_interrupt g mm))) else ((mX2_interrupt g mm)))
def uX2_step_j45_g (j28_g : Nat → Int32) : Nat → Int32 := if (j28_g 7) = 0 then (j28_g) else ((upd (upd j28_g 7 0) 6 1))
def gX2_step (g : Nat → Int32) (mm : Nat → Nat → Int32)  : Nat → Int32 := let j28_g : Nat → Int32 := uX2_step_j28_g g mm; let j28_mm : Nat → Nat → Int32 := uX2_step_j28_mm g mm; let j45_g : Nat → Int32 := uX2_step_j45_g j28_g; (gX2_perform (upd (upd j45_g 16 (ctX1_add (j45_g 16) (j28_mm 3) (j45_g 2))) 2 (rX2_next (j45_g 2))) (va_up j28_mm 3 (rwX1_add (j45_g 16) (j28_mm 3) (j45_g 2))) (rX2_wordAt j45_g j28_mm (j45_g 2)) (j45_g 2))
def mX2_step (g : Nat → Int32) (mm : Nat → Nat → Int32)  : Nat → Nat → Int32 := let j28_g : Nat → Int32 := uX2_step_j28_g g mm; let j28_mm : Nat → Nat → Int32 := uX2_step_j28_mm g mm; let j45_g : Nat → Int32 := uX2_step_j45_g j28_g; (mX2_perform (upd (upd j45_g 16 (ctX1_add (j45_g 16) (j28_mm 3) (j45_g 2))) 2 (rX2_next (j45_g 2))) (va_up j28_mm 3 (rwX1_add (j45_g 16) (j28_mm 3) (j45_g 2))) (rX2_wordAt j45_g j28_mm (j45_g 2)) (j45_g 2))
theorem cq_28 {g : Nat → Int32} {mm : Nat → Nat → Int32} (h : Cq g) : Cq (uX2_step_j28_g g mm) := by
  unfold uX2_step_j28_g
  repeat' split
  all_goals exact h
theorem cq_45 {g : Nat → Int32} (h : Cq g) : Cq (uX2_step_j45_g g) := by
  unfold uX2_step_j45_g
  repeat' split
  all_goals exact h
set_option maxRecDepth 20000 in
set_option maxHeartbeats 4000000 in
theorem c_X2_step (l : Launch) (D : va_G) (cI : ClassId) (q : Nat → Nat) (g : Nat → Int32) (mm : Nat → Nat → Int32)  (hq : Cq g) : MI l D cI yX2_step (.code yX2_step cX2_step 3 none) ({ frames := 4, cells := 0, slots := 0, locals := 86 } : Room) [.ref (q 0)] (cw q cI g mm) (cw q cI (gX2_step g mm) (mX2_step g mm)) none := by
  refine MI.ofV (own := RX2) (by decide) rfl (Nat.le_of_ble_eq_true rfl) ?_
  intro p e s m args below meth c A ls Q X Z hl hret
  have hT : ∀ w ∈ TB, w ∈ (Cond.code yX2_step cX2_step 3 none :: TB) := fun _ h => List.mem_cons_of_mem _ h
  have hl : lv_has ls 3 [(0, .ref (q 0))] := hl
  refine lv_aload_n X.1 X.2.1 dX2_step_0 rfl (lv_at hl 0 rfl) ?_
  refine G_X2_ion X hT Z dX2_step_1 ?_
  suffices K_28 : ∀ (j28_g : Nat → Int32) (j28_mm : Nat → Nat → Int32) (ls : Array Slot) (H : Heap) (locs : List Loc), j28_g = uX2_step_j28_g g mm → j28_mm = uX2_step_j28_mm g mm → lv_has ls 3 [(0, .ref (q 0))] → ZZ D cI (cw q cI j28_g j28_mm) A s H locs → W p l e ({ frames := 4, cells := 0, slots := 0, locals := 86 } : Room) s m args below meth c H locs 0 0 Q (F0 m 28 ls []) by
    refine lv_if_eq (tgt := 28) X.1 X.2.1 dX2_step_4 (by decide) (fun c_4 => ?_) (fun c_4 => ?_)
    · exact K_28 g mm _ _ _ (if_pos c_4).symm (if_pos c_4).symm (lv_sub hl [0] rfl) Z
    · refine lv_aload_n X.1 X.2.1 dX2_step_7 rfl (lv_at hl 0 rfl) ?_
      refine G_X2_reader X hT Z dX2_step_8 ?_
      refine G_X2_r_flag X hT Z dX2_step_11 ?_
      refine lv_if_ne (tgt := 24) X.1 X.2.1 dX2_step_14 (by decide) (fun c_14 => ?_) (fun c_14 => ?_)
      · refine lv_aload_n X.1 X.2.1 dX2_step_24 rfl (lv_at hl 0 rfl) ?_
        refine call_Vv X hT Z (qq := (RX2, TX2, 15)) k_X2_106 (c_X2_interrupt l D cI q g mm ) rfl rfl hd_X2_interrupt ⟨by decide, by decide⟩ ⟨rfl, rfl⟩ hl.1 (rest := []) rfl (Nat.le_of_ble_eq_true rfl) ⟨by decide, by decide⟩ dX2_step_25 (fun H locs Z => ?_)
        exact K_28 (gX2_interrupt g mm) (mX2_interrupt g mm) _ _ _ ((if_neg c_4).trans (if_neg c_14)).symm ((if_neg c_4).trans (if_neg c_14)).symm (lv_sub hl [0] rfl) Z
      · refine lv_aload_n X.1 X.2.1 dX2_step_17 rfl (lv_at hl 0 rfl) ?_
        refine G_X2_printerFlag X hT Z dX2_step_18 ?_
        refine lv_if_eq (tgt := 28) X.1 X.2.1 dX2_step_21 (by decide) (fun c_21 => ?_) (fun c_21 => ?_)
        · exact K_28 g mm _ _ _ ((if_neg c_4).trans ((if_pos c_14).trans (if_pos c_21))).symm ((if_neg c_4).trans ((if_pos c_14).trans (if_pos c_21))).symm (lv_sub hl [0] rfl) Z
        · refine lv_aload_n X.1 X.2.1 dX2_step_24 rfl (lv_at hl 0 rfl) ?_
          refine call_Vv X hT Z (qq := (RX2, TX2, 15)) k_X2_106 (c_X2_interrupt l D cI q g mm ) rfl rfl hd_X2_interrupt ⟨by decide, by decide⟩ ⟨rfl, rfl⟩ hl.1 (rest := []) rfl (Nat.le_of_ble_eq_true rfl) ⟨by decide, by decide⟩ dX2_step_25 (fun H locs Z => ?_)
          exact K_28 (gX2_interrupt g mm) (mX2_interrupt g mm) _ _ _ ((if_neg c_4).trans ((if_pos c_14).trans (if_neg c_21))).symm ((if_neg c_4).trans ((if_pos c_14).trans (if_neg c_21))).symm (lv_sub hl [0] rfl) Z
  intro j28_g j28_mm ls H locs e_j28_g e_j28_mm hl Z
  refine lv_aload_n X.1 X.2.1 dX2_step_28 rfl (lv_at hl 0 rfl) ?_
  refine G_X2_delay X hT Z dX2_step_29 ?_
  suffices K_45 : ∀ (j45_g : Nat → Int32) (ls : Array Slot) (H : Heap) (locs : List Loc), j45_g = uX2_step_j45_g j28_g → lv_has ls 3 [(0, .ref (q 0))] → ZZ D cI (cw q cI j45_g j28_mm) A s H locs → W p l e ({ frames := 4, cells := 0, slots := 0, locals := 86 } : Room) s m args below meth c H locs 0 0 Q (F0 m 45 ls []) by
    refine lv_if_eq (tgt := 45) X.1 X.2.1 dX2_step_32 (by decide) (fun c_32 => ?_) (fun c_32 => ?_)
    · exact K_45 j28_g _ _ _ (if_pos c_32).symm (lv_sub hl [0] rfl) Z
    · refine lv_aload_n X.1 X.2.1 dX2_step_35 rfl (lv_at hl 0 rfl) ?_
      refine lv_iconst (v := 0) X.1 X.2.1 dX2_step_36 (by decide) ?_
      refine P_X2_delay X hT Z ⟨rfl, rfl⟩ dX2_step_37 (fun H locs Z => ?_)
      refine lv_aload_n X.1 X.2.1 dX2_step_40 rfl (lv_at hl 0 rfl) ?_
      refine lv_iconst (v := 1) X.1 X.2.1 dX2_step_41 (by decide) ?_
      refine P_X2_ion X hT Z ⟨rfl, rfl⟩ dX2_step_42 (fun H locs Z => ?_)
      exact K_45 (upd (upd j28_g 7 0) 6 1) _ _ _ (if_neg c_32).symm (lv_sub hl [0] rfl) Z
  intro j45_g ls H locs e_j45_g hl Z
  refine lv_aload_n X.1 X.2.1 dX2_step_45 rfl (lv_at hl 0 rfl) ?_
  refine G_X2_pc X hT Z dX2_step_46 ?_
  refine lv_istore_n (lv' := [(1, .int (j45_g 2)), (0, .ref (q 0))]) X.1 X.2.1 dX2_step_49 rfl hl (by decide) rfl (fun ls hl => ?_)
  refine lv_aload_n X.1 X.2.1 dX2_step_50 rfl (lv_at hl 1 rfl) ?_
  refine lv_iload_n X.1 X.2.1 dX2_step_51 rfl (lv_at hl 0 rfl) ?_
  refine call_Vi X hT Z (qq := (RX2, TX2, 15)) k_X2_41 (c_X2_wordAt l D cI q j45_g j28_mm (j45_g 2) ) rfl rfl hd_X2_wordAt ⟨by decide, by decide⟩ ⟨rfl, rfl⟩ hl.1 (rest := []) rfl (Nat.le_of_ble_eq_true rfl) ⟨by decide, by decide⟩ dX2_step_52 (fun H locs Z => ?_)
  refine lv_istore_n (lv' := [(2, .int (rX2_wordAt j45_g j28_mm (j45_g 2))), (1, .int (j45_g 2)), (0, .ref (q 0))]) X.1 X.2.1 dX2_step_55 rfl hl (by decide) rfl (fun ls hl => ?_)
  refine lv_aload_n X.1 X.2.1 dX2_step_56 rfl (lv_at hl 2 rfl) ?_
  refine G_X2_steps X hT Z dX2_step_57 ?_
  refine lv_iload_n X.1 X.2.1 dX2_step_60 rfl (lv_at hl 1 rfl) ?_
  refine call_Nv X hT Z (wc := rcw (q 4) (q 7) cI (j45_g 16) (j28_mm 3)) (wr := [(q 0, .inr (2, [.ref (q 1), .ref (q 2), .ref (q 3), .ref (q 4), .int (j45_g 0), .int (j45_g 1), .int (j45_g 2), .int (j45_g 3), .int (j45_g 4), .int (j45_g 5), .int (j45_g 6), .int (j45_g 7), .int (j45_g 8), .int (j45_g 9), .int (j45_g 10)])), (q 1, .inl (cI, 4096, .inl (j28_mm 0))), (q 2, .inr (0, [.ref (q 5), .int (j45_g 11), .int (j45_g 12), .int (j45_g 13), .int (j45_g 14)])), (q 5, .inl (cI, 400, .inl (j28_mm 1))), (q 3, .inr (1, [.ref (q 6), .int (j45_g 15)])), (q 6, .inl (cI, 64, .inl (j28_mm 2)))]) [6, 7] [0, 1, 2, 3, 4, 5] rfl rfl rfl rfl (by decide) (qq := (RX1, TX1, 2)) k_X2_109 (c_X1_add l D cI (q 4) (q 7) (j45_g 16) (j28_mm 3) (j45_g 2) ) rfl rfl hd_X1_add ⟨by decide, by decide⟩ ⟨rfl, rfl⟩ hl.1 (rest := []) rfl (Nat.le_of_ble_eq_true rfl) ⟨by decide, by decide⟩ dX2_step_61 (fun H locs Z => ?_)
  have Z := Z.perm (ws' := cw q cI (upd j45_g 16 (ctX1_add (j45_g 16) (j28_mm 3) (j45_g 2))) (va_up j28_mm 3 (rwX1_add (j45_g 16) (j28_mm 3) (j45_g 2)))) [0, 1, 2, 3, 4, 5, 6, 7] rfl rfl
  refine lv_aload_n X.1 X.2.1 dX2_step_64 rfl (lv_at hl 2 rfl) ?_
  refine lv_iload_n X.1 X.2.1 dX2_step_65 rfl (lv_at hl 1 rfl) ?_
  refine call_Si X hT Z k_X2_103 (c_X2_next l D cI (cw q cI (upd j45_g 16 (ctX1_add (j45_g 16) (j28_mm 3) (j45_g 2))) (va_up j28_mm 3 (rwX1_add (j45_g 16) (j28_mm 3) (j45_g 2)))) (j45_g 2) ) hd_X2_next ⟨by decide, by decide⟩ ⟨rfl, rfl⟩ hl.1 (rest := [.ref (q 0)]) rfl (Nat.le_of_ble_eq_true rfl) ⟨by decide, by decide⟩ dX2_step_66 (fun H locs Z => ?_)
  refine P_X2_pc X hT Z dX2_step_69 (fun H locs Z => ?_)
  refine lv_aload_n X.1 X.2.1 dX2_step_72 rfl (lv_at hl 2 rfl) ?_
  refine lv_iload_n X.1 X.2.1 dX2_step_73 rfl (lv_at hl 0 rfl) ?_
  refine lv_iload_n X.1 X.2.1 dX2_step_74 rfl (lv_at hl 1 rfl) ?_
  refine call_Vv X hT Z (qq := (RX2, TX2, 15)) k_X2_113 (c_X2_perform l D cI q (upd (upd j45_g 16 (ctX1_add (j45_g 16) (j28_mm 3) (j45_g 2))) 2 (rX2_next (j45_g 2))) (va_up j28_mm 3 (rwX1_add (j45_g 16) (j28_mm 3) (j45_g 2))) (rX2_wordAt j45_g j28_mm (j45_g 2)) (j45_g 2) (by subst e_j45_g e_j28_g; exact cq_45 (cq_28 hq))) rfl rfl hd_X2_perform ⟨by decide, by decide⟩ ⟨rfl, rfl⟩ hl.1 (rest := []) rfl (Nat.le_of_ble_eq_true rfl) ⟨by decide, by decide⟩ dX2_step_75 (fun H locs Z => ?_)
  exact hret _ _ _ _ _ Z (cw_eq (by subst e_j28_g e_j28_mm e_j45_g; exact rfl) (by subst e_j28_g e_j28_mm e_j45_g; exact rfl)) dX2_step_78
def gX2_feed (g : Nat → Int32) (mm : Nat → Nat → Int32) (a1 : Int32) : Nat → Int32 := (upd g 11 (fdX0_append (g 11) (g 12) (g 13) (g 14) (mm 1) a1))
def mX2_feed (g : Nat → Int32) (mm : Nat → Nat → Int32) (a1 : Int32) : Nat → Nat → Int32 := (va_up mm 1 (tpX0_append (g 11) (g 12) (g 13) (g 14) (mm 1) a1))
def rX2_feed (g : Nat → Int32) (mm : Nat → Nat → Int32) (a1 : Int32) : Int32 := (rX0_append (g 11) (g 12) (g 13) (g 14) (mm 1) a1)
set_option maxRecDepth 20000 in
set_option maxHeartbeats 4000000 in
theorem c_X2_feed (l : Launch) (D : va_G) (cI : ClassId) (q : Nat → Nat) (g : Nat → Int32) (mm : Nat → Nat → Int32) (a1 : Int32) (hf : ¬ g 11 < 0) : MI l D cI yX2_feed (.code yX2_feed cX2_feed 2 (some .boolean)) ({ frames := 1, cells := 0, slots := 0, locals := 21 } : Room) [.ref (q 0), .int a1] (cw q cI g mm) (cw q cI (gX2_feed g mm a1) (mX2_feed g mm a1)) (some (.int (rX2_feed g mm a1))) := by
  refine MI.ofZ (own := RX2) (by decide) rfl (Nat.le_of_ble_eq_true rfl) ?_
  intro p e s m args below meth c A ls Q X Z hl hret
  have hT : ∀ w ∈ TB, w ∈ (Cond.code yX2_feed cX2_feed 2 (some .boolean) :: TB) := fun _ h => List.mem_cons_of_mem _ h
  have hl : lv_has ls 2 [(0, .ref (q 0)), (1, .int a1)] := hl
  refine lv_aload_n X.1 X.2.1 dX2_feed_0 rfl (lv_at hl 0 rfl) ?_
  refine G_X2_reader X hT Z dX2_feed_1 ?_
  refine lv_iload_n X.1 X.2.1 dX2_feed_4 rfl (lv_at hl 1 rfl) ?_
  refine call_Ni X hT Z (wc := rdw (q 2) (q 5) cI (g 11) (g 12) (g 13) (g 14) (mm 1)) (wr := [(q 0, .inr (2, [.ref (q 1), .ref (q 2), .ref (q 3), .ref (q 4), .int (g 0), .int (g 1), .int (g 2), .int (g 3), .int (g 4), .int (g 5), .int (g 6), .int (g 7), .int (g 8), .int (g 9), .int (g 10)])), (q 1, .inl (cI, 4096, .inl (mm 0))), (q 3, .inr (1, [.ref (q 6), .int (g 15)])), (q 6, .inl (cI, 64, .inl (mm 2))), (q 4, .inr (1, [.ref (q 7), .int (g 16)])), (q 7, .inl (cI, 64, .inl (mm 3)))]) [2, 3] [0, 1, 4, 5, 6, 7] rfl rfl rfl rfl (by decide) (qq := (RX0, TX0, 5)) k_X2_30 (c_X0_append l D cI (q 2) (q 5) (g 11) (g 12) (g 13) (g 14) (mm 1) a1 hf) rfl rfl hd_X0_append ⟨by decide, by decide⟩ ⟨rfl, rfl⟩ hl.1 (rest := []) rfl (Nat.le_of_ble_eq_true rfl) ⟨by decide, by decide⟩ dX2_feed_5 (fun H locs Z => ?_)
  have Z := Z.perm (ws' := cw q cI (upd g 11 (fdX0_append (g 11) (g 12) (g 13) (g 14) (mm 1) a1)) (va_up mm 1 (tpX0_append (g 11) (g 12) (g 13) (g 14) (mm 1) a1))) [0, 1, 6, 7, 2, 3, 4, 5] rfl rfl
  exact hret _ _ _ _ _ _ Z (cw_eq rfl rfl) rfl nb_append dX2_feed_8
def rX2_waiting (g : Nat → Int32) (mm : Nat → Nat → Int32)  : Int32 := (rX0_unread (g 11) (g 12) (g 13) (g 14) (mm 1))
set_option maxRecDepth 20000 in
set_option maxHeartbeats 4000000 in
theorem c_X2_waiting (l : Launch) (D : va_G) (cI : ClassId) (q : Nat → Nat) (g : Nat → Int32) (mm : Nat → Nat → Int32)   : MI l D cI yX2_waiting (.code yX2_waiting cX2_waiting 1 (some .int)) ({ frames := 1, cells := 0, slots := 0, locals := 20 } : Room) [.ref (q 0)] (cw q cI g mm) (cw q cI g mm) (some (.int (rX2_waiting g mm))) := by
  refine MI.ofI (own := RX2) (by decide) rfl (Nat.le_of_ble_eq_true rfl) ?_
  intro p e s m args below meth c A ls Q X Z hl hret
  have hT : ∀ w ∈ TB, w ∈ (Cond.code yX2_waiting cX2_waiting 1 (some .int) :: TB) := fun _ h => List.mem_cons_of_mem _ h
  have hl : lv_has ls 1 [(0, .ref (q 0))] := hl
  refine lv_aload_n X.1 X.2.1 dX2_waiting_0 rfl (lv_at hl 0 rfl) ?_
  refine G_X2_reader X hT Z dX2_waiting_1 ?_
  refine call_Ni X hT Z (wc := rdw (q 2) (q 5) cI (g 11) (g 12) (g 13) (g 14) (mm 1)) (wr := [(q 0, .inr (2, [.ref (q 1), .ref (q 2), .ref (q 3), .ref (q 4), .int (g 0), .int (g 1), .int (g 2), .int (g 3), .int (g 4), .int (g 5), .int (g 6), .int (g 7), .int (g 8), .int (g 9), .int (g 10)])), (q 1, .inl (cI, 4096, .inl (mm 0))), (q 3, .inr (1, [.ref (q 6), .int (g 15)])), (q 6, .inl (cI, 64, .inl (mm 2))), (q 4, .inr (1, [.ref (q 7), .int (g 16)])), (q 7, .inl (cI, 64, .inl (mm 3)))]) [2, 3] [0, 1, 4, 5, 6, 7] rfl rfl rfl rfl (by decide) (qq := (RX0, TX0, 5)) k_X2_34 (c_X0_unread l D cI (q 2) (q 5) (g 11) (g 12) (g 13) (g 14) (mm 1) ) rfl rfl hd_X0_unread ⟨by decide, by decide⟩ ⟨rfl, rfl⟩ hl.1 (rest := []) rfl (Nat.le_of_ble_eq_true rfl) ⟨by decide, by decide⟩ dX2_waiting_4 (fun H locs Z => ?_)
  have Z := Z.perm (ws' := cw q cI g mm) [0, 1, 6, 7, 2, 3, 4, 5] rfl rfl
  exact hret _ _ _ _ _ _ Z (cw_eq rfl rfl) rfl dX2_waiting_7
def mX2_poke (g : Nat → Int32) (mm : Nat → Nat → Int32) (a1 : Int32) (a2 : Int32) : Nat → Nat → Int32 := if (rX2_isAddress a1) = 0 then (mm) else ((mX2_putWord g mm a1 a2))
def rX2_poke (g : Nat → Int32) (mm : Nat → Nat → Int32) (a1 : Int32) (a2 : Int32) : Int32 := if (rX2_isAddress a1) = 0 then ((-1)) else ((rX2_wordAt g mm a1))
set_option maxRecDepth 20000 in
set_option maxHeartbeats 4000000 in
theorem c_X2_poke (l : Launch) (D : va_G) (cI : ClassId) (q : Nat → Nat) (g : Nat → Int32) (mm : Nat → Nat → Int32) (a1 : Int32) (a2 : Int32)  : MI l D cI yX2_poke (.code yX2_poke cX2_poke 4 (some .int)) ({ frames := 1, cells := 0, slots := 0, locals := 22 } : Room) [.ref (q 0), .int a1, .int a2] (cw q cI g mm) (cw q cI g (mX2_poke g mm a1 a2)) (some (.int (rX2_poke g mm a1 a2))) := by
  refine MI.ofI (own := RX2) (by decide) rfl (Nat.le_of_ble_eq_true rfl) ?_
  intro p e s m args below meth c A ls Q X Z hl hret
  have hT : ∀ w ∈ TB, w ∈ (Cond.code yX2_poke cX2_poke 4 (some .int) :: TB) := fun _ h => List.mem_cons_of_mem _ h
  have hl : lv_has ls 4 [(0, .ref (q 0)), (1, .int a1), (2, .int a2)] := hl
  refine lv_iload_n X.1 X.2.1 dX2_poke_0 rfl (lv_at hl 1 rfl) ?_
  refine call_Si X hT Z k_X2_38 (c_X2_isAddress l D cI (cw q cI g mm) a1 ) hd_X2_isAddress ⟨by decide, by decide⟩ ⟨rfl, rfl⟩ hl.1 (rest := []) rfl (Nat.le_of_ble_eq_true rfl) ⟨by decide, by decide⟩ dX2_poke_1 (fun H locs Z => ?_)
  refine lv_if_ne (tgt := 9) X.1 X.2.1 dX2_poke_4 (by decide) (fun c_4 => ?_) (fun c_4 => ?_)
  · refine lv_aload_n X.1 X.2.1 dX2_poke_9 rfl (lv_at hl 0 rfl) ?_
    refine lv_iload_n X.1 X.2.1 dX2_poke_10 rfl (lv_at hl 1 rfl) ?_
    refine call_Vi X hT Z (qq := (RX2, TX2, 15)) k_X2_41 (c_X2_wordAt l D cI q g mm a1 ) rfl rfl hd_X2_wordAt ⟨by decide, by decide⟩ ⟨rfl, rfl⟩ hl.1 (rest := []) rfl (Nat.le_of_ble_eq_true rfl) ⟨by decide, by decide⟩ dX2_poke_11 (fun H locs Z => ?_)
    refine lv_istore_n (lv' := [(3, .int (rX2_wordAt g mm a1)), (0, .ref (q 0)), (1, .int a1), (2, .int a2)]) X.1 X.2.1 dX2_poke_14 rfl hl (by decide) rfl (fun ls hl => ?_)
    refine lv_aload_n X.1 X.2.1 dX2_poke_15 rfl (lv_at hl 1 rfl) ?_
    refine lv_iload_n X.1 X.2.1 dX2_poke_16 rfl (lv_at hl 2 rfl) ?_
    refine lv_iload_n X.1 X.2.1 dX2_poke_17 rfl (lv_at hl 3 rfl) ?_
    refine call_Vv X hT Z (qq := (RX2, TX2, 15)) k_X2_45 (c_X2_putWord l D cI q g mm a1 a2 ) rfl rfl hd_X2_putWord ⟨by decide, by decide⟩ ⟨rfl, rfl⟩ hl.1 (rest := []) rfl (Nat.le_of_ble_eq_true rfl) ⟨by decide, by decide⟩ dX2_poke_18 (fun H locs Z => ?_)
    refine lv_iload_n X.1 X.2.1 dX2_poke_21 rfl (lv_at hl 0 rfl) ?_
    exact hret _ _ _ _ _ _ Z (cw_eq rfl (if_neg c_4).symm) (if_neg c_4).symm dX2_poke_22
  · refine lv_iconst (v := (-1)) X.1 X.2.1 dX2_poke_7 (by decide) ?_
    exact hret _ _ _ _ _ _ Z (cw_eq rfl (if_pos c_4).symm) (if_pos c_4).symm dX2_poke_8
def uX2_peek_j16_s0 (g : Nat → Int32) (mm : Nat → Nat → Int32) (a1 : Int32) : Int32 := if (rX2_isAddress a1) = 0 then ((-1)) else ((rX2_wordAt g mm a1))
def rX2_peek (g : Nat → Int32) (mm : Nat → Nat → Int32) (a1 : Int32) : Int32 := let j16_s0 : Int32 := uX2_peek_j16_s0 g mm a1; j16_s0
set_option maxRecDepth 20000 in
set_option maxHeartbeats 4000000 in
theorem c_X2_peek (l : Launch) (D : va_G) (cI : ClassId) (q : Nat → Nat) (g : Nat → Int32) (mm : Nat → Nat → Int32) (a1 : Int32)  : MI l D cI yX2_peek (.code yX2_peek cX2_peek 2 (some .int)) ({ frames := 1, cells := 0, slots := 0, locals := 21 } : Room) [.ref (q 0), .int a1] (cw q cI g mm) (cw q cI g mm) (some (.int (rX2_peek g mm a1))) := by
  refine MI.ofI (own := RX2) (by decide) rfl (Nat.le_of_ble_eq_true rfl) ?_
  intro p e s m args below meth c A ls Q X Z hl hret
  have hT : ∀ w ∈ TB, w ∈ (Cond.code yX2_peek cX2_peek 2 (some .int) :: TB) := fun _ h => List.mem_cons_of_mem _ h
  have hl : lv_has ls 2 [(0, .ref (q 0)), (1, .int a1)] := hl
  refine lv_iload_n X.1 X.2.1 dX2_peek_0 rfl (lv_at hl 1 rfl) ?_
  refine call_Si X hT Z k_X2_38 (c_X2_isAddress l D cI (cw q cI g mm) a1 ) hd_X2_isAddress ⟨by decide, by decide⟩ ⟨rfl, rfl⟩ hl.1 (rest := []) rfl (Nat.le_of_ble_eq_true rfl) ⟨by decide, by decide⟩ dX2_peek_1 (fun H locs Z => ?_)
  suffices K_16 : ∀ (j16_s0 : Int32) (ls : Array Slot) (H : Heap) (locs : List Loc), j16_s0 = uX2_peek_j16_s0 g mm a1 → lv_has ls 2 [(0, .ref (q 0)), (1, .int a1)] → ZZ D cI (cw q cI g mm) A s H locs → W p l e ({ frames := 1, cells := 0, slots := 0, locals := 21 } : Room) s m args below meth c H locs 0 0 Q (F0 m 16 ls [.int j16_s0]) by
    refine lv_if_eq (tgt := 15) X.1 X.2.1 dX2_peek_4 (by decide) (fun c_4 => ?_) (fun c_4 => ?_)
    · refine lv_iconst (v := (-1)) X.1 X.2.1 dX2_peek_15 (by decide) ?_
      exact K_16 (-1) _ _ _ (if_pos c_4).symm (lv_sub hl [0, 1] rfl) Z
    · refine lv_aload_n X.1 X.2.1 dX2_peek_7 rfl (lv_at hl 0 rfl) ?_
      refine lv_iload_n X.1 X.2.1 dX2_peek_8 rfl (lv_at hl 1 rfl) ?_
      refine call_Vi X hT Z (qq := (RX2, TX2, 15)) k_X2_41 (c_X2_wordAt l D cI q g mm a1 ) rfl rfl hd_X2_wordAt ⟨by decide, by decide⟩ ⟨rfl, rfl⟩ hl.1 (rest := []) rfl (Nat.le_of_ble_eq_true rfl) ⟨by decide, by decide⟩ dX2_peek_9 (fun H locs Z => ?_)
      refine lv_goto (tgt := 16) X.1 X.2.1 dX2_peek_12 (by decide) ?_
      exact K_16 (rX2_wordAt g mm a1) _ _ _ (if_neg c_4).symm (lv_sub hl [0, 1] rfl) Z
  intro j16_s0 ls H locs e_j16_s0 hl Z
  exact hret _ _ _ _ _ _ Z (cw_eq rfl rfl) (by subst e_j16_s0; exact rfl) dX2_peek_16
def gX2_set (g : Nat → Int32) (mm : Nat → Nat → Int32) (a1 : Int32) (a2 : Int32) : Nat → Int32 := if a1 = 0 then ((upd g 0 (a2 &&& 4095))) else (if a1 = 1 then ((upd g 1 (a2 &&& 1))) else (if a1 = 2 then ((upd g 2 (a2 &&& 4095))) else (if a1 = 3 then ((upd g 3 (a2 &&& 4095))) else (if a1 = 4 then ((upd g 4 (a2 &&& 4095))) else (g)))))
def rX2_set (g : Nat → Int32) (mm : Nat → Nat → Int32) (a1 : Int32) (a2 : Int32) : Int32 := if a1 = 0 then (1) else (if a1 = 1 then (1) else (if a1 = 2 then (1) else (if a1 = 3 then (1) else (if a1 = 4 then (1) else (0)))))
set_option maxRecDepth 20000 in
set_option maxHeartbeats 4000000 in
theorem c_X2_set (l : Launch) (D : va_G) (cI : ClassId) (q : Nat → Nat) (g : Nat → Int32) (mm : Nat → Nat → Int32) (a1 : Int32) (a2 : Int32)  : MI l D cI yX2_set (.code yX2_set cX2_set 3 (some .boolean)) ({ frames := 0, cells := 0, slots := 0, locals := 0 } : Room) [.ref (q 0), .int a1, .int a2] (cw q cI g mm) (cw q cI (gX2_set g mm a1 a2) mm) (some (.int (rX2_set g mm a1 a2))) := by
  refine MI.ofZ (own := RX2) (by decide) rfl (Nat.le_of_ble_eq_true rfl) ?_
  intro p e s m args below meth c A ls Q X Z hl hret
  have hT : ∀ w ∈ TB, w ∈ (Cond.code yX2_set cX2_set 3 (some .boolean) :: TB) := fun _ h => List.mem_cons_of_mem _ h
  have hl : lv_has ls 3 [(0, .ref (q 0)), (1, .int a1), (2, .int a2)] := hl
  refine lv_iload_n X.1 X.2.1 dX2_set_0 rfl (lv_at hl 1 rfl) ?_
  by_cases c_1_0 : a1 = 0
  · refine lv_tableIn (tgt := 36) (off := 35) X.1 X.2.1 dX2_set_1 (by rw [c_1_0]; decide) (by rw [c_1_0]; decide) (by rw [c_1_0]; decide) (by decide) ?_
    refine lv_aload_n X.1 X.2.1 dX2_set_36 rfl (lv_at hl 0 rfl) ?_
    refine lv_iload_n X.1 X.2.1 dX2_set_37 rfl (lv_at hl 2 rfl) ?_
    refine lv_sipush (v := 4095) X.1 X.2.1 dX2_set_38 (by decide) ?_
    refine lv_iand X.1 X.2.1 dX2_set_41 ?_
    refine P_X2_ac X hT Z dX2_set_42 (fun H locs Z => ?_)
    refine lv_iconst (v := 1) X.1 X.2.1 dX2_set_45 (by decide) ?_
    exact hret _ _ _ _ _ _ Z (cw_eq (if_pos c_1_0).symm rfl) (if_pos c_1_0).symm rfl dX2_set_46
  · by_cases c_1_1 : a1 = 1
    · refine lv_tableIn (tgt := 47) (off := 46) X.1 X.2.1 dX2_set_1 (by rw [c_1_1]; decide) (by rw [c_1_1]; decide) (by rw [c_1_1]; decide) (by decide) ?_
      refine lv_aload_n X.1 X.2.1 dX2_set_47 rfl (lv_at hl 0 rfl) ?_
      refine lv_iload_n X.1 X.2.1 dX2_set_48 rfl (lv_at hl 2 rfl) ?_
      refine lv_iconst (v := 1) X.1 X.2.1 dX2_set_49 (by decide) ?_
      refine lv_iand X.1 X.2.1 dX2_set_50 ?_
      refine P_X2_link X hT Z dX2_set_51 (fun H locs Z => ?_)
      refine lv_iconst (v := 1) X.1 X.2.1 dX2_set_54 (by decide) ?_
      exact hret _ _ _ _ _ _ Z (cw_eq ((if_neg c_1_0).trans (if_pos c_1_1)).symm rfl) ((if_neg c_1_0).trans (if_pos c_1_1)).symm rfl dX2_set_55
    · by_cases c_1_2 : a1 = 2
      · refine lv_tableIn (tgt := 56) (off := 55) X.1 X.2.1 dX2_set_1 (by rw [c_1_2]; decide) (by rw [c_1_2]; decide) (by rw [c_1_2]; decide) (by decide) ?_
        refine lv_aload_n X.1 X.2.1 dX2_set_56 rfl (lv_at hl 0 rfl) ?_
        refine lv_iload_n X.1 X.2.1 dX2_set_57 rfl (lv_at hl 2 rfl) ?_
        refine lv_sipush (v := 4095) X.1 X.2.1 dX2_set_58 (by decide) ?_
        refine lv_iand X.1 X.2.1 dX2_set_61 ?_
        refine P_X2_pc X hT Z dX2_set_62 (fun H locs Z => ?_)
        refine lv_iconst (v := 1) X.1 X.2.1 dX2_set_65 (by decide) ?_
        exact hret _ _ _ _ _ _ Z (cw_eq ((if_neg c_1_0).trans ((if_neg c_1_1).trans (if_pos c_1_2))).symm rfl) ((if_neg c_1_0).trans ((if_neg c_1_1).trans (if_pos c_1_2))).symm rfl dX2_set_66
      · by_cases c_1_3 : a1 = 3
        · refine lv_tableIn (tgt := 67) (off := 66) X.1 X.2.1 dX2_set_1 (by rw [c_1_3]; decide) (by rw [c_1_3]; decide) (by rw [c_1_3]; decide) (by decide) ?_
          refine lv_aload_n X.1 X.2.1 dX2_set_67 rfl (lv_at hl 0 rfl) ?_
          refine lv_iload_n X.1 X.2.1 dX2_set_68 rfl (lv_at hl 2 rfl) ?_
          refine lv_sipush (v := 4095) X.1 X.2.1 dX2_set_69 (by decide) ?_
          refine lv_iand X.1 X.2.1 dX2_set_72 ?_
          refine P_X2_mq X hT Z dX2_set_73 (fun H locs Z => ?_)
          refine lv_iconst (v := 1) X.1 X.2.1 dX2_set_76 (by decide) ?_
          exact hret _ _ _ _ _ _ Z (cw_eq ((if_neg c_1_0).trans ((if_neg c_1_1).trans ((if_neg c_1_2).trans (if_pos c_1_3)))).symm rfl) ((if_neg c_1_0).trans ((if_neg c_1_1).trans ((if_neg c_1_2).trans (if_pos c_1_3)))).symm rfl dX2_set_77
        · by_cases c_1_4 : a1 = 4
          · refine lv_tableIn (tgt := 78) (off := 77) X.1 X.2.1 dX2_set_1 (by rw [c_1_4]; decide) (by rw [c_1_4]; decide) (by rw [c_1_4]; decide) (by decide) ?_
            refine lv_aload_n X.1 X.2.1 dX2_set_78 rfl (lv_at hl 0 rfl) ?_
            refine lv_iload_n X.1 X.2.1 dX2_set_79 rfl (lv_at hl 2 rfl) ?_
            refine lv_sipush (v := 4095) X.1 X.2.1 dX2_set_80 (by decide) ?_
            refine lv_iand X.1 X.2.1 dX2_set_83 ?_
            refine P_X2_sr X hT Z dX2_set_84 (fun H locs Z => ?_)
            refine lv_iconst (v := 1) X.1 X.2.1 dX2_set_87 (by decide) ?_
            exact hret _ _ _ _ _ _ Z (cw_eq ((if_neg c_1_0).trans ((if_neg c_1_1).trans ((if_neg c_1_2).trans ((if_neg c_1_3).trans (if_pos c_1_4))))).symm rfl) ((if_neg c_1_0).trans ((if_neg c_1_1).trans ((if_neg c_1_2).trans ((if_neg c_1_3).trans (if_pos c_1_4))))).symm rfl dX2_set_88
          · by_cases hsw : a1.toInt < 0 ∨ 4 < a1.toInt
            · refine lv_tableOut (tgt := 89) X.1 X.2.1 dX2_set_1 hsw (by decide) ?_
              refine lv_iconst (v := 0) X.1 X.2.1 dX2_set_89 (by decide) ?_
              exact hret _ _ _ _ _ _ Z (cw_eq ((if_neg c_1_0).trans ((if_neg c_1_1).trans ((if_neg c_1_2).trans ((if_neg c_1_3).trans (if_neg c_1_4))))).symm rfl) ((if_neg c_1_0).trans ((if_neg c_1_1).trans ((if_neg c_1_2).trans ((if_neg c_1_3).trans (if_neg c_1_4))))).symm rfl dX2_set_90
            · obtain ⟨j, hj, hx⟩ := sw_def hsw
              have hne : j ≠ 0 ∧ j ≠ 1 ∧ j ≠ 2 ∧ j ≠ 3 ∧ j ≠ 4 := ⟨(fun h => absurd (by omega) (lv_neT (a := 0) c_1_0 (by decide))), (fun h => absurd (by omega) (lv_neT (a := 1) c_1_1 (by decide))), (fun h => absurd (by omega) (lv_neT (a := 2) c_1_2 (by decide))), (fun h => absurd (by omega) (lv_neT (a := 3) c_1_3 (by decide))), (fun h => absurd (by omega) (lv_neT (a := 4) c_1_4 (by decide)))⟩
              omega
def rX2_register (g : Nat → Int32) (mm : Nat → Nat → Int32) (a1 : Int32) : Int32 := if a1 = 0 then ((g 0)) else (if a1 = 1 then ((g 1)) else (if a1 = 2 then ((g 2)) else (if a1 = 3 then ((g 3)) else (if a1 = 4 then ((g 4)) else (if a1 = 5 then ((rX2_bit (g 6))) else (if a1 = 6 then ((rX2_bit (g 7))) else (if a1 = 7 then ((rX2_bit (g 14))) else (if a1 = 8 then ((g 13)) else (if a1 = 9 then ((rX2_bit (g 8))) else (if a1 = 10 then ((rX2_bit (g 5))) else ((-1))))))))))))
set_option maxRecDepth 20000 in
set_option maxHeartbeats 4000000 in
theorem c_X2_register (l : Launch) (D : va_G) (cI : ClassId) (q : Nat → Nat) (g : Nat → Int32) (mm : Nat → Nat → Int32) (a1 : Int32)  : MI l D cI yX2_register (.code yX2_register cX2_register 2 (some .int)) ({ frames := 1, cells := 0, slots := 0, locals := 20 } : Room) [.ref (q 0), .int a1] (cw q cI g mm) (cw q cI g mm) (some (.int (rX2_register g mm a1))) := by
  refine MI.ofI (own := RX2) (by decide) rfl (Nat.le_of_ble_eq_true rfl) ?_
  intro p e s m args below meth c A ls Q X Z hl hret
  have hT : ∀ w ∈ TB, w ∈ (Cond.code yX2_register cX2_register 2 (some .int) :: TB) := fun _ h => List.mem_cons_of_mem _ h
  have hl : lv_has ls 2 [(0, .ref (q 0)), (1, .int a1)] := hl
  refine lv_iload_n X.1 X.2.1 dX2_register_0 rfl (lv_at hl 1 rfl) ?_
  by_cases c_1_0 : a1 = 0
  · refine lv_tableIn (tgt := 60) (off := 59) X.1 X.2.1 dX2_register_1 (by rw [c_1_0]; decide) (by rw [c_1_0]; decide) (by rw [c_1_0]; decide) (by decide) ?_
    refine lv_aload_n X.1 X.2.1 dX2_register_60 rfl (lv_at hl 0 rfl) ?_
    refine G_X2_ac X hT Z dX2_register_61 ?_
    exact hret _ _ _ _ _ _ Z (cw_eq rfl rfl) (if_pos c_1_0).symm dX2_register_64
  · by_cases c_1_1 : a1 = 1
    · refine lv_tableIn (tgt := 65) (off := 64) X.1 X.2.1 dX2_register_1 (by rw [c_1_1]; decide) (by rw [c_1_1]; decide) (by rw [c_1_1]; decide) (by decide) ?_
      refine lv_aload_n X.1 X.2.1 dX2_register_65 rfl (lv_at hl 0 rfl) ?_
      refine G_X2_link X hT Z dX2_register_66 ?_
      exact hret _ _ _ _ _ _ Z (cw_eq rfl rfl) ((if_neg c_1_0).trans (if_pos c_1_1)).symm dX2_register_69
    · by_cases c_1_2 : a1 = 2
      · refine lv_tableIn (tgt := 70) (off := 69) X.1 X.2.1 dX2_register_1 (by rw [c_1_2]; decide) (by rw [c_1_2]; decide) (by rw [c_1_2]; decide) (by decide) ?_
        refine lv_aload_n X.1 X.2.1 dX2_register_70 rfl (lv_at hl 0 rfl) ?_
        refine G_X2_pc X hT Z dX2_register_71 ?_
        exact hret _ _ _ _ _ _ Z (cw_eq rfl rfl) ((if_neg c_1_0).trans ((if_neg c_1_1).trans (if_pos c_1_2))).symm dX2_register_74
      · by_cases c_1_3 : a1 = 3
        · refine lv_tableIn (tgt := 75) (off := 74) X.1 X.2.1 dX2_register_1 (by rw [c_1_3]; decide) (by rw [c_1_3]; decide) (by rw [c_1_3]; decide) (by decide) ?_
          refine lv_aload_n X.1 X.2.1 dX2_register_75 rfl (lv_at hl 0 rfl) ?_
          refine G_X2_mq X hT Z dX2_register_76 ?_
          exact hret _ _ _ _ _ _ Z (cw_eq rfl rfl) ((if_neg c_1_0).trans ((if_neg c_1_1).trans ((if_neg c_1_2).trans (if_pos c_1_3)))).symm dX2_register_79
        · by_cases c_1_4 : a1 = 4
          · refine lv_tableIn (tgt := 80) (off := 79) X.1 X.2.1 dX2_register_1 (by rw [c_1_4]; decide) (by rw [c_1_4]; decide) (by rw [c_1_4]; decide) (by decide) ?_
            refine lv_aload_n X.1 X.2.1 dX2_register_80 rfl (lv_at hl 0 rfl) ?_
            refine G_X2_sr X hT Z dX2_register_81 ?_
            exact hret _ _ _ _ _ _ Z (cw_eq rfl rfl) ((if_neg c_1_0).trans ((if_neg c_1_1).trans ((if_neg c_1_2).trans ((if_neg c_1_3).trans (if_pos c_1_4))))).symm dX2_register_84
          · by_cases c_1_5 : a1 = 5
            · refine lv_tableIn (tgt := 85) (off := 84) X.1 X.2.1 dX2_register_1 (by rw [c_1_5]; decide) (by rw [c_1_5]; decide) (by rw [c_1_5]; decide) (by decide) ?_
              refine lv_aload_n X.1 X.2.1 dX2_register_85 rfl (lv_at hl 0 rfl) ?_
              refine G_X2_ion X hT Z dX2_register_86 ?_
              refine call_Si X hT Z k_X2_69 (c_X2_bit l D cI (cw q cI g mm) (g 6) ) hd_X2_bit ⟨by decide, by decide⟩ ⟨rfl, rfl⟩ hl.1 (rest := []) rfl (Nat.le_of_ble_eq_true rfl) ⟨by decide, by decide⟩ dX2_register_89 (fun H locs Z => ?_)
              exact hret _ _ _ _ _ _ Z (cw_eq rfl rfl) ((if_neg c_1_0).trans ((if_neg c_1_1).trans ((if_neg c_1_2).trans ((if_neg c_1_3).trans ((if_neg c_1_4).trans (if_pos c_1_5)))))).symm dX2_register_92
            · by_cases c_1_6 : a1 = 6
              · refine lv_tableIn (tgt := 93) (off := 92) X.1 X.2.1 dX2_register_1 (by rw [c_1_6]; decide) (by rw [c_1_6]; decide) (by rw [c_1_6]; decide) (by decide) ?_
                refine lv_aload_n X.1 X.2.1 dX2_register_93 rfl (lv_at hl 0 rfl) ?_
                refine G_X2_delay X hT Z dX2_register_94 ?_
                refine call_Si X hT Z k_X2_69 (c_X2_bit l D cI (cw q cI g mm) (g 7) ) hd_X2_bit ⟨by decide, by decide⟩ ⟨rfl, rfl⟩ hl.1 (rest := []) rfl (Nat.le_of_ble_eq_true rfl) ⟨by decide, by decide⟩ dX2_register_97 (fun H locs Z => ?_)
                exact hret _ _ _ _ _ _ Z (cw_eq rfl rfl) ((if_neg c_1_0).trans ((if_neg c_1_1).trans ((if_neg c_1_2).trans ((if_neg c_1_3).trans ((if_neg c_1_4).trans ((if_neg c_1_5).trans (if_pos c_1_6))))))).symm dX2_register_100
              · by_cases c_1_7 : a1 = 7
                · refine lv_tableIn (tgt := 101) (off := 100) X.1 X.2.1 dX2_register_1 (by rw [c_1_7]; decide) (by rw [c_1_7]; decide) (by rw [c_1_7]; decide) (by decide) ?_
                  refine lv_aload_n X.1 X.2.1 dX2_register_101 rfl (lv_at hl 0 rfl) ?_
                  refine G_X2_reader X hT Z dX2_register_102 ?_
                  refine G_X2_r_flag X hT Z dX2_register_105 ?_
                  refine call_Si X hT Z k_X2_69 (c_X2_bit l D cI (cw q cI g mm) (g 14) ) hd_X2_bit ⟨by decide, by decide⟩ ⟨rfl, rfl⟩ hl.1 (rest := []) rfl (Nat.le_of_ble_eq_true rfl) ⟨by decide, by decide⟩ dX2_register_108 (fun H locs Z => ?_)
                  exact hret _ _ _ _ _ _ Z (cw_eq rfl rfl) ((if_neg c_1_0).trans ((if_neg c_1_1).trans ((if_neg c_1_2).trans ((if_neg c_1_3).trans ((if_neg c_1_4).trans ((if_neg c_1_5).trans ((if_neg c_1_6).trans (if_pos c_1_7)))))))).symm dX2_register_111
                · by_cases c_1_8 : a1 = 8
                  · refine lv_tableIn (tgt := 112) (off := 111) X.1 X.2.1 dX2_register_1 (by rw [c_1_8]; decide) (by rw [c_1_8]; decide) (by rw [c_1_8]; decide) (by decide) ?_
                    refine lv_aload_n X.1 X.2.1 dX2_register_112 rfl (lv_at hl 0 rfl) ?_
                    refine G_X2_reader X hT Z dX2_register_113 ?_
                    refine G_X2_r_buffer X hT Z dX2_register_116 ?_
                    exact hret _ _ _ _ _ _ Z (cw_eq rfl rfl) ((if_neg c_1_0).trans ((if_neg c_1_1).trans ((if_neg c_1_2).trans ((if_neg c_1_3).trans ((if_neg c_1_4).trans ((if_neg c_1_5).trans ((if_neg c_1_6).trans ((if_neg c_1_7).trans (if_pos c_1_8))))))))).symm dX2_register_119
                  · by_cases c_1_9 : a1 = 9
                    · refine lv_tableIn (tgt := 120) (off := 119) X.1 X.2.1 dX2_register_1 (by rw [c_1_9]; decide) (by rw [c_1_9]; decide) (by rw [c_1_9]; decide) (by decide) ?_
                      refine lv_aload_n X.1 X.2.1 dX2_register_120 rfl (lv_at hl 0 rfl) ?_
                      refine G_X2_printerFlag X hT Z dX2_register_121 ?_
                      refine call_Si X hT Z k_X2_69 (c_X2_bit l D cI (cw q cI g mm) (g 8) ) hd_X2_bit ⟨by decide, by decide⟩ ⟨rfl, rfl⟩ hl.1 (rest := []) rfl (Nat.le_of_ble_eq_true rfl) ⟨by decide, by decide⟩ dX2_register_124 (fun H locs Z => ?_)
                      exact hret _ _ _ _ _ _ Z (cw_eq rfl rfl) ((if_neg c_1_0).trans ((if_neg c_1_1).trans ((if_neg c_1_2).trans ((if_neg c_1_3).trans ((if_neg c_1_4).trans ((if_neg c_1_5).trans ((if_neg c_1_6).trans ((if_neg c_1_7).trans ((if_neg c_1_8).trans (if_pos c_1_9)))))))))).symm dX2_register_127
                    · by_cases c_1_10 : a1 = 10
                      · refine lv_tableIn (tgt := 128) (off := 127) X.1 X.2.1 dX2_register_1 (by rw [c_1_10]; decide) (by rw [c_1_10]; decide) (by rw [c_1_10]; decide) (by decide) ?_
                        refine lv_aload_n X.1 X.2.1 dX2_register_128 rfl (lv_at hl 0 rfl) ?_
                        refine G_X2_halted X hT Z dX2_register_129 ?_
                        refine call_Si X hT Z k_X2_69 (c_X2_bit l D cI (cw q cI g mm) (g 5) ) hd_X2_bit ⟨by decide, by decide⟩ ⟨rfl, rfl⟩ hl.1 (rest := []) rfl (Nat.le_of_ble_eq_true rfl) ⟨by decide, by decide⟩ dX2_register_132 (fun H locs Z => ?_)
                        exact hret _ _ _ _ _ _ Z (cw_eq rfl rfl) ((if_neg c_1_0).trans ((if_neg c_1_1).trans ((if_neg c_1_2).trans ((if_neg c_1_3).trans ((if_neg c_1_4).trans ((if_neg c_1_5).trans ((if_neg c_1_6).trans ((if_neg c_1_7).trans ((if_neg c_1_8).trans ((if_neg c_1_9).trans (if_pos c_1_10))))))))))).symm dX2_register_135
                      · by_cases hsw : a1.toInt < 0 ∨ 10 < a1.toInt
                        · refine lv_tableOut (tgt := 136) X.1 X.2.1 dX2_register_1 hsw (by decide) ?_
                          refine lv_iconst (v := (-1)) X.1 X.2.1 dX2_register_136 (by decide) ?_
                          exact hret _ _ _ _ _ _ Z (cw_eq rfl rfl) ((if_neg c_1_0).trans ((if_neg c_1_1).trans ((if_neg c_1_2).trans ((if_neg c_1_3).trans ((if_neg c_1_4).trans ((if_neg c_1_5).trans ((if_neg c_1_6).trans ((if_neg c_1_7).trans ((if_neg c_1_8).trans ((if_neg c_1_9).trans (if_neg c_1_10))))))))))).symm dX2_register_137
                        · obtain ⟨j, hj, hx⟩ := sw_def hsw
                          have hne : j ≠ 0 ∧ j ≠ 1 ∧ j ≠ 2 ∧ j ≠ 3 ∧ j ≠ 4 ∧ j ≠ 5 ∧ j ≠ 6 ∧ j ≠ 7 ∧ j ≠ 8 ∧ j ≠ 9 ∧ j ≠ 10 := ⟨(fun h => absurd (by omega) (lv_neT (a := 0) c_1_0 (by decide))), (fun h => absurd (by omega) (lv_neT (a := 1) c_1_1 (by decide))), (fun h => absurd (by omega) (lv_neT (a := 2) c_1_2 (by decide))), (fun h => absurd (by omega) (lv_neT (a := 3) c_1_3 (by decide))), (fun h => absurd (by omega) (lv_neT (a := 4) c_1_4 (by decide))), (fun h => absurd (by omega) (lv_neT (a := 5) c_1_5 (by decide))), (fun h => absurd (by omega) (lv_neT (a := 6) c_1_6 (by decide))), (fun h => absurd (by omega) (lv_neT (a := 7) c_1_7 (by decide))), (fun h => absurd (by omega) (lv_neT (a := 8) c_1_8 (by decide))), (fun h => absurd (by omega) (lv_neT (a := 9) c_1_9 (by decide))), (fun h => absurd (by omega) (lv_neT (a := 10) c_1_10 (by decide)))⟩
                          omega
def gX2_go (g : Nat → Int32) (mm : Nat → Nat → Int32)  : Nat → Int32 := (upd g 5 0)
def rX2_go (g : Nat → Int32) (mm : Nat → Nat → Int32)  : Int32 := (g 5)
set_option maxRecDepth 20000 in
set_option maxHeartbeats 4000000 in
theorem c_X2_go (l : Launch) (D : va_G) (cI : ClassId) (q : Nat → Nat) (g : Nat → Int32) (mm : Nat → Nat → Int32)  (hh : narrow .boolean (.int (g 5)) = .int (g 5)) : MI l D cI yX2_go (.code yX2_go cX2_go 2 (some .boolean)) ({ frames := 0, cells := 0, slots := 0, locals := 0 } : Room) [.ref (q 0)] (cw q cI g mm) (cw q cI (gX2_go g mm) mm) (some (.int (rX2_go g mm))) := by
  refine MI.ofZ (own := RX2) (by decide) rfl (Nat.le_of_ble_eq_true rfl) ?_
  intro p e s m args below meth c A ls Q X Z hl hret
  have hT : ∀ w ∈ TB, w ∈ (Cond.code yX2_go cX2_go 2 (some .boolean) :: TB) := fun _ h => List.mem_cons_of_mem _ h
  have hl : lv_has ls 2 [(0, .ref (q 0))] := hl
  refine lv_aload_n X.1 X.2.1 dX2_go_0 rfl (lv_at hl 0 rfl) ?_
  refine G_X2_halted X hT Z dX2_go_1 ?_
  refine lv_istore_n (lv' := [(1, .int (g 5)), (0, .ref (q 0))]) X.1 X.2.1 dX2_go_4 rfl hl (by decide) rfl (fun ls hl => ?_)
  refine lv_aload_n X.1 X.2.1 dX2_go_5 rfl (lv_at hl 1 rfl) ?_
  refine lv_iconst (v := 0) X.1 X.2.1 dX2_go_6 (by decide) ?_
  refine P_X2_halted X hT Z ⟨rfl, rfl⟩ dX2_go_7 (fun H locs Z => ?_)
  refine lv_iload_n X.1 X.2.1 dX2_go_10 rfl (lv_at hl 0 rfl) ?_
  exact hret _ _ _ _ _ _ Z (cw_eq rfl rfl) rfl hh dX2_go_11
def uX2_printed_j23_s0 (g : Nat → Int32) (mm : Nat → Nat → Int32) (a1 : Int32) : Int32 := if a1 = (-1) then ((g 15)) else ((rX1_fromLatest (g 15) (mm 2) a1))
def rX2_printed (g : Nat → Int32) (mm : Nat → Nat → Int32) (a1 : Int32) : Int32 := let j23_s0 : Int32 := uX2_printed_j23_s0 g mm a1; j23_s0
set_option maxRecDepth 20000 in
set_option maxHeartbeats 4000000 in
theorem c_X2_printed (l : Launch) (D : va_G) (cI : ClassId) (q : Nat → Nat) (g : Nat → Int32) (mm : Nat → Nat → Int32) (a1 : Int32)  : MI l D cI yX2_printed (.code yX2_printed cX2_printed 2 (some .int)) ({ frames := 1, cells := 0, slots := 0, locals := 21 } : Room) [.ref (q 0), .int a1] (cw q cI g mm) (cw q cI g mm) (some (.int (rX2_printed g mm a1))) := by
  refine MI.ofI (own := RX2) (by decide) rfl (Nat.le_of_ble_eq_true rfl) ?_
  intro p e s m args below meth c A ls Q X Z hl hret
  have hT : ∀ w ∈ TB, w ∈ (Cond.code yX2_printed cX2_printed 2 (some .int) :: TB) := fun _ h => List.mem_cons_of_mem _ h
  have hl : lv_has ls 2 [(0, .ref (q 0)), (1, .int a1)] := hl
  refine lv_iload_n X.1 X.2.1 dX2_printed_0 rfl (lv_at hl 1 rfl) ?_
  refine lv_iconst (v := (-1)) X.1 X.2.1 dX2_printed_1 (by decide) ?_
  suffices K_23 : ∀ (j23_s0 : Int32) (ls : Array Slot) (H : Heap) (locs : List Loc), j23_s0 = uX2_printed_j23_s0 g mm a1 → lv_has ls 2 [(0, .ref (q 0)), (1, .int a1)] → ZZ D cI (cw q cI g mm) A s H locs → W p l e ({ frames := 1, cells := 0, slots := 0, locals := 21 } : Room) s m args below meth c H locs 0 0 Q (F0 m 23 ls [.int j23_s0]) by
    refine lv_icmp_ne (tgt := 15) X.1 X.2.1 dX2_printed_2 (by decide) (fun c_2 => ?_) (fun c_2 => ?_)
    · refine lv_aload_n X.1 X.2.1 dX2_printed_15 rfl (lv_at hl 0 rfl) ?_
      refine G_X2_prints X hT Z dX2_printed_16 ?_
      refine lv_iload_n X.1 X.2.1 dX2_printed_19 rfl (lv_at hl 1 rfl) ?_
      refine call_Ni X hT Z (wc := rcw (q 3) (q 6) cI (g 15) (mm 2)) (wr := [(q 0, .inr (2, [.ref (q 1), .ref (q 2), .ref (q 3), .ref (q 4), .int (g 0), .int (g 1), .int (g 2), .int (g 3), .int (g 4), .int (g 5), .int (g 6), .int (g 7), .int (g 8), .int (g 9), .int (g 10)])), (q 1, .inl (cI, 4096, .inl (mm 0))), (q 2, .inr (0, [.ref (q 5), .int (g 11), .int (g 12), .int (g 13), .int (g 14)])), (q 5, .inl (cI, 400, .inl (mm 1))), (q 4, .inr (1, [.ref (q 7), .int (g 16)])), (q 7, .inl (cI, 64, .inl (mm 3)))]) [4, 5] [0, 1, 2, 3, 6, 7] rfl rfl rfl rfl (by decide) (qq := (RX1, TX1, 2)) k_X2_94 (c_X1_fromLatest l D cI (q 3) (q 6) (g 15) (mm 2) a1 ) rfl rfl hd_X1_fromLatest ⟨by decide, by decide⟩ ⟨rfl, rfl⟩ hl.1 (rest := []) rfl (Nat.le_of_ble_eq_true rfl) ⟨by decide, by decide⟩ dX2_printed_20 (fun H locs Z => ?_)
      have Z := Z.perm (ws' := cw q cI g mm) [0, 1, 2, 3, 6, 7, 4, 5] rfl rfl
      exact K_23 (rX1_fromLatest (g 15) (mm 2) a1) _ _ _ (if_neg c_2).symm (lv_sub hl [0, 1] rfl) Z
    · refine lv_aload_n X.1 X.2.1 dX2_printed_5 rfl (lv_at hl 0 rfl) ?_
      refine G_X2_prints X hT Z dX2_printed_6 ?_
      refine G_X2_p_count X hT Z dX2_printed_9 ?_
      refine lv_goto (tgt := 23) X.1 X.2.1 dX2_printed_12 (by decide) ?_
      exact K_23 (g 15) _ _ _ (if_pos c_2).symm (lv_sub hl [0, 1] rfl) Z
  intro j23_s0 ls H locs e_j23_s0 hl Z
  exact hret _ _ _ _ _ _ Z (cw_eq rfl rfl) (by subst e_j23_s0; exact rfl) dX2_printed_23
def rX2_trace (g : Nat → Int32) (mm : Nat → Nat → Int32) (a1 : Int32) : Int32 := (rX1_fromLatest (g 16) (mm 3) a1)
set_option maxRecDepth 20000 in
set_option maxHeartbeats 4000000 in
theorem c_X2_trace (l : Launch) (D : va_G) (cI : ClassId) (q : Nat → Nat) (g : Nat → Int32) (mm : Nat → Nat → Int32) (a1 : Int32)  : MI l D cI yX2_trace (.code yX2_trace cX2_trace 2 (some .int)) ({ frames := 1, cells := 0, slots := 0, locals := 21 } : Room) [.ref (q 0), .int a1] (cw q cI g mm) (cw q cI g mm) (some (.int (rX2_trace g mm a1))) := by
  refine MI.ofI (own := RX2) (by decide) rfl (Nat.le_of_ble_eq_true rfl) ?_
  intro p e s m args below meth c A ls Q X Z hl hret
  have hT : ∀ w ∈ TB, w ∈ (Cond.code yX2_trace cX2_trace 2 (some .int) :: TB) := fun _ h => List.mem_cons_of_mem _ h
  have hl : lv_has ls 2 [(0, .ref (q 0)), (1, .int a1)] := hl
  refine lv_aload_n X.1 X.2.1 dX2_trace_0 rfl (lv_at hl 0 rfl) ?_
  refine G_X2_steps X hT Z dX2_trace_1 ?_
  refine lv_iload_n X.1 X.2.1 dX2_trace_4 rfl (lv_at hl 1 rfl) ?_
  refine call_Ni X hT Z (wc := rcw (q 4) (q 7) cI (g 16) (mm 3)) (wr := [(q 0, .inr (2, [.ref (q 1), .ref (q 2), .ref (q 3), .ref (q 4), .int (g 0), .int (g 1), .int (g 2), .int (g 3), .int (g 4), .int (g 5), .int (g 6), .int (g 7), .int (g 8), .int (g 9), .int (g 10)])), (q 1, .inl (cI, 4096, .inl (mm 0))), (q 2, .inr (0, [.ref (q 5), .int (g 11), .int (g 12), .int (g 13), .int (g 14)])), (q 5, .inl (cI, 400, .inl (mm 1))), (q 3, .inr (1, [.ref (q 6), .int (g 15)])), (q 6, .inl (cI, 64, .inl (mm 2)))]) [6, 7] [0, 1, 2, 3, 4, 5] rfl rfl rfl rfl (by decide) (qq := (RX1, TX1, 2)) k_X2_94 (c_X1_fromLatest l D cI (q 4) (q 7) (g 16) (mm 3) a1 ) rfl rfl hd_X1_fromLatest ⟨by decide, by decide⟩ ⟨rfl, rfl⟩ hl.1 (rest := []) rfl (Nat.le_of_ble_eq_true rfl) ⟨by decide, by decide⟩ dX2_trace_5 (fun H locs Z => ?_)
  have Z := Z.perm (ws' := cw q cI g mm) [0, 1, 2, 3, 4, 5, 6, 7] rfl rfl
  exact hret _ _ _ _ _ _ Z (cw_eq rfl rfl) rfl dX2_trace_8
def rX2_interrupts (g : Nat → Int32) (mm : Nat → Nat → Int32)  : Int32 := (g 9)
set_option maxRecDepth 20000 in
set_option maxHeartbeats 4000000 in
theorem c_X2_interrupts (l : Launch) (D : va_G) (cI : ClassId) (q : Nat → Nat) (g : Nat → Int32) (mm : Nat → Nat → Int32)   : MI l D cI yX2_interrupts (.code yX2_interrupts cX2_interrupts 1 (some .int)) ({ frames := 0, cells := 0, slots := 0, locals := 0 } : Room) [.ref (q 0)] (cw q cI g mm) (cw q cI g mm) (some (.int (rX2_interrupts g mm))) := by
  refine MI.ofI (own := RX2) (by decide) rfl (Nat.le_of_ble_eq_true rfl) ?_
  intro p e s m args below meth c A ls Q X Z hl hret
  have hT : ∀ w ∈ TB, w ∈ (Cond.code yX2_interrupts cX2_interrupts 1 (some .int) :: TB) := fun _ h => List.mem_cons_of_mem _ h
  have hl : lv_has ls 1 [(0, .ref (q 0))] := hl
  refine lv_aload_n X.1 X.2.1 dX2_interrupts_0 rfl (lv_at hl 0 rfl) ?_
  refine G_X2_interruptCount X hT Z dX2_interrupts_1 ?_
  exact hret _ _ _ _ _ _ Z (cw_eq rfl rfl) rfl dX2_interrupts_4
def rX2_skips (g : Nat → Int32) (mm : Nat → Nat → Int32)  : Int32 := (g 10)
set_option maxRecDepth 20000 in
set_option maxHeartbeats 4000000 in
theorem c_X2_skips (l : Launch) (D : va_G) (cI : ClassId) (q : Nat → Nat) (g : Nat → Int32) (mm : Nat → Nat → Int32)   : MI l D cI yX2_skips (.code yX2_skips cX2_skips 1 (some .int)) ({ frames := 0, cells := 0, slots := 0, locals := 0 } : Room) [.ref (q 0)] (cw q cI g mm) (cw q cI g mm) (some (.int (rX2_skips g mm))) := by
  refine MI.ofI (own := RX2) (by decide) rfl (Nat.le_of_ble_eq_true rfl) ?_
  intro p e s m args below meth c A ls Q X Z hl hret
  have hT : ∀ w ∈ TB, w ∈ (Cond.code yX2_skips cX2_skips 1 (some .int) :: TB) := fun _ h => List.mem_cons_of_mem _ h
  have hl : lv_has ls 1 [(0, .ref (q 0))] := hl
  refine lv_aload_n X.1 X.2.1 dX2_skips_0 rfl (lv_at hl 0 rfl) ?_
  refine G_X2_skipCount X hT Z dX2_skips_1 ?_
  exact hret _ _ _ _ _ _ Z (cw_eq rfl rfl) rfl dX2_skips_4
end
section
/-- the reference's next byte lies in its row -/
def Ma (g : Nat → Int32) : Prop := ¬ g 1 = g 0 → vp_in (g 1) 400
theorem vin_nlt {a M : Int32} {n : Nat} (h1 : ¬ a < 0) (h2 : ¬ M < a) (hM : M.toInt < n) : vp_in a n := by
  rw [vp_in_iff]
  rw [Int32.lt_iff_toInt_lt, Int32.toInt_zero] at h1
  rw [Int32.lt_iff_toInt_lt] at h2
  omega
def gX3_skip (g : Nat → Int32) (mm : Nat → Nat → Int32)  : Nat → Int32 := (upd g 5 ((g 5) + 1))
def mX3_skip (g : Nat → Int32) (mm : Nat → Nat → Int32)  : Nat → Nat → Int32 := (va_up mm 1 (upd (mm 1) 2 (rX3_after (mm 1 2))))
set_option maxRecDepth 20000 in
set_option maxHeartbeats 4000000 in
theorem c_X3_skip (l : Launch) (D : va_G) (cI : ClassId) (q : Nat → Nat) (g : Nat → Int32) (mm : Nat → Nat → Int32)   : MI l D cI yX3_skip (.code yX3_skip cX3_skip 1 none) ({ frames := 1, cells := 0, slots := 0, locals := 20 } : Room) [.ref (q 0)] (mw q cI g mm) (mw q cI (gX3_skip g mm) (mX3_skip g mm)) none := by
  refine MI.ofV (own := RX3) (by decide) rfl (Nat.le_of_ble_eq_true rfl) ?_
  intro p e s m args below meth c A ls Q X Z hl hret
  have hT : ∀ w ∈ TB, w ∈ (Cond.code yX3_skip cX3_skip 1 none :: TB) := fun _ h => List.mem_cons_of_mem _ h
  have hl : lv_has ls 1 [(0, .ref (q 0))] := hl
  refine lv_aload_n X.1 X.2.1 dX3_skip_0 rfl (lv_at hl 0 rfl) ?_
  refine G_X3_r X hT Z dX3_skip_1 ?_
  refine lv_iconst (v := 2) X.1 X.2.1 dX3_skip_4 (by decide) ?_
  refine lv_aload_n X.1 X.2.1 dX3_skip_5 rfl (lv_at hl 0 rfl) ?_
  refine G_X3_r X hT Z dX3_skip_6 ?_
  refine lv_iconst (v := 2) X.1 X.2.1 dX3_skip_9 (by decide) ?_
  refine L_X3_r (j := 2) X Z (vin_c (by decide)) (by decide) dX3_skip_10 ?_
  refine call_Si X hT Z k_X3_32 (c_X3_after l D cI (mw q cI g mm) (mm 1 2) ) hd_X3_after ⟨by decide, by decide⟩ ⟨rfl, rfl⟩ hl.1 (rest := [.int 2, .ref (q 2)]) rfl (Nat.le_of_ble_eq_true rfl) ⟨by decide, by decide⟩ dX3_skip_11 (fun H locs Z => ?_)
  refine S_X3_r (j := 2) X Z (vin_c (by decide)) (by decide) dX3_skip_14 (fun H locs Z => ?_)
  refine lv_aload_n X.1 X.2.1 dX3_skip_15 rfl (lv_at hl 0 rfl) ?_
  refine lv_dup X.1 X.2.1 dX3_skip_16 rfl ?_
  refine G_X3_skips X hT Z dX3_skip_17 ?_
  refine lv_iconst (v := 1) X.1 X.2.1 dX3_skip_20 (by decide) ?_
  refine lv_iadd X.1 X.2.1 dX3_skip_21 ?_
  refine P_X3_skips X hT Z dX3_skip_22 (fun H locs Z => ?_)
  exact hret _ _ _ _ _ Z (mw_eq rfl rfl) dX3_skip_25
def gX3_advance (g : Nat → Int32) (mm : Nat → Nat → Int32)  : Nat → Int32 := if (g 1) = (g 0) then (g) else ((upd g 1 ((g 1) + 1)))
def mX3_advance (g : Nat → Int32) (mm : Nat → Nat → Int32)  : Nat → Nat → Int32 := if (g 1) = (g 0) then ((va_up mm 1 (upd (mm 1) 7 0))) else ((va_up (va_up (va_up mm 1 (upd (mm 1) 7 0)) 1 (upd ((va_up mm 1 (upd (mm 1) 7 0)) 1) 8 ((va_up mm 1 (upd (mm 1) 7 0)) 2 ((g 1).toNatClampNeg)))) 1 (upd ((va_up (va_up mm 1 (upd (mm 1) 7 0)) 1 (upd ((va_up mm 1 (upd (mm 1) 7 0)) 1) 8 ((va_up mm 1 (upd (mm 1) 7 0)) 2 ((g 1).toNatClampNeg)))) 1) 7 1)))
set_option maxRecDepth 20000 in
set_option maxHeartbeats 4000000 in
theorem c_X3_advance (l : Launch) (D : va_G) (cI : ClassId) (q : Nat → Nat) (g : Nat → Int32) (mm : Nat → Nat → Int32)  (ha : Ma g) : MI l D cI yX3_advance (.code yX3_advance cX3_advance 1 none) ({ frames := 0, cells := 0, slots := 0, locals := 0 } : Room) [.ref (q 0)] (mw q cI g mm) (mw q cI (gX3_advance g mm) (mX3_advance g mm)) none := by
  refine MI.ofV (own := RX3) (by decide) rfl (Nat.le_of_ble_eq_true rfl) ?_
  intro p e s m args below meth c A ls Q X Z hl hret
  have hT : ∀ w ∈ TB, w ∈ (Cond.code yX3_advance cX3_advance 1 none :: TB) := fun _ h => List.mem_cons_of_mem _ h
  have hl : lv_has ls 1 [(0, .ref (q 0))] := hl
  refine lv_aload_n X.1 X.2.1 dX3_advance_0 rfl (lv_at hl 0 rfl) ?_
  refine G_X3_r X hT Z dX3_advance_1 ?_
  refine lv_bipush (v := 7) X.1 X.2.1 dX3_advance_4 (by decide) ?_
  refine lv_iconst (v := 0) X.1 X.2.1 dX3_advance_6 (by decide) ?_
  refine S_X3_r (j := 7) X Z (vin_c (by decide)) (by decide) dX3_advance_7 (fun H locs Z => ?_)
  refine lv_aload_n X.1 X.2.1 dX3_advance_8 rfl (lv_at hl 0 rfl) ?_
  refine G_X3_read X hT Z dX3_advance_9 ?_
  refine lv_aload_n X.1 X.2.1 dX3_advance_12 rfl (lv_at hl 0 rfl) ?_
  refine G_X3_fed X hT Z dX3_advance_13 ?_
  refine lv_icmp_ne (tgt := 20) X.1 X.2.1 dX3_advance_16 (by decide) (fun c_16 => ?_) (fun c_16 => ?_)
  · refine lv_aload_n X.1 X.2.1 dX3_advance_20 rfl (lv_at hl 0 rfl) ?_
    refine G_X3_r X hT Z dX3_advance_21 ?_
    refine lv_bipush (v := 8) X.1 X.2.1 dX3_advance_24 (by decide) ?_
    refine lv_aload_n X.1 X.2.1 dX3_advance_26 rfl (lv_at hl 0 rfl) ?_
    refine G_X3_tape X hT Z dX3_advance_27 ?_
    refine lv_aload_n X.1 X.2.1 dX3_advance_30 rfl (lv_at hl 0 rfl) ?_
    refine G_X3_read X hT Z dX3_advance_31 ?_
    refine L_X3_tape (j := (g 1).toNatClampNeg) X Z (ha c_16) rfl dX3_advance_34 ?_
    refine S_X3_r (j := 8) X Z (vin_c (by decide)) (by decide) dX3_advance_35 (fun H locs Z => ?_)
    refine lv_aload_n X.1 X.2.1 dX3_advance_36 rfl (lv_at hl 0 rfl) ?_
    refine lv_dup X.1 X.2.1 dX3_advance_37 rfl ?_
    refine G_X3_read X hT Z dX3_advance_38 ?_
    refine lv_iconst (v := 1) X.1 X.2.1 dX3_advance_41 (by decide) ?_
    refine lv_iadd X.1 X.2.1 dX3_advance_42 ?_
    refine P_X3_read X hT Z dX3_advance_43 (fun H locs Z => ?_)
    refine lv_aload_n X.1 X.2.1 dX3_advance_46 rfl (lv_at hl 0 rfl) ?_
    refine G_X3_r X hT Z dX3_advance_47 ?_
    refine lv_bipush (v := 7) X.1 X.2.1 dX3_advance_50 (by decide) ?_
    refine lv_iconst (v := 1) X.1 X.2.1 dX3_advance_52 (by decide) ?_
    refine S_X3_r (j := 7) X Z (vin_c (by decide)) (by decide) dX3_advance_53 (fun H locs Z => ?_)
    exact hret _ _ _ _ _ Z (mw_eq (if_neg c_16).symm (if_neg c_16).symm) dX3_advance_54
  · exact hret _ _ _ _ _ Z (mw_eq (if_pos c_16).symm (if_pos c_16).symm) dX3_advance_19
def uX3_add_j36_l2 (mm : Nat → Nat → Int32) (a1 : Int32) : Int32 := if ((mm 1 0) + a1) ≤ (4095 : Int32) then (((mm 1 0) + a1)) else ((((mm 1 0) + a1) + (-4096)))
def uX3_add_j36_mm (mm : Nat → Nat → Int32) (a1 : Int32) : Nat → Nat → Int32 := if ((mm 1 0) + a1) ≤ (4095 : Int32) then (mm) else ((va_up mm 1 (upd (mm 1) 1 (1 - (mm 1 1)))))
def mX3_add (g : Nat → Int32) (mm : Nat → Nat → Int32) (a1 : Int32) : Nat → Nat → Int32 := let j36_l2 : Int32 := uX3_add_j36_l2 mm a1; let j36_mm : Nat → Nat → Int32 := uX3_add_j36_mm mm a1; (va_up j36_mm 1 (upd (j36_mm 1) 0 j36_l2))
set_option maxRecDepth 20000 in
set_option maxHeartbeats 4000000 in
theorem c_X3_add (l : Launch) (D : va_G) (cI : ClassId) (q : Nat → Nat) (g : Nat → Int32) (mm : Nat → Nat → Int32) (a1 : Int32)  : MI l D cI yX3_add (.code yX3_add cX3_add 3 none) ({ frames := 0, cells := 0, slots := 0, locals := 0 } : Room) [.ref (q 0), .int a1] (mw q cI g mm) (mw q cI g (mX3_add g mm a1)) none := by
  refine MI.ofV (own := RX3) (by decide) rfl (Nat.le_of_ble_eq_true rfl) ?_
  intro p e s m args below meth c A ls Q X Z hl hret
  have hT : ∀ w ∈ TB, w ∈ (Cond.code yX3_add cX3_add 3 none :: TB) := fun _ h => List.mem_cons_of_mem _ h
  have hl : lv_has ls 3 [(0, .ref (q 0)), (1, .int a1)] := hl
  refine lv_aload_n X.1 X.2.1 dX3_add_0 rfl (lv_at hl 0 rfl) ?_
  refine G_X3_r X hT Z dX3_add_1 ?_
  refine lv_iconst (v := 0) X.1 X.2.1 dX3_add_4 (by decide) ?_
  refine L_X3_r (j := 0) X Z (vin_c (by decide)) (by decide) dX3_add_5 ?_
  refine lv_iload_n X.1 X.2.1 dX3_add_6 rfl (lv_at hl 1 rfl) ?_
  refine lv_iadd X.1 X.2.1 dX3_add_7 ?_
  refine lv_istore_n (lv' := [(2, .int ((mm 1 0) + a1)), (0, .ref (q 0)), (1, .int a1)]) X.1 X.2.1 dX3_add_8 rfl hl (by decide) rfl (fun ls hl => ?_)
  refine lv_iload_n X.1 X.2.1 dX3_add_9 rfl (lv_at hl 0 rfl) ?_
  refine lv_sipush (v := 4095) X.1 X.2.1 dX3_add_10 (by decide) ?_
  suffices K_36 : ∀ (j36_l2 : Int32) (j36_mm : Nat → Nat → Int32) (ls : Array Slot) (H : Heap) (locs : List Loc), j36_l2 = uX3_add_j36_l2 mm a1 → j36_mm = uX3_add_j36_mm mm a1 → lv_has ls 3 [(2, .int j36_l2), (0, .ref (q 0)), (1, .int a1)] → ZZ D cI (mw q cI g j36_mm) A s H locs → W p l e ({ frames := 0, cells := 0, slots := 0, locals := 0 } : Room) s m args below meth c H locs 0 0 Q (F0 m 36 ls []) by
    refine lv_icmp_le (tgt := 36) X.1 X.2.1 dX3_add_13 (by decide) (fun c_13 => ?_) (fun c_13 => ?_)
    · exact K_36 ((mm 1 0) + a1) mm _ _ _ (if_pos c_13).symm (if_pos c_13).symm (lv_sub hl [0, 1, 2] rfl) Z
    · refine lv_iincW (v := (((mm 1 0) + a1) + (-4096))) (lv' := [(2, .int (((mm 1 0) + a1) + (-4096))), (0, .ref (q 0)), (1, .int a1)]) X.1 X.2.1 dX3_add_16 hl (k := 0) rfl (congrArg (fun z => ((mm 1 0) + a1) + z) (by decide)) (by decide) rfl (fun ls hl => ?_)
      refine lv_aload_n X.1 X.2.1 dX3_add_22 rfl (lv_at hl 1 rfl) ?_
      refine G_X3_r X hT Z dX3_add_23 ?_
      refine lv_iconst (v := 1) X.1 X.2.1 dX3_add_26 (by decide) ?_
      refine lv_iconst (v := 1) X.1 X.2.1 dX3_add_27 (by decide) ?_
      refine lv_aload_n X.1 X.2.1 dX3_add_28 rfl (lv_at hl 1 rfl) ?_
      refine G_X3_r X hT Z dX3_add_29 ?_
      refine lv_iconst (v := 1) X.1 X.2.1 dX3_add_32 (by decide) ?_
      refine L_X3_r (j := 1) X Z (vin_c (by decide)) (by decide) dX3_add_33 ?_
      refine lv_isub X.1 X.2.1 dX3_add_34 ?_
      refine S_X3_r (j := 1) X Z (vin_c (by decide)) (by decide) dX3_add_35 (fun H locs Z => ?_)
      exact K_36 (((mm 1 0) + a1) + (-4096)) (va_up mm 1 (upd (mm 1) 1 (1 - (mm 1 1)))) _ _ _ (if_neg c_13).symm (if_neg c_13).symm (lv_sub hl [0, 1, 2] rfl) Z
  intro j36_l2 j36_mm ls H locs e_j36_l2 e_j36_mm hl Z
  refine lv_aload_n X.1 X.2.1 dX3_add_36 rfl (lv_at hl 1 rfl) ?_
  refine G_X3_r X hT Z dX3_add_37 ?_
  refine lv_iconst (v := 0) X.1 X.2.1 dX3_add_40 (by decide) ?_
  refine lv_iload_n X.1 X.2.1 dX3_add_41 rfl (lv_at hl 0 rfl) ?_
  refine S_X3_r (j := 0) X Z (vin_c (by decide)) (by decide) dX3_add_42 (fun H locs Z => ?_)
  exact hret _ _ _ _ _ Z (mw_eq rfl (by subst e_j36_l2 e_j36_mm; exact rfl)) dX3_add_43
def uX3_place_j26_l3 (a1 : Int32) (a2 : Int32) : Int32 := if (rX3_has a1 128) = 0 then ((a1 - a1 / 128 * 128)) else (((a1 - a1 / 128 * 128) + (a2 - (a2 - a2 / 128 * 128))))
def uX3_place_j65_mm (mm : Nat → Nat → Int32) (j26_l3 : Int32) : Nat → Nat → Int32 := if j26_l3 < (8 : Int32) then (mm) else (if (15 : Int32) < j26_l3 then (mm) else ((va_up mm 0 (upd (mm 0) j26_l3.toNatClampNeg (rX3_after (mm 0 j26_l3.toNatClampNeg))))))
def mX3_place (g : Nat → Int32) (mm : Nat → Nat → Int32) (a1 : Int32) (a2 : Int32) : Nat → Nat → Int32 := let j26_l3 : Int32 := uX3_place_j26_l3 a1 a2; if (rX3_has a1 256) = 0 then (mm) else (let j65_mm : Nat → Nat → Int32 := uX3_place_j65_mm mm j26_l3; j65_mm)
def rX3_place (g : Nat → Int32) (mm : Nat → Nat → Int32) (a1 : Int32) (a2 : Int32) : Int32 := let j26_l3 : Int32 := uX3_place_j26_l3 a1 a2; if (rX3_has a1 256) = 0 then (j26_l3) else (let j65_mm : Nat → Nat → Int32 := uX3_place_j65_mm mm j26_l3; (j65_mm 0 j26_l3.toNatClampNeg))
set_option maxRecDepth 20000 in
set_option maxHeartbeats 4000000 in
theorem c_X3_place (l : Launch) (D : va_G) (cI : ClassId) (q : Nat → Nat) (g : Nat → Int32) (mm : Nat → Nat → Int32) (a1 : Int32) (a2 : Int32) (he : vp_in (uX3_place_j26_l3 a1 a2) 4096) : MI l D cI yX3_place (.code yX3_place cX3_place 4 (some .int)) ({ frames := 1, cells := 0, slots := 0, locals := 21 } : Room) [.ref (q 0), .int a1, .int a2] (mw q cI g mm) (mw q cI g (mX3_place g mm a1 a2)) (some (.int (rX3_place g mm a1 a2))) := by
  refine MI.ofI (own := RX3) (by decide) rfl (Nat.le_of_ble_eq_true rfl) ?_
  intro p e s m args below meth c A ls Q X Z hl hret
  have hT : ∀ w ∈ TB, w ∈ (Cond.code yX3_place cX3_place 4 (some .int) :: TB) := fun _ h => List.mem_cons_of_mem _ h
  have hl : lv_has ls 4 [(0, .ref (q 0)), (1, .int a1), (2, .int a2)] := hl
  refine lv_iload_n X.1 X.2.1 dX3_place_0 rfl (lv_at hl 1 rfl) ?_
  refine lv_sipush (v := 128) X.1 X.2.1 dX3_place_1 (by decide) ?_
  refine lv_irem X.1 X.2.1 dX3_place_4 (by decide) ?_
  refine lv_istore_n (lv' := [(3, .int (a1 - a1 / 128 * 128)), (0, .ref (q 0)), (1, .int a1), (2, .int a2)]) X.1 X.2.1 dX3_place_5 rfl hl (by decide) rfl (fun ls hl => ?_)
  refine lv_iload_n X.1 X.2.1 dX3_place_6 rfl (lv_at hl 2 rfl) ?_
  refine lv_sipush (v := 128) X.1 X.2.1 dX3_place_7 (by decide) ?_
  refine call_Si X hT Z k_X3_57 (c_X3_has l D cI (mw q cI g mm) a1 128 (by decide)) hd_X3_has ⟨by decide, by decide⟩ ⟨rfl, rfl⟩ hl.1 (rest := []) rfl (Nat.le_of_ble_eq_true rfl) ⟨by decide, by decide⟩ dX3_place_10 (fun H locs Z => ?_)
  suffices K_26 : ∀ (j26_l3 : Int32) (ls : Array Slot) (H : Heap) (locs : List Loc), j26_l3 = uX3_place_j26_l3 a1 a2 → lv_has ls 4 [(3, .int j26_l3), (0, .ref (q 0)), (1, .int a1), (2, .int a2)] → ZZ D cI (mw q cI g mm) A s H locs → W p l e ({ frames := 1, cells := 0, slots := 0, locals := 21 } : Room) s m args below meth c H locs 0 0 Q (F0 m 26 ls []) by
    refine lv_if_eq (tgt := 26) X.1 X.2.1 dX3_place_13 (by decide) (fun c_13 => ?_) (fun c_13 => ?_)
    · exact K_26 (a1 - a1 / 128 * 128) _ _ _ (if_pos c_13).symm (lv_sub hl [0, 1, 2, 3] rfl) Z
    · refine lv_iload_n X.1 X.2.1 dX3_place_16 rfl (lv_at hl 0 rfl) ?_
      refine lv_iload_n X.1 X.2.1 dX3_place_17 rfl (lv_at hl 3 rfl) ?_
      refine lv_iload_n X.1 X.2.1 dX3_place_18 rfl (lv_at hl 3 rfl) ?_
      refine lv_sipush (v := 128) X.1 X.2.1 dX3_place_19 (by decide) ?_
      refine lv_irem X.1 X.2.1 dX3_place_22 (by decide) ?_
      refine lv_isub X.1 X.2.1 dX3_place_23 ?_
      refine lv_iadd X.1 X.2.1 dX3_place_24 ?_
      refine lv_istore_n (lv' := [(3, .int ((a1 - a1 / 128 * 128) + (a2 - (a2 - a2 / 128 * 128)))), (0, .ref (q 0)), (1, .int a1), (2, .int a2)]) X.1 X.2.1 dX3_place_25 rfl hl (by decide) rfl (fun ls hl => ?_)
      exact K_26 ((a1 - a1 / 128 * 128) + (a2 - (a2 - a2 / 128 * 128))) _ _ _ (if_neg c_13).symm (lv_sub hl [0, 1, 2, 3] rfl) Z
  intro j26_l3 ls H locs e_j26_l3 hl Z
  refine lv_iload_n X.1 X.2.1 dX3_place_26 rfl (lv_at hl 2 rfl) ?_
  refine lv_sipush (v := 256) X.1 X.2.1 dX3_place_27 (by decide) ?_
  refine call_Si X hT Z k_X3_57 (c_X3_has l D cI (mw q cI g mm) a1 256 (by decide)) hd_X3_has ⟨by decide, by decide⟩ ⟨rfl, rfl⟩ hl.1 (rest := []) rfl (Nat.le_of_ble_eq_true rfl) ⟨by decide, by decide⟩ dX3_place_30 (fun H locs Z => ?_)
  refine lv_if_ne (tgt := 38) X.1 X.2.1 dX3_place_33 (by decide) (fun c_33 => ?_) (fun c_33 => ?_)
  · refine lv_iload_n X.1 X.2.1 dX3_place_38 rfl (lv_at hl 0 rfl) ?_
    refine lv_bipush (v := 8) X.1 X.2.1 dX3_place_39 (by decide) ?_
    suffices K_65 : ∀ (j65_mm : Nat → Nat → Int32) (ls : Array Slot) (H : Heap) (locs : List Loc), j65_mm = uX3_place_j65_mm mm j26_l3 → lv_has ls 4 [(3, .int j26_l3), (0, .ref (q 0)), (1, .int a1), (2, .int a2)] → ZZ D cI (mw q cI g j65_mm) A s H locs → W p l e ({ frames := 1, cells := 0, slots := 0, locals := 21 } : Room) s m args below meth c H locs 0 0 Q (F0 m 65 ls []) by
      refine lv_icmp_lt (tgt := 65) X.1 X.2.1 dX3_place_41 (by decide) (fun c_41 => ?_) (fun c_41 => ?_)
      · exact K_65 mm _ _ _ (if_pos c_41).symm (lv_sub hl [0, 1, 2, 3] rfl) Z
      · refine lv_iload_n X.1 X.2.1 dX3_place_44 rfl (lv_at hl 0 rfl) ?_
        refine lv_bipush (v := 15) X.1 X.2.1 dX3_place_45 (by decide) ?_
        refine lv_icmp_gt (tgt := 65) X.1 X.2.1 dX3_place_47 (by decide) (fun c_47 => ?_) (fun c_47 => ?_)
        · exact K_65 mm _ _ _ ((if_neg c_41).trans (if_pos c_47)).symm (lv_sub hl [0, 1, 2, 3] rfl) Z
        · refine lv_aload_n X.1 X.2.1 dX3_place_50 rfl (lv_at hl 1 rfl) ?_
          refine G_X3_core X hT Z dX3_place_51 ?_
          refine lv_iload_n X.1 X.2.1 dX3_place_54 rfl (lv_at hl 0 rfl) ?_
          refine lv_aload_n X.1 X.2.1 dX3_place_55 rfl (lv_at hl 1 rfl) ?_
          refine G_X3_core X hT Z dX3_place_56 ?_
          refine lv_iload_n X.1 X.2.1 dX3_place_59 rfl (lv_at hl 0 rfl) ?_
          refine L_X3_core (j := j26_l3.toNatClampNeg) X Z (by rw [e_j26_l3]; exact he) rfl dX3_place_60 ?_
          refine call_Si X hT Z k_X3_32 (c_X3_after l D cI (mw q cI g mm) (mm 0 j26_l3.toNatClampNeg) ) hd_X3_after ⟨by decide, by decide⟩ ⟨rfl, rfl⟩ hl.1 (rest := [.int j26_l3, .ref (q 1)]) rfl (Nat.le_of_ble_eq_true rfl) ⟨by decide, by decide⟩ dX3_place_61 (fun H locs Z => ?_)
          refine S_X3_core (j := j26_l3.toNatClampNeg) X Z (by rw [e_j26_l3]; exact he) rfl dX3_place_64 (fun H locs Z => ?_)
          exact K_65 (va_up mm 0 (upd (mm 0) j26_l3.toNatClampNeg (rX3_after (mm 0 j26_l3.toNatClampNeg)))) _ _ _ ((if_neg c_41).trans (if_neg c_47)).symm (lv_sub hl [0, 1, 2, 3] rfl) Z
    intro j65_mm ls H locs e_j65_mm hl Z
    refine lv_aload_n X.1 X.2.1 dX3_place_65 rfl (lv_at hl 1 rfl) ?_
    refine G_X3_core X hT Z dX3_place_66 ?_
    refine lv_iload_n X.1 X.2.1 dX3_place_69 rfl (lv_at hl 0 rfl) ?_
    refine L_X3_core (j := j26_l3.toNatClampNeg) X Z (by rw [e_j26_l3]; exact he) rfl dX3_place_70 ?_
    exact hret _ _ _ _ _ _ Z (mw_eq rfl (by subst e_j26_l3 e_j65_mm; exact (if_neg c_33).symm)) (by subst e_j26_l3 e_j65_mm; exact (if_neg c_33).symm) dX3_place_71
  · refine lv_iload_n X.1 X.2.1 dX3_place_36 rfl (lv_at hl 0 rfl) ?_
    exact hret _ _ _ _ _ _ Z (mw_eq rfl (by subst e_j26_l3; exact (if_pos c_33).symm)) (by subst e_j26_l3; exact (if_pos c_33).symm) dX3_place_37
def uX3_reference_j23_mm (mm : Nat → Nat → Int32) (a1 : Int32) (a2 : Int32) : Nat → Nat → Int32 := if a1 = 0 then ((va_up mm 1 (upd (mm 1) 0 ((mm 1 0) &&& (mm 0 a2.toNatClampNeg))))) else (mm)
def uX3_reference_j38_mm (g : Nat → Int32) (a1 : Int32) (a2 : Int32) (j23_mm : Nat → Nat → Int32) : Nat → Nat → Int32 := if a1 = 1 then ((mX3_add g j23_mm (j23_mm 0 a2.toNatClampNeg))) else (j23_mm)
def uX3_reference_j71_g (g : Nat → Int32) (a1 : Int32) (a2 : Int32) (j38_mm : Nat → Nat → Int32) : Nat → Int32 := if a1 = 2 then (if ((va_up j38_mm 0 (upd (j38_mm 0) a2.toNatClampNeg (rX3_after (j38_mm 0 a2.toNatClampNeg)))) 0 a2.toNatClampNeg) = 0 then ((gX3_skip g (va_up j38_mm 0 (upd (j38_mm 0) a2.toNatClampNeg (rX3_after (j38_mm 0 a2.toNatClampNeg)))))) else (g)) else (g)
def uX3_reference_j71_mm (g : Nat → Int32) (a1 : Int32) (a2 : Int32) (j38_mm : Nat → Nat → Int32) : Nat → Nat → Int32 := if a1 = 2 then (if ((va_up j38_mm 0 (upd (j38_mm 0) a2.toNatClampNeg (rX3_after (j38_mm 0 a2.toNatClampNeg)))) 0 a2.toNatClampNeg) = 0 then ((mX3_skip g (va_up j38_mm 0 (upd (j38_mm 0) a2.toNatClampNeg (rX3_after (j38_mm 0 a2.toNatClampNeg)))))) else ((va_up j38_mm 0 (upd (j38_mm 0) a2.toNatClampNeg (rX3_after (j38_mm 0 a2.toNatClampNeg)))))) else (j38_mm)
def uX3_reference_j95_mm (a1 : Int32) (a2 : Int32) (j71_mm : Nat → Nat → Int32) : Nat → Nat → Int32 := if a1 = 3 then ((va_up (va_up j71_mm 0 (upd (j71_mm 0) a2.toNatClampNeg (j71_mm 1 0))) 1 (upd ((va_up j71_mm 0 (upd (j71_mm 0) a2.toNatClampNeg (j71_mm 1 0))) 1) 0 0))) else (j71_mm)
def uX3_reference_j122_mm (a1 : Int32) (a2 : Int32) (j95_mm : Nat → Nat → Int32) : Nat → Nat → Int32 := if a1 = 4 then ((va_up (va_up j95_mm 0 (upd (j95_mm 0) a2.toNatClampNeg (j95_mm 1 2))) 1 (upd ((va_up j95_mm 0 (upd (j95_mm 0) a2.toNatClampNeg (j95_mm 1 2))) 1) 2 (rX3_after a2)))) else (j95_mm)
def uX3_reference_j134_mm (a1 : Int32) (a2 : Int32) (j122_mm : Nat → Nat → Int32) : Nat → Nat → Int32 := if a1 = 5 then ((va_up j122_mm 1 (upd (j122_mm 1) 2 a2))) else (j122_mm)
def gX3_reference (g : Nat → Int32) (mm : Nat → Nat → Int32) (a1 : Int32) (a2 : Int32) : Nat → Int32 := let j23_mm : Nat → Nat → Int32 := uX3_reference_j23_mm mm a1 a2; let j38_mm : Nat → Nat → Int32 := uX3_reference_j38_mm g a1 a2 j23_mm; let j71_g : Nat → Int32 := uX3_reference_j71_g g a1 a2 j38_mm; j71_g
def mX3_reference (g : Nat → Int32) (mm : Nat → Nat → Int32) (a1 : Int32) (a2 : Int32) : Nat → Nat → Int32 := let j23_mm : Nat → Nat → Int32 := uX3_reference_j23_mm mm a1 a2; let j38_mm : Nat → Nat → Int32 := uX3_reference_j38_mm g a1 a2 j23_mm; let j71_mm : Nat → Nat → Int32 := uX3_reference_j71_mm g a1 a2 j38_mm; let j95_mm : Nat → Nat → Int32 := uX3_reference_j95_mm a1 a2 j71_mm; let j122_mm : Nat → Nat → Int32 := uX3_reference_j122_mm a1 a2 j95_mm; let j134_mm : Nat → Nat → Int32 := uX3_reference_j134_mm a1 a2 j122_mm; j134_mm
set_option maxRecDepth 20000 in
set_option maxHeartbeats 4000000 in
theorem c_X3_reference (l : Launch) (D : va_G) (cI : ClassId) (q : Nat → Nat) (g : Nat → Int32) (mm : Nat → Nat → Int32) (a1 : Int32) (a2 : Int32) (he : vp_in a2 4096) : MI l D cI yX3_reference (.code yX3_reference cX3_reference 3 none) ({ frames := 2, cells := 0, slots := 0, locals := 40 } : Room) [.ref (q 0), .int a1, .int a2] (mw q cI g mm) (mw q cI (gX3_reference g mm a1 a2) (mX3_reference g mm a1 a2)) none := by
  refine MI.ofV (own := RX3) (by decide) rfl (Nat.le_of_ble_eq_true rfl) ?_
  intro p e s m args below meth c A ls Q X Z hl hret
  have hT : ∀ w ∈ TB, w ∈ (Cond.code yX3_reference cX3_reference 3 none :: TB) := fun _ h => List.mem_cons_of_mem _ h
  have hl : lv_has ls 3 [(0, .ref (q 0)), (1, .int a1), (2, .int a2)] := hl
  refine lv_iload_n X.1 X.2.1 dX3_reference_0 rfl (lv_at hl 1 rfl) ?_
  suffices K_23 : ∀ (j23_mm : Nat → Nat → Int32) (ls : Array Slot) (H : Heap) (locs : List Loc), j23_mm = uX3_reference_j23_mm mm a1 a2 → lv_has ls 3 [(0, .ref (q 0)), (1, .int a1), (2, .int a2)] → ZZ D cI (mw q cI g j23_mm) A s H locs → W p l e ({ frames := 2, cells := 0, slots := 0, locals := 40 } : Room) s m args below meth c H locs 0 0 Q (F0 m 23 ls []) by
    refine lv_if_ne (tgt := 23) X.1 X.2.1 dX3_reference_1 (by decide) (fun c_1 => ?_) (fun c_1 => ?_)
    · exact K_23 mm _ _ _ (if_neg c_1).symm (lv_sub hl [0, 1, 2] rfl) Z
    · refine lv_aload_n X.1 X.2.1 dX3_reference_4 rfl (lv_at hl 0 rfl) ?_
      refine G_X3_r X hT Z dX3_reference_5 ?_
      refine lv_iconst (v := 0) X.1 X.2.1 dX3_reference_8 (by decide) ?_
      refine lv_aload_n X.1 X.2.1 dX3_reference_9 rfl (lv_at hl 0 rfl) ?_
      refine G_X3_r X hT Z dX3_reference_10 ?_
      refine lv_iconst (v := 0) X.1 X.2.1 dX3_reference_13 (by decide) ?_
      refine L_X3_r (j := 0) X Z (vin_c (by decide)) (by decide) dX3_reference_14 ?_
      refine lv_aload_n X.1 X.2.1 dX3_reference_15 rfl (lv_at hl 0 rfl) ?_
      refine G_X3_core X hT Z dX3_reference_16 ?_
      refine lv_iload_n X.1 X.2.1 dX3_reference_19 rfl (lv_at hl 2 rfl) ?_
      refine L_X3_core (j := a2.toNatClampNeg) X Z he rfl dX3_reference_20 ?_
      refine lv_iand X.1 X.2.1 dX3_reference_21 ?_
      refine S_X3_r (j := 0) X Z (vin_c (by decide)) (by decide) dX3_reference_22 (fun H locs Z => ?_)
      exact K_23 (va_up mm 1 (upd (mm 1) 0 ((mm 1 0) &&& (mm 0 a2.toNatClampNeg)))) _ _ _ (if_pos c_1).symm (lv_sub hl [0, 1, 2] rfl) Z
  intro j23_mm ls H locs e_j23_mm hl Z
  refine lv_iload_n X.1 X.2.1 dX3_reference_23 rfl (lv_at hl 1 rfl) ?_
  refine lv_iconst (v := 1) X.1 X.2.1 dX3_reference_24 (by decide) ?_
  suffices K_38 : ∀ (j38_mm : Nat → Nat → Int32) (ls : Array Slot) (H : Heap) (locs : List Loc), j38_mm = uX3_reference_j38_mm g a1 a2 j23_mm → lv_has ls 3 [(0, .ref (q 0)), (1, .int a1), (2, .int a2)] → ZZ D cI (mw q cI g j38_mm) A s H locs → W p l e ({ frames := 2, cells := 0, slots := 0, locals := 40 } : Room) s m args below meth c H locs 0 0 Q (F0 m 38 ls []) by
    refine lv_icmp_ne (tgt := 38) X.1 X.2.1 dX3_reference_25 (by decide) (fun c_25 => ?_) (fun c_25 => ?_)
    · exact K_38 j23_mm _ _ _ (if_neg c_25).symm (lv_sub hl [0, 1, 2] rfl) Z
    · refine lv_aload_n X.1 X.2.1 dX3_reference_28 rfl (lv_at hl 0 rfl) ?_
      refine lv_aload_n X.1 X.2.1 dX3_reference_29 rfl (lv_at hl 0 rfl) ?_
      refine G_X3_core X hT Z dX3_reference_30 ?_
      refine lv_iload_n X.1 X.2.1 dX3_reference_33 rfl (lv_at hl 2 rfl) ?_
      refine L_X3_core (j := a2.toNatClampNeg) X Z he rfl dX3_reference_34 ?_
      refine call_Vv X hT Z (qq := (RX3, TX3, 11)) k_X3_70 (c_X3_add l D cI q g j23_mm (j23_mm 0 a2.toNatClampNeg) ) rfl rfl hd_X3_add ⟨by decide, by decide⟩ ⟨rfl, rfl⟩ hl.1 (rest := []) rfl (Nat.le_of_ble_eq_true rfl) ⟨by decide, by decide⟩ dX3_reference_35 (fun H locs Z => ?_)
      exact K_38 (mX3_add g j23_mm (j23_mm 0 a2.toNatClampNeg)) _ _ _ (if_pos c_25).symm (lv_sub hl [0, 1, 2] rfl) Z
  intro j38_mm ls H locs e_j38_mm hl Z
  refine lv_iload_n X.1 X.2.1 dX3_reference_38 rfl (lv_at hl 1 rfl) ?_
  refine lv_iconst (v := 2) X.1 X.2.1 dX3_reference_39 (by decide) ?_
  suffices K_71 : ∀ (j71_g : Nat → Int32) (j71_mm : Nat → Nat → Int32) (ls : Array Slot) (H : Heap) (locs : List Loc), j71_g = uX3_reference_j71_g g a1 a2 j38_mm → j71_mm = uX3_reference_j71_mm g a1 a2 j38_mm → lv_has ls 3 [(0, .ref (q 0)), (1, .int a1), (2, .int a2)] → ZZ D cI (mw q cI j71_g j71_mm) A s H locs → W p l e ({ frames := 2, cells := 0, slots := 0, locals := 40 } : Room) s m args below meth c H locs 0 0 Q (F0 m 71 ls []) by
    refine lv_icmp_ne (tgt := 71) X.1 X.2.1 dX3_reference_40 (by decide) (fun c_40 => ?_) (fun c_40 => ?_)
    · exact K_71 g j38_mm _ _ _ (if_neg c_40).symm (if_neg c_40).symm (lv_sub hl [0, 1, 2] rfl) Z
    · refine lv_aload_n X.1 X.2.1 dX3_reference_43 rfl (lv_at hl 0 rfl) ?_
      refine G_X3_core X hT Z dX3_reference_44 ?_
      refine lv_iload_n X.1 X.2.1 dX3_reference_47 rfl (lv_at hl 2 rfl) ?_
      refine lv_aload_n X.1 X.2.1 dX3_reference_48 rfl (lv_at hl 0 rfl) ?_
      refine G_X3_core X hT Z dX3_reference_49 ?_
      refine lv_iload_n X.1 X.2.1 dX3_reference_52 rfl (lv_at hl 2 rfl) ?_
      refine L_X3_core (j := a2.toNatClampNeg) X Z he rfl dX3_reference_53 ?_
      refine call_Si X hT Z k_X3_32 (c_X3_after l D cI (mw q cI g j38_mm) (j38_mm 0 a2.toNatClampNeg) ) hd_X3_after ⟨by decide, by decide⟩ ⟨rfl, rfl⟩ hl.1 (rest := [.int a2, .ref (q 1)]) rfl (Nat.le_of_ble_eq_true rfl) ⟨by decide, by decide⟩ dX3_reference_54 (fun H locs Z => ?_)
      refine S_X3_core (j := a2.toNatClampNeg) X Z he rfl dX3_reference_57 (fun H locs Z => ?_)
      refine lv_aload_n X.1 X.2.1 dX3_reference_58 rfl (lv_at hl 0 rfl) ?_
      refine G_X3_core X hT Z dX3_reference_59 ?_
      refine lv_iload_n X.1 X.2.1 dX3_reference_62 rfl (lv_at hl 2 rfl) ?_
      refine L_X3_core (j := a2.toNatClampNeg) X Z he rfl dX3_reference_63 ?_
      refine lv_if_ne (tgt := 71) X.1 X.2.1 dX3_reference_64 (by decide) (fun c_64 => ?_) (fun c_64 => ?_)
      · exact K_71 g (va_up j38_mm 0 (upd (j38_mm 0) a2.toNatClampNeg (rX3_after (j38_mm 0 a2.toNatClampNeg)))) _ _ _ ((if_pos c_40).trans (if_neg c_64)).symm ((if_pos c_40).trans (if_neg c_64)).symm (lv_sub hl [0, 1, 2] rfl) Z
      · refine lv_aload_n X.1 X.2.1 dX3_reference_67 rfl (lv_at hl 0 rfl) ?_
        refine call_Vv X hT Z (qq := (RX3, TX3, 11)) k_X3_73 (c_X3_skip l D cI q g (va_up j38_mm 0 (upd (j38_mm 0) a2.toNatClampNeg (rX3_after (j38_mm 0 a2.toNatClampNeg)))) ) rfl rfl hd_X3_skip ⟨by decide, by decide⟩ ⟨rfl, rfl⟩ hl.1 (rest := []) rfl (Nat.le_of_ble_eq_true rfl) ⟨by decide, by decide⟩ dX3_reference_68 (fun H locs Z => ?_)
        exact K_71 (gX3_skip g (va_up j38_mm 0 (upd (j38_mm 0) a2.toNatClampNeg (rX3_after (j38_mm 0 a2.toNatClampNeg))))) (mX3_skip g (va_up j38_mm 0 (upd (j38_mm 0) a2.toNatClampNeg (rX3_after (j38_mm 0 a2.toNatClampNeg))))) _ _ _ ((if_pos c_40).trans (if_pos c_64)).symm ((if_pos c_40).trans (if_pos c_64)).symm (lv_sub hl [0, 1, 2] rfl) Z
  intro j71_g j71_mm ls H locs e_j71_g e_j71_mm hl Z
  refine lv_iload_n X.1 X.2.1 dX3_reference_71 rfl (lv_at hl 1 rfl) ?_
  refine lv_iconst (v := 3) X.1 X.2.1 dX3_reference_72 (by decide) ?_
  suffices K_95 : ∀ (j95_mm : Nat → Nat → Int32) (ls : Array Slot) (H : Heap) (locs : List Loc), j95_mm = uX3_reference_j95_mm a1 a2 j71_mm → lv_has ls 3 [(0, .ref (q 0)), (1, .int a1), (2, .int a2)] → ZZ D cI (mw q cI j71_g j95_mm) A s H locs → W p l e ({ frames := 2, cells := 0, slots := 0, locals := 40 } : Room) s m args below meth c H locs 0 0 Q (F0 m 95 ls []) by
    refine lv_icmp_ne (tgt := 95) X.1 X.2.1 dX3_reference_73 (by decide) (fun c_73 => ?_) (fun c_73 => ?_)
    · exact K_95 j71_mm _ _ _ (if_neg c_73).symm (lv_sub hl [0, 1, 2] rfl) Z
    · refine lv_aload_n X.1 X.2.1 dX3_reference_76 rfl (lv_at hl 0 rfl) ?_
      refine G_X3_core X hT Z dX3_reference_77 ?_
      refine lv_iload_n X.1 X.2.1 dX3_reference_80 rfl (lv_at hl 2 rfl) ?_
      refine lv_aload_n X.1 X.2.1 dX3_reference_81 rfl (lv_at hl 0 rfl) ?_
      refine G_X3_r X hT Z dX3_reference_82 ?_
      refine lv_iconst (v := 0) X.1 X.2.1 dX3_reference_85 (by decide) ?_
      refine L_X3_r (j := 0) X Z (vin_c (by decide)) (by decide) dX3_reference_86 ?_
      refine S_X3_core (j := a2.toNatClampNeg) X Z he rfl dX3_reference_87 (fun H locs Z => ?_)
      refine lv_aload_n X.1 X.2.1 dX3_reference_88 rfl (lv_at hl 0 rfl) ?_
      refine G_X3_r X hT Z dX3_reference_89 ?_
      refine lv_iconst (v := 0) X.1 X.2.1 dX3_reference_92 (by decide) ?_
      refine lv_iconst (v := 0) X.1 X.2.1 dX3_reference_93 (by decide) ?_
      refine S_X3_r (j := 0) X Z (vin_c (by decide)) (by decide) dX3_reference_94 (fun H locs Z => ?_)
      exact K_95 (va_up (va_up j71_mm 0 (upd (j71_mm 0) a2.toNatClampNeg (j71_mm 1 0))) 1 (upd ((va_up j71_mm 0 (upd (j71_mm 0) a2.toNatClampNeg (j71_mm 1 0))) 1) 0 0)) _ _ _ (if_pos c_73).symm (lv_sub hl [0, 1, 2] rfl) Z
  intro j95_mm ls H locs e_j95_mm hl Z
  refine lv_iload_n X.1 X.2.1 dX3_reference_95 rfl (lv_at hl 1 rfl) ?_
  refine lv_iconst (v := 4) X.1 X.2.1 dX3_reference_96 (by decide) ?_
  suffices K_122 : ∀ (j122_mm : Nat → Nat → Int32) (ls : Array Slot) (H : Heap) (locs : List Loc), j122_mm = uX3_reference_j122_mm a1 a2 j95_mm → lv_has ls 3 [(0, .ref (q 0)), (1, .int a1), (2, .int a2)] → ZZ D cI (mw q cI j71_g j122_mm) A s H locs → W p l e ({ frames := 2, cells := 0, slots := 0, locals := 40 } : Room) s m args below meth c H locs 0 0 Q (F0 m 122 ls []) by
    refine lv_icmp_ne (tgt := 122) X.1 X.2.1 dX3_reference_97 (by decide) (fun c_97 => ?_) (fun c_97 => ?_)
    · exact K_122 j95_mm _ _ _ (if_neg c_97).symm (lv_sub hl [0, 1, 2] rfl) Z
    · refine lv_aload_n X.1 X.2.1 dX3_reference_100 rfl (lv_at hl 0 rfl) ?_
      refine G_X3_core X hT Z dX3_reference_101 ?_
      refine lv_iload_n X.1 X.2.1 dX3_reference_104 rfl (lv_at hl 2 rfl) ?_
      refine lv_aload_n X.1 X.2.1 dX3_reference_105 rfl (lv_at hl 0 rfl) ?_
      refine G_X3_r X hT Z dX3_reference_106 ?_
      refine lv_iconst (v := 2) X.1 X.2.1 dX3_reference_109 (by decide) ?_
      refine L_X3_r (j := 2) X Z (vin_c (by decide)) (by decide) dX3_reference_110 ?_
      refine S_X3_core (j := a2.toNatClampNeg) X Z he rfl dX3_reference_111 (fun H locs Z => ?_)
      refine lv_aload_n X.1 X.2.1 dX3_reference_112 rfl (lv_at hl 0 rfl) ?_
      refine G_X3_r X hT Z dX3_reference_113 ?_
      refine lv_iconst (v := 2) X.1 X.2.1 dX3_reference_116 (by decide) ?_
      refine lv_iload_n X.1 X.2.1 dX3_reference_117 rfl (lv_at hl 2 rfl) ?_
      refine call_Si X hT Z k_X3_32 (c_X3_after l D cI (mw q cI j71_g (va_up j95_mm 0 (upd (j95_mm 0) a2.toNatClampNeg (j95_mm 1 2)))) a2 ) hd_X3_after ⟨by decide, by decide⟩ ⟨rfl, rfl⟩ hl.1 (rest := [.int 2, .ref (q 2)]) rfl (Nat.le_of_ble_eq_true rfl) ⟨by decide, by decide⟩ dX3_reference_118 (fun H locs Z => ?_)
      refine S_X3_r (j := 2) X Z (vin_c (by decide)) (by decide) dX3_reference_121 (fun H locs Z => ?_)
      exact K_122 (va_up (va_up j95_mm 0 (upd (j95_mm 0) a2.toNatClampNeg (j95_mm 1 2))) 1 (upd ((va_up j95_mm 0 (upd (j95_mm 0) a2.toNatClampNeg (j95_mm 1 2))) 1) 2 (rX3_after a2))) _ _ _ (if_pos c_97).symm (lv_sub hl [0, 1, 2] rfl) Z
  intro j122_mm ls H locs e_j122_mm hl Z
  refine lv_iload_n X.1 X.2.1 dX3_reference_122 rfl (lv_at hl 1 rfl) ?_
  refine lv_iconst (v := 5) X.1 X.2.1 dX3_reference_123 (by decide) ?_
  suffices K_134 : ∀ (j134_mm : Nat → Nat → Int32) (ls : Array Slot) (H : Heap) (locs : List Loc), j134_mm = uX3_reference_j134_mm a1 a2 j122_mm → lv_has ls 3 [(0, .ref (q 0)), (1, .int a1), (2, .int a2)] → ZZ D cI (mw q cI j71_g j134_mm) A s H locs → W p l e ({ frames := 2, cells := 0, slots := 0, locals := 40 } : Room) s m args below meth c H locs 0 0 Q (F0 m 134 ls []) by
    refine lv_icmp_ne (tgt := 134) X.1 X.2.1 dX3_reference_124 (by decide) (fun c_124 => ?_) (fun c_124 => ?_)
    · exact K_134 j122_mm _ _ _ (if_neg c_124).symm (lv_sub hl [0, 1, 2] rfl) Z
    · refine lv_aload_n X.1 X.2.1 dX3_reference_127 rfl (lv_at hl 0 rfl) ?_
      refine G_X3_r X hT Z dX3_reference_128 ?_
      refine lv_iconst (v := 2) X.1 X.2.1 dX3_reference_131 (by decide) ?_
      refine lv_iload_n X.1 X.2.1 dX3_reference_132 rfl (lv_at hl 2 rfl) ?_
      refine S_X3_r (j := 2) X Z (vin_c (by decide)) (by decide) dX3_reference_133 (fun H locs Z => ?_)
      exact K_134 (va_up j122_mm 1 (upd (j122_mm 1) 2 a2)) _ _ _ (if_pos c_124).symm (lv_sub hl [0, 1, 2] rfl) Z
  intro j134_mm ls H locs e_j134_mm hl Z
  exact hret _ _ _ _ _ Z (mw_eq (by subst e_j23_mm e_j38_mm e_j71_g e_j71_mm e_j95_mm e_j122_mm e_j134_mm; exact rfl) (by subst e_j23_mm e_j38_mm e_j71_g e_j71_mm e_j95_mm e_j122_mm e_j134_mm; exact rfl)) dX3_reference_134
def uX3_second_j63_s0 (mm : Nat → Nat → Int32) (a1 : Int32) : Int32 := if (rX3_has a1 64) = 0 then (if (rX3_has a1 32) = 0 then (if (rX3_has a1 16) = 0 then (0) else (if (mm 1 1) = 1 then (1) else (0))) else (if (mm 1 0) = 0 then (1) else (if (rX3_has a1 16) = 0 then (0) else (if (mm 1 1) = 1 then (1) else (0))))) else (if (2048 : Int32) ≤ (mm 1 0) then (1) else (if (rX3_has a1 32) = 0 then (if (rX3_has a1 16) = 0 then (0) else (if (mm 1 1) = 1 then (1) else (0))) else (if (mm 1 0) = 0 then (1) else (if (rX3_has a1 16) = 0 then (0) else (if (mm 1 1) = 1 then (1) else (0))))))
def uX3_second_j78_g (g : Nat → Int32) (mm : Nat → Nat → Int32) (a1 : Int32) (j63_s0 : Int32) : Nat → Int32 := if j63_s0 = (rX3_has a1 8) then (g) else ((gX3_skip g mm))
def uX3_second_j78_mm (g : Nat → Int32) (mm : Nat → Nat → Int32) (a1 : Int32) (j63_s0 : Int32) : Nat → Nat → Int32 := if j63_s0 = (rX3_has a1 8) then (mm) else ((mX3_skip g mm))
def uX3_second_j95_mm (a1 : Int32) (j78_mm : Nat → Nat → Int32) : Nat → Nat → Int32 := if (rX3_has a1 128) = 0 then (j78_mm) else ((va_up j78_mm 1 (upd (j78_mm 1) 0 0)))
def uX3_second_j122_mm (a1 : Int32) (j95_mm : Nat → Nat → Int32) : Nat → Nat → Int32 := if (rX3_has a1 4) = 0 then (j95_mm) else ((va_up j95_mm 1 (upd (j95_mm 1) 0 ((j95_mm 1 0) ||| (j95_mm 1 4)))))
def uX3_second_j138_mm (a1 : Int32) (j122_mm : Nat → Nat → Int32) : Nat → Nat → Int32 := if (rX3_has a1 2) = 0 then (j122_mm) else ((va_up j122_mm 1 (upd (j122_mm 1) 10 1)))
def gX3_second (g : Nat → Int32) (mm : Nat → Nat → Int32) (a1 : Int32) : Nat → Int32 := let j63_s0 : Int32 := uX3_second_j63_s0 mm a1; let j78_g : Nat → Int32 := uX3_second_j78_g g mm a1 j63_s0; j78_g
def mX3_second (g : Nat → Int32) (mm : Nat → Nat → Int32) (a1 : Int32) : Nat → Nat → Int32 := let j63_s0 : Int32 := uX3_second_j63_s0 mm a1; let j78_mm : Nat → Nat → Int32 := uX3_second_j78_mm g mm a1 j63_s0; let j95_mm : Nat → Nat → Int32 := uX3_second_j95_mm a1 j78_mm; let j122_mm : Nat → Nat → Int32 := uX3_second_j122_mm a1 j95_mm; let j138_mm : Nat → Nat → Int32 := uX3_second_j138_mm a1 j122_mm; j138_mm
set_option maxRecDepth 20000 in
set_option maxHeartbeats 4000000 in
theorem c_X3_second (l : Launch) (D : va_G) (cI : ClassId) (q : Nat → Nat) (g : Nat → Int32) (mm : Nat → Nat → Int32) (a1 : Int32)  : MI l D cI yX3_second (.code yX3_second cX3_second 3 none) ({ frames := 2, cells := 0, slots := 0, locals := 40 } : Room) [.ref (q 0), .int a1] (mw q cI g mm) (mw q cI (gX3_second g mm a1) (mX3_second g mm a1)) none := by
  refine MI.ofV (own := RX3) (by decide) rfl (Nat.le_of_ble_eq_true rfl) ?_
  intro p e s m args below meth c A ls Q X Z hl hret
  have hT : ∀ w ∈ TB, w ∈ (Cond.code yX3_second cX3_second 3 none :: TB) := fun _ h => List.mem_cons_of_mem _ h
  have hl : lv_has ls 3 [(0, .ref (q 0)), (1, .int a1)] := hl
  refine lv_iload_n X.1 X.2.1 dX3_second_0 rfl (lv_at hl 1 rfl) ?_
  refine lv_bipush (v := 64) X.1 X.2.1 dX3_second_1 (by decide) ?_
  refine call_Si X hT Z k_X3_57 (c_X3_has l D cI (mw q cI g mm) a1 64 (by decide)) hd_X3_has ⟨by decide, by decide⟩ ⟨rfl, rfl⟩ hl.1 (rest := []) rfl (Nat.le_of_ble_eq_true rfl) ⟨by decide, by decide⟩ dX3_second_3 (fun H locs Z => ?_)
  suffices K_63 : ∀ (j63_s0 : Int32) (ls : Array Slot) (H : Heap) (locs : List Loc), j63_s0 = uX3_second_j63_s0 mm a1 → lv_has ls 3 [(0, .ref (q 0)), (1, .int a1)] → ZZ D cI (mw q cI g mm) A s H locs → W p l e ({ frames := 2, cells := 0, slots := 0, locals := 40 } : Room) s m args below meth c H locs 0 0 Q (F0 m 63 ls [.int j63_s0]) by
    refine lv_if_eq (tgt := 21) X.1 X.2.1 dX3_second_6 (by decide) (fun c_6 => ?_) (fun c_6 => ?_)
    · refine lv_iload_n X.1 X.2.1 dX3_second_21 rfl (lv_at hl 1 rfl) ?_
      refine lv_bipush (v := 32) X.1 X.2.1 dX3_second_22 (by decide) ?_
      refine call_Si X hT Z k_X3_57 (c_X3_has l D cI (mw q cI g mm) a1 32 (by decide)) hd_X3_has ⟨by decide, by decide⟩ ⟨rfl, rfl⟩ hl.1 (rest := []) rfl (Nat.le_of_ble_eq_true rfl) ⟨by decide, by decide⟩ dX3_second_24 (fun H locs Z => ?_)
      refine lv_if_eq (tgt := 39) X.1 X.2.1 dX3_second_27 (by decide) (fun c_27 => ?_) (fun c_27 => ?_)
      · refine lv_iload_n X.1 X.2.1 dX3_second_39 rfl (lv_at hl 1 rfl) ?_
        refine lv_bipush (v := 16) X.1 X.2.1 dX3_second_40 (by decide) ?_
        refine call_Si X hT Z k_X3_57 (c_X3_has l D cI (mw q cI g mm) a1 16 (by decide)) hd_X3_has ⟨by decide, by decide⟩ ⟨rfl, rfl⟩ hl.1 (rest := []) rfl (Nat.le_of_ble_eq_true rfl) ⟨by decide, by decide⟩ dX3_second_42 (fun H locs Z => ?_)
        refine lv_if_eq (tgt := 62) X.1 X.2.1 dX3_second_45 (by decide) (fun c_45 => ?_) (fun c_45 => ?_)
        · refine lv_iconst (v := 0) X.1 X.2.1 dX3_second_62 (by decide) ?_
          exact K_63 0 _ _ _ ((if_pos c_6).trans ((if_pos c_27).trans (if_pos c_45))).symm (lv_sub hl [0, 1] rfl) Z
        · refine lv_aload_n X.1 X.2.1 dX3_second_48 rfl (lv_at hl 0 rfl) ?_
          refine G_X3_r X hT Z dX3_second_49 ?_
          refine lv_iconst (v := 1) X.1 X.2.1 dX3_second_52 (by decide) ?_
          refine L_X3_r (j := 1) X Z (vin_c (by decide)) (by decide) dX3_second_53 ?_
          refine lv_iconst (v := 1) X.1 X.2.1 dX3_second_54 (by decide) ?_
          refine lv_icmp_ne (tgt := 62) X.1 X.2.1 dX3_second_55 (by decide) (fun c_55 => ?_) (fun c_55 => ?_)
          · refine lv_iconst (v := 0) X.1 X.2.1 dX3_second_62 (by decide) ?_
            exact K_63 0 _ _ _ ((if_pos c_6).trans ((if_pos c_27).trans ((if_neg c_45).trans (if_neg c_55)))).symm (lv_sub hl [0, 1] rfl) Z
          · refine lv_iconst (v := 1) X.1 X.2.1 dX3_second_58 (by decide) ?_
            refine lv_goto (tgt := 63) X.1 X.2.1 dX3_second_59 (by decide) ?_
            exact K_63 1 _ _ _ ((if_pos c_6).trans ((if_pos c_27).trans ((if_neg c_45).trans (if_pos c_55)))).symm (lv_sub hl [0, 1] rfl) Z
      · refine lv_aload_n X.1 X.2.1 dX3_second_30 rfl (lv_at hl 0 rfl) ?_
        refine G_X3_r X hT Z dX3_second_31 ?_
        refine lv_iconst (v := 0) X.1 X.2.1 dX3_second_34 (by decide) ?_
        refine L_X3_r (j := 0) X Z (vin_c (by decide)) (by decide) dX3_second_35 ?_
        refine lv_if_eq (tgt := 58) X.1 X.2.1 dX3_second_36 (by decide) (fun c_36 => ?_) (fun c_36 => ?_)
        · refine lv_iconst (v := 1) X.1 X.2.1 dX3_second_58 (by decide) ?_
          refine lv_goto (tgt := 63) X.1 X.2.1 dX3_second_59 (by decide) ?_
          exact K_63 1 _ _ _ ((if_pos c_6).trans ((if_neg c_27).trans (if_pos c_36))).symm (lv_sub hl [0, 1] rfl) Z
        · refine lv_iload_n X.1 X.2.1 dX3_second_39 rfl (lv_at hl 1 rfl) ?_
          refine lv_bipush (v := 16) X.1 X.2.1 dX3_second_40 (by decide) ?_
          refine call_Si X hT Z k_X3_57 (c_X3_has l D cI (mw q cI g mm) a1 16 (by decide)) hd_X3_has ⟨by decide, by decide⟩ ⟨rfl, rfl⟩ hl.1 (rest := []) rfl (Nat.le_of_ble_eq_true rfl) ⟨by decide, by decide⟩ dX3_second_42 (fun H locs Z => ?_)
          refine lv_if_eq (tgt := 62) X.1 X.2.1 dX3_second_45 (by decide) (fun c_45 => ?_) (fun c_45 => ?_)
          · refine lv_iconst (v := 0) X.1 X.2.1 dX3_second_62 (by decide) ?_
            exact K_63 0 _ _ _ ((if_pos c_6).trans ((if_neg c_27).trans ((if_neg c_36).trans (if_pos c_45)))).symm (lv_sub hl [0, 1] rfl) Z
          · refine lv_aload_n X.1 X.2.1 dX3_second_48 rfl (lv_at hl 0 rfl) ?_
            refine G_X3_r X hT Z dX3_second_49 ?_
            refine lv_iconst (v := 1) X.1 X.2.1 dX3_second_52 (by decide) ?_
            refine L_X3_r (j := 1) X Z (vin_c (by decide)) (by decide) dX3_second_53 ?_
            refine lv_iconst (v := 1) X.1 X.2.1 dX3_second_54 (by decide) ?_
            refine lv_icmp_ne (tgt := 62) X.1 X.2.1 dX3_second_55 (by decide) (fun c_55 => ?_) (fun c_55 => ?_)
            · refine lv_iconst (v := 0) X.1 X.2.1 dX3_second_62 (by decide) ?_
              exact K_63 0 _ _ _ ((if_pos c_6).trans ((if_neg c_27).trans ((if_neg c_36).trans ((if_neg c_45).trans (if_neg c_55))))).symm (lv_sub hl [0, 1] rfl) Z
            · refine lv_iconst (v := 1) X.1 X.2.1 dX3_second_58 (by decide) ?_
              refine lv_goto (tgt := 63) X.1 X.2.1 dX3_second_59 (by decide) ?_
              exact K_63 1 _ _ _ ((if_pos c_6).trans ((if_neg c_27).trans ((if_neg c_36).trans ((if_neg c_45).trans (if_pos c_55))))).symm (lv_sub hl [0, 1] rfl) Z
    · refine lv_aload_n X.1 X.2.1 dX3_second_9 rfl (lv_at hl 0 rfl) ?_
      refine G_X3_r X hT Z dX3_second_10 ?_
      refine lv_iconst (v := 0) X.1 X.2.1 dX3_second_13 (by decide) ?_
      refine L_X3_r (j := 0) X Z (vin_c (by decide)) (by decide) dX3_second_14 ?_
      refine lv_sipush (v := 2048) X.1 X.2.1 dX3_second_15 (by decide) ?_
      refine lv_icmp_ge (tgt := 58) X.1 X.2.1 dX3_second_18 (by decide) (fun c_18 => ?_) (fun c_18 => ?_)
      · refine lv_iconst (v := 1) X.1 X.2.1 dX3_second_58 (by decide) ?_
        refine lv_goto (tgt := 63) X.1 X.2.1 dX3_second_59 (by decide) ?_
        exact K_63 1 _ _ _ ((if_neg c_6).trans (if_pos c_18)).symm (lv_sub hl [0, 1] rfl) Z
      · refine lv_iload_n X.1 X.2.1 dX3_second_21 rfl (lv_at hl 1 rfl) ?_
        refine lv_bipush (v := 32) X.1 X.2.1 dX3_second_22 (by decide) ?_
        refine call_Si X hT Z k_X3_57 (c_X3_has l D cI (mw q cI g mm) a1 32 (by decide)) hd_X3_has ⟨by decide, by decide⟩ ⟨rfl, rfl⟩ hl.1 (rest := []) rfl (Nat.le_of_ble_eq_true rfl) ⟨by decide, by decide⟩ dX3_second_24 (fun H locs Z => ?_)
        refine lv_if_eq (tgt := 39) X.1 X.2.1 dX3_second_27 (by decide) (fun c_27 => ?_) (fun c_27 => ?_)
        · refine lv_iload_n X.1 X.2.1 dX3_second_39 rfl (lv_at hl 1 rfl) ?_
          refine lv_bipush (v := 16) X.1 X.2.1 dX3_second_40 (by decide) ?_
          refine call_Si X hT Z k_X3_57 (c_X3_has l D cI (mw q cI g mm) a1 16 (by decide)) hd_X3_has ⟨by decide, by decide⟩ ⟨rfl, rfl⟩ hl.1 (rest := []) rfl (Nat.le_of_ble_eq_true rfl) ⟨by decide, by decide⟩ dX3_second_42 (fun H locs Z => ?_)
          refine lv_if_eq (tgt := 62) X.1 X.2.1 dX3_second_45 (by decide) (fun c_45 => ?_) (fun c_45 => ?_)
          · refine lv_iconst (v := 0) X.1 X.2.1 dX3_second_62 (by decide) ?_
            exact K_63 0 _ _ _ ((if_neg c_6).trans ((if_neg c_18).trans ((if_pos c_27).trans (if_pos c_45)))).symm (lv_sub hl [0, 1] rfl) Z
          · refine lv_aload_n X.1 X.2.1 dX3_second_48 rfl (lv_at hl 0 rfl) ?_
            refine G_X3_r X hT Z dX3_second_49 ?_
            refine lv_iconst (v := 1) X.1 X.2.1 dX3_second_52 (by decide) ?_
            refine L_X3_r (j := 1) X Z (vin_c (by decide)) (by decide) dX3_second_53 ?_
            refine lv_iconst (v := 1) X.1 X.2.1 dX3_second_54 (by decide) ?_
            refine lv_icmp_ne (tgt := 62) X.1 X.2.1 dX3_second_55 (by decide) (fun c_55 => ?_) (fun c_55 => ?_)
            · refine lv_iconst (v := 0) X.1 X.2.1 dX3_second_62 (by decide) ?_
              exact K_63 0 _ _ _ ((if_neg c_6).trans ((if_neg c_18).trans ((if_pos c_27).trans ((if_neg c_45).trans (if_neg c_55))))).symm (lv_sub hl [0, 1] rfl) Z
            · refine lv_iconst (v := 1) X.1 X.2.1 dX3_second_58 (by decide) ?_
              refine lv_goto (tgt := 63) X.1 X.2.1 dX3_second_59 (by decide) ?_
              exact K_63 1 _ _ _ ((if_neg c_6).trans ((if_neg c_18).trans ((if_pos c_27).trans ((if_neg c_45).trans (if_pos c_55))))).symm (lv_sub hl [0, 1] rfl) Z
        · refine lv_aload_n X.1 X.2.1 dX3_second_30 rfl (lv_at hl 0 rfl) ?_
          refine G_X3_r X hT Z dX3_second_31 ?_
          refine lv_iconst (v := 0) X.1 X.2.1 dX3_second_34 (by decide) ?_
          refine L_X3_r (j := 0) X Z (vin_c (by decide)) (by decide) dX3_second_35 ?_
          refine lv_if_eq (tgt := 58) X.1 X.2.1 dX3_second_36 (by decide) (fun c_36 => ?_) (fun c_36 => ?_)
          · refine lv_iconst (v := 1) X.1 X.2.1 dX3_second_58 (by decide) ?_
            refine lv_goto (tgt := 63) X.1 X.2.1 dX3_second_59 (by decide) ?_
            exact K_63 1 _ _ _ ((if_neg c_6).trans ((if_neg c_18).trans ((if_neg c_27).trans (if_pos c_36)))).symm (lv_sub hl [0, 1] rfl) Z
          · refine lv_iload_n X.1 X.2.1 dX3_second_39 rfl (lv_at hl 1 rfl) ?_
            refine lv_bipush (v := 16) X.1 X.2.1 dX3_second_40 (by decide) ?_
            refine call_Si X hT Z k_X3_57 (c_X3_has l D cI (mw q cI g mm) a1 16 (by decide)) hd_X3_has ⟨by decide, by decide⟩ ⟨rfl, rfl⟩ hl.1 (rest := []) rfl (Nat.le_of_ble_eq_true rfl) ⟨by decide, by decide⟩ dX3_second_42 (fun H locs Z => ?_)
            refine lv_if_eq (tgt := 62) X.1 X.2.1 dX3_second_45 (by decide) (fun c_45 => ?_) (fun c_45 => ?_)
            · refine lv_iconst (v := 0) X.1 X.2.1 dX3_second_62 (by decide) ?_
              exact K_63 0 _ _ _ ((if_neg c_6).trans ((if_neg c_18).trans ((if_neg c_27).trans ((if_neg c_36).trans (if_pos c_45))))).symm (lv_sub hl [0, 1] rfl) Z
            · refine lv_aload_n X.1 X.2.1 dX3_second_48 rfl (lv_at hl 0 rfl) ?_
              refine G_X3_r X hT Z dX3_second_49 ?_
              refine lv_iconst (v := 1) X.1 X.2.1 dX3_second_52 (by decide) ?_
              refine L_X3_r (j := 1) X Z (vin_c (by decide)) (by decide) dX3_second_53 ?_
              refine lv_iconst (v := 1) X.1 X.2.1 dX3_second_54 (by decide) ?_
              refine lv_icmp_ne (tgt := 62) X.1 X.2.1 dX3_second_55 (by decide) (fun c_55 => ?_) (fun c_55 => ?_)
              · refine lv_iconst (v := 0) X.1 X.2.1 dX3_second_62 (by decide) ?_
                exact K_63 0 _ _ _ ((if_neg c_6).trans ((if_neg c_18).trans ((if_neg c_27).trans ((if_neg c_36).trans ((if_neg c_45).trans (if_neg c_55)))))).symm (lv_sub hl [0, 1] rfl) Z
              · refine lv_iconst (v := 1) X.1 X.2.1 dX3_second_58 (by decide) ?_
                refine lv_goto (tgt := 63) X.1 X.2.1 dX3_second_59 (by decide) ?_
                exact K_63 1 _ _ _ ((if_neg c_6).trans ((if_neg c_18).trans ((if_neg c_27).trans ((if_neg c_36).trans ((if_neg c_45).trans (if_pos c_55)))))).symm (lv_sub hl [0, 1] rfl) Z
  intro j63_s0 ls H locs e_j63_s0 hl Z
  refine lv_istore_n (lv' := [(2, .int j63_s0), (0, .ref (q 0)), (1, .int a1)]) X.1 X.2.1 dX3_second_63 rfl hl (by decide) rfl (fun ls hl => ?_)
  refine lv_iload_n X.1 X.2.1 dX3_second_64 rfl (lv_at hl 0 rfl) ?_
  refine lv_iload_n X.1 X.2.1 dX3_second_65 rfl (lv_at hl 2 rfl) ?_
  refine lv_bipush (v := 8) X.1 X.2.1 dX3_second_66 (by decide) ?_
  refine call_Si X hT Z k_X3_57 (c_X3_has l D cI (mw q cI g mm) a1 8 (by decide)) hd_X3_has ⟨by decide, by decide⟩ ⟨rfl, rfl⟩ hl.1 (rest := [.int j63_s0]) rfl (Nat.le_of_ble_eq_true rfl) ⟨by decide, by decide⟩ dX3_second_68 (fun H locs Z => ?_)
  suffices K_78 : ∀ (j78_g : Nat → Int32) (j78_mm : Nat → Nat → Int32) (ls : Array Slot) (H : Heap) (locs : List Loc), j78_g = uX3_second_j78_g g mm a1 j63_s0 → j78_mm = uX3_second_j78_mm g mm a1 j63_s0 → lv_has ls 3 [(2, .int j63_s0), (0, .ref (q 0)), (1, .int a1)] → ZZ D cI (mw q cI j78_g j78_mm) A s H locs → W p l e ({ frames := 2, cells := 0, slots := 0, locals := 40 } : Room) s m args below meth c H locs 0 0 Q (F0 m 78 ls []) by
    refine lv_icmp_eq (tgt := 78) X.1 X.2.1 dX3_second_71 (by decide) (fun c_71 => ?_) (fun c_71 => ?_)
    · exact K_78 g mm _ _ _ (if_pos c_71).symm (if_pos c_71).symm (lv_sub hl [0, 1, 2] rfl) Z
    · refine lv_aload_n X.1 X.2.1 dX3_second_74 rfl (lv_at hl 1 rfl) ?_
      refine call_Vv X hT Z (qq := (RX3, TX3, 11)) k_X3_73 (c_X3_skip l D cI q g mm ) rfl rfl hd_X3_skip ⟨by decide, by decide⟩ ⟨rfl, rfl⟩ hl.1 (rest := []) rfl (Nat.le_of_ble_eq_true rfl) ⟨by decide, by decide⟩ dX3_second_75 (fun H locs Z => ?_)
      exact K_78 (gX3_skip g mm) (mX3_skip g mm) _ _ _ (if_neg c_71).symm (if_neg c_71).symm (lv_sub hl [0, 1, 2] rfl) Z
  intro j78_g j78_mm ls H locs e_j78_g e_j78_mm hl Z
  refine lv_iload_n X.1 X.2.1 dX3_second_78 rfl (lv_at hl 2 rfl) ?_
  refine lv_sipush (v := 128) X.1 X.2.1 dX3_second_79 (by decide) ?_
  refine call_Si X hT Z k_X3_57 (c_X3_has l D cI (mw q cI j78_g j78_mm) a1 128 (by decide)) hd_X3_has ⟨by decide, by decide⟩ ⟨rfl, rfl⟩ hl.1 (rest := []) rfl (Nat.le_of_ble_eq_true rfl) ⟨by decide, by decide⟩ dX3_second_82 (fun H locs Z => ?_)
  suffices K_95 : ∀ (j95_mm : Nat → Nat → Int32) (ls : Array Slot) (H : Heap) (locs : List Loc), j95_mm = uX3_second_j95_mm a1 j78_mm → lv_has ls 3 [(2, .int j63_s0), (0, .ref (q 0)), (1, .int a1)] → ZZ D cI (mw q cI j78_g j95_mm) A s H locs → W p l e ({ frames := 2, cells := 0, slots := 0, locals := 40 } : Room) s m args below meth c H locs 0 0 Q (F0 m 95 ls []) by
    refine lv_if_eq (tgt := 95) X.1 X.2.1 dX3_second_85 (by decide) (fun c_85 => ?_) (fun c_85 => ?_)
    · exact K_95 j78_mm _ _ _ (if_pos c_85).symm (lv_sub hl [0, 1, 2] rfl) Z
    · refine lv_aload_n X.1 X.2.1 dX3_second_88 rfl (lv_at hl 1 rfl) ?_
      refine G_X3_r X hT Z dX3_second_89 ?_
      refine lv_iconst (v := 0) X.1 X.2.1 dX3_second_92 (by decide) ?_
      refine lv_iconst (v := 0) X.1 X.2.1 dX3_second_93 (by decide) ?_
      refine S_X3_r (j := 0) X Z (vin_c (by decide)) (by decide) dX3_second_94 (fun H locs Z => ?_)
      exact K_95 (va_up j78_mm 1 (upd (j78_mm 1) 0 0)) _ _ _ (if_neg c_85).symm (lv_sub hl [0, 1, 2] rfl) Z
  intro j95_mm ls H locs e_j95_mm hl Z
  refine lv_iload_n X.1 X.2.1 dX3_second_95 rfl (lv_at hl 2 rfl) ?_
  refine lv_iconst (v := 4) X.1 X.2.1 dX3_second_96 (by decide) ?_
  refine call_Si X hT Z k_X3_57 (c_X3_has l D cI (mw q cI j78_g j95_mm) a1 4 (by decide)) hd_X3_has ⟨by decide, by decide⟩ ⟨rfl, rfl⟩ hl.1 (rest := []) rfl (Nat.le_of_ble_eq_true rfl) ⟨by decide, by decide⟩ dX3_second_97 (fun H locs Z => ?_)
  suffices K_122 : ∀ (j122_mm : Nat → Nat → Int32) (ls : Array Slot) (H : Heap) (locs : List Loc), j122_mm = uX3_second_j122_mm a1 j95_mm → lv_has ls 3 [(2, .int j63_s0), (0, .ref (q 0)), (1, .int a1)] → ZZ D cI (mw q cI j78_g j122_mm) A s H locs → W p l e ({ frames := 2, cells := 0, slots := 0, locals := 40 } : Room) s m args below meth c H locs 0 0 Q (F0 m 122 ls []) by
    refine lv_if_eq (tgt := 122) X.1 X.2.1 dX3_second_100 (by decide) (fun c_100 => ?_) (fun c_100 => ?_)
    · exact K_122 j95_mm _ _ _ (if_pos c_100).symm (lv_sub hl [0, 1, 2] rfl) Z
    · refine lv_aload_n X.1 X.2.1 dX3_second_103 rfl (lv_at hl 1 rfl) ?_
      refine G_X3_r X hT Z dX3_second_104 ?_
      refine lv_iconst (v := 0) X.1 X.2.1 dX3_second_107 (by decide) ?_
      refine lv_aload_n X.1 X.2.1 dX3_second_108 rfl (lv_at hl 1 rfl) ?_
      refine G_X3_r X hT Z dX3_second_109 ?_
      refine lv_iconst (v := 0) X.1 X.2.1 dX3_second_112 (by decide) ?_
      refine L_X3_r (j := 0) X Z (vin_c (by decide)) (by decide) dX3_second_113 ?_
      refine lv_aload_n X.1 X.2.1 dX3_second_114 rfl (lv_at hl 1 rfl) ?_
      refine G_X3_r X hT Z dX3_second_115 ?_
      refine lv_iconst (v := 4) X.1 X.2.1 dX3_second_118 (by decide) ?_
      refine L_X3_r (j := 4) X Z (vin_c (by decide)) (by decide) dX3_second_119 ?_
      refine lv_ior X.1 X.2.1 dX3_second_120 ?_
      refine S_X3_r (j := 0) X Z (vin_c (by decide)) (by decide) dX3_second_121 (fun H locs Z => ?_)
      exact K_122 (va_up j95_mm 1 (upd (j95_mm 1) 0 ((j95_mm 1 0) ||| (j95_mm 1 4)))) _ _ _ (if_neg c_100).symm (lv_sub hl [0, 1, 2] rfl) Z
  intro j122_mm ls H locs e_j122_mm hl Z
  refine lv_iload_n X.1 X.2.1 dX3_second_122 rfl (lv_at hl 2 rfl) ?_
  refine lv_iconst (v := 2) X.1 X.2.1 dX3_second_123 (by decide) ?_
  refine call_Si X hT Z k_X3_57 (c_X3_has l D cI (mw q cI j78_g j122_mm) a1 2 (by decide)) hd_X3_has ⟨by decide, by decide⟩ ⟨rfl, rfl⟩ hl.1 (rest := []) rfl (Nat.le_of_ble_eq_true rfl) ⟨by decide, by decide⟩ dX3_second_124 (fun H locs Z => ?_)
  suffices K_138 : ∀ (j138_mm : Nat → Nat → Int32) (ls : Array Slot) (H : Heap) (locs : List Loc), j138_mm = uX3_second_j138_mm a1 j122_mm → lv_has ls 3 [(2, .int j63_s0), (0, .ref (q 0)), (1, .int a1)] → ZZ D cI (mw q cI j78_g j138_mm) A s H locs → W p l e ({ frames := 2, cells := 0, slots := 0, locals := 40 } : Room) s m args below meth c H locs 0 0 Q (F0 m 138 ls []) by
    refine lv_if_eq (tgt := 138) X.1 X.2.1 dX3_second_127 (by decide) (fun c_127 => ?_) (fun c_127 => ?_)
    · exact K_138 j122_mm _ _ _ (if_pos c_127).symm (lv_sub hl [0, 1, 2] rfl) Z
    · refine lv_aload_n X.1 X.2.1 dX3_second_130 rfl (lv_at hl 1 rfl) ?_
      refine G_X3_r X hT Z dX3_second_131 ?_
      refine lv_bipush (v := 10) X.1 X.2.1 dX3_second_134 (by decide) ?_
      refine lv_iconst (v := 1) X.1 X.2.1 dX3_second_136 (by decide) ?_
      refine S_X3_r (j := 10) X Z (vin_c (by decide)) (by decide) dX3_second_137 (fun H locs Z => ?_)
      exact K_138 (va_up j122_mm 1 (upd (j122_mm 1) 10 1)) _ _ _ (if_neg c_127).symm (lv_sub hl [0, 1, 2] rfl) Z
  intro j138_mm ls H locs e_j138_mm hl Z
  exact hret _ _ _ _ _ Z (mw_eq (by subst e_j63_s0 e_j78_g e_j78_mm e_j95_mm e_j122_mm e_j138_mm; exact rfl) (by subst e_j63_s0 e_j78_g e_j78_mm e_j95_mm e_j122_mm e_j138_mm; exact rfl)) dX3_second_138
def uX3_third_j20_s0 (mm : Nat → Nat → Int32) (a1 : Int32) : Int32 := if (rX3_has a1 128) = 0 then ((mm 1 0)) else (0)
def uX3_third_j84_s0 (mm : Nat → Nat → Int32) (a1 : Int32) (j20_s0 : Int32) : Int32 := if (rX3_has a1 16) = 0 then (if (rX3_has a1 16) = 0 then (if (rX3_has a1 64) = 0 then (j20_s0) else ((j20_s0 ||| (mm 1 3)))) else (0)) else (if (rX3_has a1 64) = 0 then (if (rX3_has a1 16) = 0 then (if (rX3_has a1 64) = 0 then (j20_s0) else ((j20_s0 ||| (mm 1 3)))) else (0)) else ((mm 1 3)))
def uX3_third_j100_s0 (mm : Nat → Nat → Int32) (a1 : Int32) (j20_s0 : Int32) : Int32 := if (rX3_has a1 16) = 0 then ((mm 1 3)) else (j20_s0)
def mX3_third (g : Nat → Int32) (mm : Nat → Nat → Int32) (a1 : Int32) : Nat → Nat → Int32 := let j20_s0 : Int32 := uX3_third_j20_s0 mm a1; let j84_s0 : Int32 := uX3_third_j84_s0 mm a1 j20_s0; let j100_s0 : Int32 := uX3_third_j100_s0 mm a1 j20_s0; (va_up (va_up mm 1 (upd (mm 1) 0 j84_s0)) 1 (upd ((va_up mm 1 (upd (mm 1) 0 j84_s0)) 1) 3 j100_s0))
set_option maxRecDepth 20000 in
set_option maxHeartbeats 4000000 in
theorem c_X3_third (l : Launch) (D : va_G) (cI : ClassId) (q : Nat → Nat) (g : Nat → Int32) (mm : Nat → Nat → Int32) (a1 : Int32)  : MI l D cI yX3_third (.code yX3_third cX3_third 6 none) ({ frames := 1, cells := 0, slots := 0, locals := 21 } : Room) [.ref (q 0), .int a1] (mw q cI g mm) (mw q cI g (mX3_third g mm a1)) none := by
  refine MI.ofV (own := RX3) (by decide) rfl (Nat.le_of_ble_eq_true rfl) ?_
  intro p e s m args below meth c A ls Q X Z hl hret
  have hT : ∀ w ∈ TB, w ∈ (Cond.code yX3_third cX3_third 6 none :: TB) := fun _ h => List.mem_cons_of_mem _ h
  have hl : lv_has ls 6 [(0, .ref (q 0)), (1, .int a1)] := hl
  refine lv_iload_n X.1 X.2.1 dX3_third_0 rfl (lv_at hl 1 rfl) ?_
  refine lv_sipush (v := 128) X.1 X.2.1 dX3_third_1 (by decide) ?_
  refine call_Si X hT Z k_X3_57 (c_X3_has l D cI (mw q cI g mm) a1 128 (by decide)) hd_X3_has ⟨by decide, by decide⟩ ⟨rfl, rfl⟩ hl.1 (rest := []) rfl (Nat.le_of_ble_eq_true rfl) ⟨by decide, by decide⟩ dX3_third_4 (fun H locs Z => ?_)
  suffices K_20 : ∀ (j20_s0 : Int32) (ls : Array Slot) (H : Heap) (locs : List Loc), j20_s0 = uX3_third_j20_s0 mm a1 → lv_has ls 6 [(0, .ref (q 0)), (1, .int a1)] → ZZ D cI (mw q cI g mm) A s H locs → W p l e ({ frames := 1, cells := 0, slots := 0, locals := 21 } : Room) s m args below meth c H locs 0 0 Q (F0 m 20 ls [.int j20_s0]) by
    refine lv_if_eq (tgt := 14) X.1 X.2.1 dX3_third_7 (by decide) (fun c_7 => ?_) (fun c_7 => ?_)
    · refine lv_aload_n X.1 X.2.1 dX3_third_14 rfl (lv_at hl 0 rfl) ?_
      refine G_X3_r X hT Z dX3_third_15 ?_
      refine lv_iconst (v := 0) X.1 X.2.1 dX3_third_18 (by decide) ?_
      refine L_X3_r (j := 0) X Z (vin_c (by decide)) (by decide) dX3_third_19 ?_
      exact K_20 (mm 1 0) _ _ _ (if_pos c_7).symm (lv_sub hl [0, 1] rfl) Z
    · refine lv_iconst (v := 0) X.1 X.2.1 dX3_third_10 (by decide) ?_
      refine lv_goto (tgt := 20) X.1 X.2.1 dX3_third_11 (by decide) ?_
      exact K_20 0 _ _ _ (if_neg c_7).symm (lv_sub hl [0, 1] rfl) Z
  intro j20_s0 ls H locs e_j20_s0 hl Z
  refine lv_istore_n (lv' := [(2, .int j20_s0), (0, .ref (q 0)), (1, .int a1)]) X.1 X.2.1 dX3_third_20 rfl hl (by decide) rfl (fun ls hl => ?_)
  refine lv_aload_n X.1 X.2.1 dX3_third_21 rfl (lv_at hl 1 rfl) ?_
  refine G_X3_r X hT Z dX3_third_22 ?_
  refine lv_iconst (v := 3) X.1 X.2.1 dX3_third_25 (by decide) ?_
  refine L_X3_r (j := 3) X Z (vin_c (by decide)) (by decide) dX3_third_26 ?_
  refine lv_istore_n (lv' := [(3, .int (mm 1 3)), (2, .int j20_s0), (0, .ref (q 0)), (1, .int a1)]) X.1 X.2.1 dX3_third_27 rfl hl (by decide) rfl (fun ls hl => ?_)
  refine lv_iload_n X.1 X.2.1 dX3_third_28 rfl (lv_at hl 3 rfl) ?_
  refine lv_bipush (v := 16) X.1 X.2.1 dX3_third_29 (by decide) ?_
  refine call_Si X hT Z k_X3_57 (c_X3_has l D cI (mw q cI g mm) a1 16 (by decide)) hd_X3_has ⟨by decide, by decide⟩ ⟨rfl, rfl⟩ hl.1 (rest := []) rfl (Nat.le_of_ble_eq_true rfl) ⟨by decide, by decide⟩ dX3_third_31 (fun H locs Z => ?_)
  refine lv_istore (lv' := [(4, .int (rX3_has a1 16)), (3, .int (mm 1 3)), (2, .int j20_s0), (0, .ref (q 0)), (1, .int a1)]) X.1 X.2.1 dX3_third_34 hl (by decide) rfl (fun ls hl => ?_)
  refine lv_iload_n X.1 X.2.1 dX3_third_36 rfl (lv_at hl 4 rfl) ?_
  refine lv_bipush (v := 64) X.1 X.2.1 dX3_third_37 (by decide) ?_
  refine call_Si X hT Z k_X3_57 (c_X3_has l D cI (mw q cI g mm) a1 64 (by decide)) hd_X3_has ⟨by decide, by decide⟩ ⟨rfl, rfl⟩ hl.1 (rest := []) rfl (Nat.le_of_ble_eq_true rfl) ⟨by decide, by decide⟩ dX3_third_39 (fun H locs Z => ?_)
  refine lv_istore (lv' := [(5, .int (rX3_has a1 64)), (4, .int (rX3_has a1 16)), (3, .int (mm 1 3)), (2, .int j20_s0), (0, .ref (q 0)), (1, .int a1)]) X.1 X.2.1 dX3_third_42 hl (by decide) rfl (fun ls hl => ?_)
  refine lv_aload_n X.1 X.2.1 dX3_third_44 rfl (lv_at hl 4 rfl) ?_
  refine G_X3_r X hT Z dX3_third_45 ?_
  refine lv_iconst (v := 0) X.1 X.2.1 dX3_third_48 (by decide) ?_
  refine lv_iload X.1 X.2.1 dX3_third_49 (lv_at hl 1 rfl) ?_
  suffices K_84 : ∀ (j84_s0 : Int32) (ls : Array Slot) (H : Heap) (locs : List Loc), j84_s0 = uX3_third_j84_s0 mm a1 j20_s0 → lv_has ls 6 [(5, .int (rX3_has a1 64)), (4, .int (rX3_has a1 16)), (3, .int (mm 1 3)), (2, .int j20_s0), (0, .ref (q 0)), (1, .int a1)] → ZZ D cI (mw q cI g mm) A s H locs → W p l e ({ frames := 1, cells := 0, slots := 0, locals := 21 } : Room) s m args below meth c H locs 0 0 Q (F0 m 84 ls [.int j84_s0, .int 0, .ref (q 2)]) by
    refine lv_if_eq (tgt := 63) X.1 X.2.1 dX3_third_51 (by decide) (fun c_51 => ?_) (fun c_51 => ?_)
    · refine lv_iload X.1 X.2.1 dX3_third_63 (lv_at hl 1 rfl) ?_
      refine lv_if_eq (tgt := 72) X.1 X.2.1 dX3_third_65 (by decide) (fun c_65 => ?_) (fun c_65 => ?_)
      · refine lv_iload X.1 X.2.1 dX3_third_72 (lv_at hl 0 rfl) ?_
        refine lv_if_eq (tgt := 83) X.1 X.2.1 dX3_third_74 (by decide) (fun c_74 => ?_) (fun c_74 => ?_)
        · refine lv_iload_n X.1 X.2.1 dX3_third_83 rfl (lv_at hl 3 rfl) ?_
          exact K_84 j20_s0 _ _ _ ((if_pos c_51).trans ((if_pos c_65).trans (if_pos c_74))).symm (lv_sub hl [0, 1, 2, 3, 4, 5] rfl) Z
        · refine lv_iload_n X.1 X.2.1 dX3_third_77 rfl (lv_at hl 3 rfl) ?_
          refine lv_iload_n X.1 X.2.1 dX3_third_78 rfl (lv_at hl 2 rfl) ?_
          refine lv_ior X.1 X.2.1 dX3_third_79 ?_
          refine lv_goto (tgt := 84) X.1 X.2.1 dX3_third_80 (by decide) ?_
          exact K_84 (j20_s0 ||| (mm 1 3)) _ _ _ ((if_pos c_51).trans ((if_pos c_65).trans (if_neg c_74))).symm (lv_sub hl [0, 1, 2, 3, 4, 5] rfl) Z
      · refine lv_iconst (v := 0) X.1 X.2.1 dX3_third_68 (by decide) ?_
        refine lv_goto (tgt := 84) X.1 X.2.1 dX3_third_69 (by decide) ?_
        exact K_84 0 _ _ _ ((if_pos c_51).trans (if_neg c_65)).symm (lv_sub hl [0, 1, 2, 3, 4, 5] rfl) Z
    · refine lv_iload X.1 X.2.1 dX3_third_54 (lv_at hl 0 rfl) ?_
      refine lv_if_eq (tgt := 63) X.1 X.2.1 dX3_third_56 (by decide) (fun c_56 => ?_) (fun c_56 => ?_)
      · refine lv_iload X.1 X.2.1 dX3_third_63 (lv_at hl 1 rfl) ?_
        refine lv_if_eq (tgt := 72) X.1 X.2.1 dX3_third_65 (by decide) (fun c_65 => ?_) (fun c_65 => ?_)
        · refine lv_iload X.1 X.2.1 dX3_third_72 (lv_at hl 0 rfl) ?_
          refine lv_if_eq (tgt := 83) X.1 X.2.1 dX3_third_74 (by decide) (fun c_74 => ?_) (fun c_74 => ?_)
          · refine lv_iload_n X.1 X.2.1 dX3_third_83 rfl (lv_at hl 3 rfl) ?_
            exact K_84 j20_s0 _ _ _ ((if_neg c_51).trans ((if_pos c_56).trans ((if_pos c_65).trans (if_pos c_74)))).symm (lv_sub hl [0, 1, 2, 3, 4, 5] rfl) Z
          · refine lv_iload_n X.1 X.2.1 dX3_third_77 rfl (lv_at hl 3 rfl) ?_
            refine lv_iload_n X.1 X.2.1 dX3_third_78 rfl (lv_at hl 2 rfl) ?_
            refine lv_ior X.1 X.2.1 dX3_third_79 ?_
            refine lv_goto (tgt := 84) X.1 X.2.1 dX3_third_80 (by decide) ?_
            exact K_84 (j20_s0 ||| (mm 1 3)) _ _ _ ((if_neg c_51).trans ((if_pos c_56).trans ((if_pos c_65).trans (if_neg c_74)))).symm (lv_sub hl [0, 1, 2, 3, 4, 5] rfl) Z
        · refine lv_iconst (v := 0) X.1 X.2.1 dX3_third_68 (by decide) ?_
          refine lv_goto (tgt := 84) X.1 X.2.1 dX3_third_69 (by decide) ?_
          exact K_84 0 _ _ _ ((if_neg c_51).trans ((if_pos c_56).trans (if_neg c_65))).symm (lv_sub hl [0, 1, 2, 3, 4, 5] rfl) Z
      · refine lv_iload_n X.1 X.2.1 dX3_third_59 rfl (lv_at hl 2 rfl) ?_
        refine lv_goto (tgt := 84) X.1 X.2.1 dX3_third_60 (by decide) ?_
        exact K_84 (mm 1 3) _ _ _ ((if_neg c_51).trans (if_neg c_56)).symm (lv_sub hl [0, 1, 2, 3, 4, 5] rfl) Z
  intro j84_s0 ls H locs e_j84_s0 hl Z
  refine S_X3_r (j := 0) X Z (vin_c (by decide)) (by decide) dX3_third_84 (fun H locs Z => ?_)
  refine lv_aload_n X.1 X.2.1 dX3_third_85 rfl (lv_at hl 4 rfl) ?_
  refine G_X3_r X hT Z dX3_third_86 ?_
  refine lv_iconst (v := 3) X.1 X.2.1 dX3_third_89 (by decide) ?_
  refine lv_iload X.1 X.2.1 dX3_third_90 (lv_at hl 1 rfl) ?_
  suffices K_100 : ∀ (j100_s0 : Int32) (ls : Array Slot) (H : Heap) (locs : List Loc), j100_s0 = uX3_third_j100_s0 mm a1 j20_s0 → lv_has ls 6 [(5, .int (rX3_has a1 64)), (4, .int (rX3_has a1 16)), (3, .int (mm 1 3)), (2, .int j20_s0), (0, .ref (q 0)), (1, .int a1)] → ZZ D cI (mw q cI g (va_up mm 1 (upd (mm 1) 0 j84_s0))) A s H locs → W p l e ({ frames := 1, cells := 0, slots := 0, locals := 21 } : Room) s m args below meth c H locs 0 0 Q (F0 m 100 ls [.int j100_s0, .int 3, .ref (q 2)]) by
    refine lv_if_eq (tgt := 99) X.1 X.2.1 dX3_third_92 (by decide) (fun c_92 => ?_) (fun c_92 => ?_)
    · refine lv_iload_n X.1 X.2.1 dX3_third_99 rfl (lv_at hl 2 rfl) ?_
      exact K_100 (mm 1 3) _ _ _ (if_pos c_92).symm (lv_sub hl [0, 1, 2, 3, 4, 5] rfl) Z
    · refine lv_iload_n X.1 X.2.1 dX3_third_95 rfl (lv_at hl 3 rfl) ?_
      refine lv_goto (tgt := 100) X.1 X.2.1 dX3_third_96 (by decide) ?_
      exact K_100 j20_s0 _ _ _ (if_neg c_92).symm (lv_sub hl [0, 1, 2, 3, 4, 5] rfl) Z
  intro j100_s0 ls H locs e_j100_s0 hl Z
  refine S_X3_r (j := 3) X Z (vin_c (by decide)) (by decide) dX3_third_100 (fun H locs Z => ?_)
  exact hret _ _ _ _ _ Z (mw_eq rfl (by subst e_j20_s0 e_j84_s0 e_j100_s0; exact rfl)) dX3_third_101
def gX3_feed (g : Nat → Int32) (mm : Nat → Nat → Int32) (a1 : Int32) : Nat → Int32 := if a1 < (0 : Int32) then (g) else (if (255 : Int32) < a1 then (g) else (if (g 0) = 400 then (g) else ((upd g 0 ((g 0) + 1)))))
def mX3_feed (g : Nat → Int32) (mm : Nat → Nat → Int32) (a1 : Int32) : Nat → Nat → Int32 := if a1 < (0 : Int32) then (mm) else (if (255 : Int32) < a1 then (mm) else (if (g 0) = 400 then (mm) else ((va_up mm 2 (upd (mm 2) ((g 0).toNatClampNeg) a1)))))
def rX3_feed (g : Nat → Int32) (mm : Nat → Nat → Int32) (a1 : Int32) : Int32 := if a1 < (0 : Int32) then (0) else (if (255 : Int32) < a1 then (0) else (if (g 0) = 400 then (0) else (1)))
set_option maxRecDepth 20000 in
set_option maxHeartbeats 4000000 in
theorem c_X3_feed (l : Launch) (D : va_G) (cI : ClassId) (q : Nat → Nat) (g : Nat → Int32) (mm : Nat → Nat → Int32) (a1 : Int32) (hf : ¬ g 0 = 400 → vp_in (g 0) 400) : MI l D cI yX3_feed (.code yX3_feed cX3_feed 2 (some .boolean)) ({ frames := 0, cells := 0, slots := 0, locals := 0 } : Room) [.ref (q 0), .int a1] (mw q cI g mm) (mw q cI (gX3_feed g mm a1) (mX3_feed g mm a1)) (some (.int (rX3_feed g mm a1))) := by
  refine MI.ofZ (own := RX3) (by decide) rfl (Nat.le_of_ble_eq_true rfl) ?_
  intro p e s m args below meth c A ls Q X Z hl hret
  have hT : ∀ w ∈ TB, w ∈ (Cond.code yX3_feed cX3_feed 2 (some .boolean) :: TB) := fun _ h => List.mem_cons_of_mem _ h
  have hl : lv_has ls 2 [(0, .ref (q 0)), (1, .int a1)] := hl
  refine lv_iload_n X.1 X.2.1 dX3_feed_0 rfl (lv_at hl 1 rfl) ?_
  refine lv_if_lt (tgt := 21) X.1 X.2.1 dX3_feed_1 (by decide) (fun c_1 => ?_) (fun c_1 => ?_)
  · refine lv_iconst (v := 0) X.1 X.2.1 dX3_feed_21 (by decide) ?_
    exact hret _ _ _ _ _ _ Z (mw_eq (if_pos c_1).symm (if_pos c_1).symm) (if_pos c_1).symm rfl dX3_feed_22
  · refine lv_iload_n X.1 X.2.1 dX3_feed_4 rfl (lv_at hl 1 rfl) ?_
    refine lv_sipush (v := 255) X.1 X.2.1 dX3_feed_5 (by decide) ?_
    refine lv_icmp_gt (tgt := 21) X.1 X.2.1 dX3_feed_8 (by decide) (fun c_8 => ?_) (fun c_8 => ?_)
    · refine lv_iconst (v := 0) X.1 X.2.1 dX3_feed_21 (by decide) ?_
      exact hret _ _ _ _ _ _ Z (mw_eq ((if_neg c_1).trans (if_pos c_8)).symm ((if_neg c_1).trans (if_pos c_8)).symm) ((if_neg c_1).trans (if_pos c_8)).symm rfl dX3_feed_22
    · refine lv_aload_n X.1 X.2.1 dX3_feed_11 rfl (lv_at hl 0 rfl) ?_
      refine G_X3_fed X hT Z dX3_feed_12 ?_
      refine lv_sipush (v := 400) X.1 X.2.1 dX3_feed_15 (by decide) ?_
      refine lv_icmp_ne (tgt := 23) X.1 X.2.1 dX3_feed_18 (by decide) (fun c_18 => ?_) (fun c_18 => ?_)
      · refine lv_aload_n X.1 X.2.1 dX3_feed_23 rfl (lv_at hl 0 rfl) ?_
        refine G_X3_tape X hT Z dX3_feed_24 ?_
        refine lv_aload_n X.1 X.2.1 dX3_feed_27 rfl (lv_at hl 0 rfl) ?_
        refine G_X3_fed X hT Z dX3_feed_28 ?_
        refine lv_iload_n X.1 X.2.1 dX3_feed_31 rfl (lv_at hl 1 rfl) ?_
        refine S_X3_tape (j := (g 0).toNatClampNeg) X Z (hf c_18) rfl dX3_feed_32 (fun H locs Z => ?_)
        refine lv_aload_n X.1 X.2.1 dX3_feed_33 rfl (lv_at hl 0 rfl) ?_
        refine lv_dup X.1 X.2.1 dX3_feed_34 rfl ?_
        refine G_X3_fed X hT Z dX3_feed_35 ?_
        refine lv_iconst (v := 1) X.1 X.2.1 dX3_feed_38 (by decide) ?_
        refine lv_iadd X.1 X.2.1 dX3_feed_39 ?_
        refine P_X3_fed X hT Z dX3_feed_40 (fun H locs Z => ?_)
        refine lv_iconst (v := 1) X.1 X.2.1 dX3_feed_43 (by decide) ?_
        exact hret _ _ _ _ _ _ Z (mw_eq ((if_neg c_1).trans ((if_neg c_8).trans (if_neg c_18))).symm ((if_neg c_1).trans ((if_neg c_8).trans (if_neg c_18))).symm) ((if_neg c_1).trans ((if_neg c_8).trans (if_neg c_18))).symm rfl dX3_feed_44
      · refine lv_iconst (v := 0) X.1 X.2.1 dX3_feed_21 (by decide) ?_
        exact hret _ _ _ _ _ _ Z (mw_eq ((if_neg c_1).trans ((if_neg c_8).trans (if_pos c_18))).symm ((if_neg c_1).trans ((if_neg c_8).trans (if_pos c_18))).symm) ((if_neg c_1).trans ((if_neg c_8).trans (if_pos c_18))).symm rfl dX3_feed_22
def rX3_waiting (g : Nat → Int32) (mm : Nat → Nat → Int32)  : Int32 := ((g 0) - (g 1))
set_option maxRecDepth 20000 in
set_option maxHeartbeats 4000000 in
theorem c_X3_waiting (l : Launch) (D : va_G) (cI : ClassId) (q : Nat → Nat) (g : Nat → Int32) (mm : Nat → Nat → Int32)   : MI l D cI yX3_waiting (.code yX3_waiting cX3_waiting 1 (some .int)) ({ frames := 0, cells := 0, slots := 0, locals := 0 } : Room) [.ref (q 0)] (mw q cI g mm) (mw q cI g mm) (some (.int (rX3_waiting g mm))) := by
  refine MI.ofI (own := RX3) (by decide) rfl (Nat.le_of_ble_eq_true rfl) ?_
  intro p e s m args below meth c A ls Q X Z hl hret
  have hT : ∀ w ∈ TB, w ∈ (Cond.code yX3_waiting cX3_waiting 1 (some .int) :: TB) := fun _ h => List.mem_cons_of_mem _ h
  have hl : lv_has ls 1 [(0, .ref (q 0))] := hl
  refine lv_aload_n X.1 X.2.1 dX3_waiting_0 rfl (lv_at hl 0 rfl) ?_
  refine G_X3_fed X hT Z dX3_waiting_1 ?_
  refine lv_aload_n X.1 X.2.1 dX3_waiting_4 rfl (lv_at hl 0 rfl) ?_
  refine G_X3_read X hT Z dX3_waiting_5 ?_
  refine lv_isub X.1 X.2.1 dX3_waiting_8 ?_
  exact hret _ _ _ _ _ _ Z (mw_eq rfl rfl) rfl dX3_waiting_9
def mX3_poke (g : Nat → Int32) (mm : Nat → Nat → Int32) (a1 : Int32) (a2 : Int32) : Nat → Nat → Int32 := if a1 < (0 : Int32) then (mm) else (if a1 ≤ (4095 : Int32) then ((va_up mm 0 (upd (mm 0) a1.toNatClampNeg (a2 &&& 4095)))) else (mm))
def rX3_poke (g : Nat → Int32) (mm : Nat → Nat → Int32) (a1 : Int32) (a2 : Int32) : Int32 := if a1 < (0 : Int32) then ((-1)) else (if a1 ≤ (4095 : Int32) then ((mm 0 a1.toNatClampNeg)) else ((-1)))
set_option maxRecDepth 20000 in
set_option maxHeartbeats 4000000 in
theorem c_X3_poke (l : Launch) (D : va_G) (cI : ClassId) (q : Nat → Nat) (g : Nat → Int32) (mm : Nat → Nat → Int32) (a1 : Int32) (a2 : Int32)  : MI l D cI yX3_poke (.code yX3_poke cX3_poke 4 (some .int)) ({ frames := 0, cells := 0, slots := 0, locals := 0 } : Room) [.ref (q 0), .int a1, .int a2] (mw q cI g mm) (mw q cI g (mX3_poke g mm a1 a2)) (some (.int (rX3_poke g mm a1 a2))) := by
  refine MI.ofI (own := RX3) (by decide) rfl (Nat.le_of_ble_eq_true rfl) ?_
  intro p e s m args below meth c A ls Q X Z hl hret
  have hT : ∀ w ∈ TB, w ∈ (Cond.code yX3_poke cX3_poke 4 (some .int) :: TB) := fun _ h => List.mem_cons_of_mem _ h
  have hl : lv_has ls 4 [(0, .ref (q 0)), (1, .int a1), (2, .int a2)] := hl
  refine lv_iload_n X.1 X.2.1 dX3_poke_0 rfl (lv_at hl 1 rfl) ?_
  refine lv_if_lt (tgt := 11) X.1 X.2.1 dX3_poke_1 (by decide) (fun c_1 => ?_) (fun c_1 => ?_)
  · refine lv_iconst (v := (-1)) X.1 X.2.1 dX3_poke_11 (by decide) ?_
    exact hret _ _ _ _ _ _ Z (mw_eq rfl (if_pos c_1).symm) (if_pos c_1).symm dX3_poke_12
  · refine lv_iload_n X.1 X.2.1 dX3_poke_4 rfl (lv_at hl 1 rfl) ?_
    refine lv_sipush (v := 4095) X.1 X.2.1 dX3_poke_5 (by decide) ?_
    refine lv_icmp_le (tgt := 13) X.1 X.2.1 dX3_poke_8 (by decide) (fun c_8 => ?_) (fun c_8 => ?_)
    · refine lv_aload_n X.1 X.2.1 dX3_poke_13 rfl (lv_at hl 0 rfl) ?_
      refine G_X3_core X hT Z dX3_poke_14 ?_
      refine lv_iload_n X.1 X.2.1 dX3_poke_17 rfl (lv_at hl 1 rfl) ?_
      refine L_X3_core (j := a1.toNatClampNeg) X Z (vin_of c_1 c_8 (by decide)) rfl dX3_poke_18 ?_
      refine lv_istore_n (lv' := [(3, .int (mm 0 a1.toNatClampNeg)), (0, .ref (q 0)), (1, .int a1), (2, .int a2)]) X.1 X.2.1 dX3_poke_19 rfl hl (by decide) rfl (fun ls hl => ?_)
      refine lv_aload_n X.1 X.2.1 dX3_poke_20 rfl (lv_at hl 1 rfl) ?_
      refine G_X3_core X hT Z dX3_poke_21 ?_
      refine lv_iload_n X.1 X.2.1 dX3_poke_24 rfl (lv_at hl 2 rfl) ?_
      refine lv_iload_n X.1 X.2.1 dX3_poke_25 rfl (lv_at hl 3 rfl) ?_
      refine lv_sipush (v := 4095) X.1 X.2.1 dX3_poke_26 (by decide) ?_
      refine lv_iand X.1 X.2.1 dX3_poke_29 ?_
      refine S_X3_core (j := a1.toNatClampNeg) X Z (vin_of c_1 c_8 (by decide)) rfl dX3_poke_30 (fun H locs Z => ?_)
      refine lv_iload_n X.1 X.2.1 dX3_poke_31 rfl (lv_at hl 0 rfl) ?_
      exact hret _ _ _ _ _ _ Z (mw_eq rfl ((if_neg c_1).trans (if_pos c_8)).symm) ((if_neg c_1).trans (if_pos c_8)).symm dX3_poke_32
    · refine lv_iconst (v := (-1)) X.1 X.2.1 dX3_poke_11 (by decide) ?_
      exact hret _ _ _ _ _ _ Z (mw_eq rfl ((if_neg c_1).trans (if_neg c_8)).symm) ((if_neg c_1).trans (if_neg c_8)).symm dX3_poke_12
def uX3_peek_j21_s0 (mm : Nat → Nat → Int32) (a1 : Int32) : Int32 := if a1 < (0 : Int32) then ((-1)) else (if a1 ≤ (4095 : Int32) then ((mm 0 a1.toNatClampNeg)) else ((-1)))
def rX3_peek (g : Nat → Int32) (mm : Nat → Nat → Int32) (a1 : Int32) : Int32 := let j21_s0 : Int32 := uX3_peek_j21_s0 mm a1; j21_s0
set_option maxRecDepth 20000 in
set_option maxHeartbeats 4000000 in
theorem c_X3_peek (l : Launch) (D : va_G) (cI : ClassId) (q : Nat → Nat) (g : Nat → Int32) (mm : Nat → Nat → Int32) (a1 : Int32)  : MI l D cI yX3_peek (.code yX3_peek cX3_peek 2 (some .int)) ({ frames := 0, cells := 0, slots := 0, locals := 0 } : Room) [.ref (q 0), .int a1] (mw q cI g mm) (mw q cI g mm) (some (.int (rX3_peek g mm a1))) := by
  refine MI.ofI (own := RX3) (by decide) rfl (Nat.le_of_ble_eq_true rfl) ?_
  intro p e s m args below meth c A ls Q X Z hl hret
  have hT : ∀ w ∈ TB, w ∈ (Cond.code yX3_peek cX3_peek 2 (some .int) :: TB) := fun _ h => List.mem_cons_of_mem _ h
  have hl : lv_has ls 2 [(0, .ref (q 0)), (1, .int a1)] := hl
  refine lv_iload_n X.1 X.2.1 dX3_peek_0 rfl (lv_at hl 1 rfl) ?_
  suffices K_21 : ∀ (j21_s0 : Int32) (ls : Array Slot) (H : Heap) (locs : List Loc), j21_s0 = uX3_peek_j21_s0 mm a1 → lv_has ls 2 [(0, .ref (q 0)), (1, .int a1)] → ZZ D cI (mw q cI g mm) A s H locs → W p l e ({ frames := 0, cells := 0, slots := 0, locals := 0 } : Room) s m args below meth c H locs 0 0 Q (F0 m 21 ls [.int j21_s0]) by
    refine lv_if_lt (tgt := 11) X.1 X.2.1 dX3_peek_1 (by decide) (fun c_1 => ?_) (fun c_1 => ?_)
    · refine lv_iconst (v := (-1)) X.1 X.2.1 dX3_peek_11 (by decide) ?_
      refine lv_goto (tgt := 21) X.1 X.2.1 dX3_peek_12 (by decide) ?_
      exact K_21 (-1) _ _ _ (if_pos c_1).symm (lv_sub hl [0, 1] rfl) Z
    · refine lv_iload_n X.1 X.2.1 dX3_peek_4 rfl (lv_at hl 1 rfl) ?_
      refine lv_sipush (v := 4095) X.1 X.2.1 dX3_peek_5 (by decide) ?_
      refine lv_icmp_le (tgt := 15) X.1 X.2.1 dX3_peek_8 (by decide) (fun c_8 => ?_) (fun c_8 => ?_)
      · refine lv_aload_n X.1 X.2.1 dX3_peek_15 rfl (lv_at hl 0 rfl) ?_
        refine G_X3_core X hT Z dX3_peek_16 ?_
        refine lv_iload_n X.1 X.2.1 dX3_peek_19 rfl (lv_at hl 1 rfl) ?_
        refine L_X3_core (j := a1.toNatClampNeg) X Z (vin_of c_1 c_8 (by decide)) rfl dX3_peek_20 ?_
        exact K_21 (mm 0 a1.toNatClampNeg) _ _ _ ((if_neg c_1).trans (if_pos c_8)).symm (lv_sub hl [0, 1] rfl) Z
      · refine lv_iconst (v := (-1)) X.1 X.2.1 dX3_peek_11 (by decide) ?_
        refine lv_goto (tgt := 21) X.1 X.2.1 dX3_peek_12 (by decide) ?_
        exact K_21 (-1) _ _ _ ((if_neg c_1).trans (if_neg c_8)).symm (lv_sub hl [0, 1] rfl) Z
  intro j21_s0 ls H locs e_j21_s0 hl Z
  exact hret _ _ _ _ _ _ Z (mw_eq rfl rfl) (by subst e_j21_s0; exact rfl) dX3_peek_21
def uX3_set_j32_s0 (a1 : Int32) (a2 : Int32) : Int32 := if a1 = 1 then ((a2 &&& 1)) else ((a2 &&& 4095))
def mX3_set (g : Nat → Int32) (mm : Nat → Nat → Int32) (a1 : Int32) (a2 : Int32) : Nat → Nat → Int32 := if a1 < (0 : Int32) then (mm) else (if a1 ≤ (4 : Int32) then (let j32_s0 : Int32 := uX3_set_j32_s0 a1 a2; (va_up mm 1 (upd (mm 1) a1.toNatClampNeg j32_s0))) else (mm))
def rX3_set (g : Nat → Int32) (mm : Nat → Nat → Int32) (a1 : Int32) (a2 : Int32) : Int32 := if a1 < (0 : Int32) then (0) else (if a1 ≤ (4 : Int32) then (1) else (0))
set_option maxRecDepth 20000 in
set_option maxHeartbeats 4000000 in
theorem c_X3_set (l : Launch) (D : va_G) (cI : ClassId) (q : Nat → Nat) (g : Nat → Int32) (mm : Nat → Nat → Int32) (a1 : Int32) (a2 : Int32)  : MI l D cI yX3_set (.code yX3_set cX3_set 3 (some .boolean)) ({ frames := 0, cells := 0, slots := 0, locals := 0 } : Room) [.ref (q 0), .int a1, .int a2] (mw q cI g mm) (mw q cI g (mX3_set g mm a1 a2)) (some (.int (rX3_set g mm a1 a2))) := by
  refine MI.ofZ (own := RX3) (by decide) rfl (Nat.le_of_ble_eq_true rfl) ?_
  intro p e s m args below meth c A ls Q X Z hl hret
  have hT : ∀ w ∈ TB, w ∈ (Cond.code yX3_set cX3_set 3 (some .boolean) :: TB) := fun _ h => List.mem_cons_of_mem _ h
  have hl : lv_has ls 3 [(0, .ref (q 0)), (1, .int a1), (2, .int a2)] := hl
  refine lv_iload_n X.1 X.2.1 dX3_set_0 rfl (lv_at hl 1 rfl) ?_
  refine lv_if_lt (tgt := 9) X.1 X.2.1 dX3_set_1 (by decide) (fun c_1 => ?_) (fun c_1 => ?_)
  · refine lv_iconst (v := 0) X.1 X.2.1 dX3_set_9 (by decide) ?_
    exact hret _ _ _ _ _ _ Z (mw_eq rfl (if_pos c_1).symm) (if_pos c_1).symm rfl dX3_set_10
  · refine lv_iload_n X.1 X.2.1 dX3_set_4 rfl (lv_at hl 1 rfl) ?_
    refine lv_iconst (v := 4) X.1 X.2.1 dX3_set_5 (by decide) ?_
    refine lv_icmp_le (tgt := 11) X.1 X.2.1 dX3_set_6 (by decide) (fun c_6 => ?_) (fun c_6 => ?_)
    · refine lv_aload_n X.1 X.2.1 dX3_set_11 rfl (lv_at hl 0 rfl) ?_
      refine G_X3_r X hT Z dX3_set_12 ?_
      refine lv_iload_n X.1 X.2.1 dX3_set_15 rfl (lv_at hl 1 rfl) ?_
      refine lv_iload_n X.1 X.2.1 dX3_set_16 rfl (lv_at hl 1 rfl) ?_
      refine lv_iconst (v := 1) X.1 X.2.1 dX3_set_17 (by decide) ?_
      suffices K_32 : ∀ (j32_s0 : Int32) (ls : Array Slot) (H : Heap) (locs : List Loc), j32_s0 = uX3_set_j32_s0 a1 a2 → lv_has ls 3 [(0, .ref (q 0)), (1, .int a1), (2, .int a2)] → ZZ D cI (mw q cI g mm) A s H locs → W p l e ({ frames := 0, cells := 0, slots := 0, locals := 0 } : Room) s m args below meth c H locs 0 0 Q (F0 m 32 ls [.int j32_s0, .int a1, .ref (q 2)]) by
        refine lv_icmp_ne (tgt := 27) X.1 X.2.1 dX3_set_18 (by decide) (fun c_18 => ?_) (fun c_18 => ?_)
        · refine lv_iload_n X.1 X.2.1 dX3_set_27 rfl (lv_at hl 2 rfl) ?_
          refine lv_sipush (v := 4095) X.1 X.2.1 dX3_set_28 (by decide) ?_
          refine lv_iand X.1 X.2.1 dX3_set_31 ?_
          exact K_32 (a2 &&& 4095) _ _ _ (if_neg c_18).symm (lv_sub hl [0, 1, 2] rfl) Z
        · refine lv_iload_n X.1 X.2.1 dX3_set_21 rfl (lv_at hl 2 rfl) ?_
          refine lv_iconst (v := 1) X.1 X.2.1 dX3_set_22 (by decide) ?_
          refine lv_iand X.1 X.2.1 dX3_set_23 ?_
          refine lv_goto (tgt := 32) X.1 X.2.1 dX3_set_24 (by decide) ?_
          exact K_32 (a2 &&& 1) _ _ _ (if_pos c_18).symm (lv_sub hl [0, 1, 2] rfl) Z
      intro j32_s0 ls H locs e_j32_s0 hl Z
      refine S_X3_r (j := a1.toNatClampNeg) X Z (vin_of c_1 c_6 (by decide)) rfl dX3_set_32 (fun H locs Z => ?_)
      refine lv_iconst (v := 1) X.1 X.2.1 dX3_set_33 (by decide) ?_
      exact hret _ _ _ _ _ _ Z (mw_eq rfl (by subst e_j32_s0; exact ((if_neg c_1).trans (if_pos c_6)).symm)) (by subst e_j32_s0; exact ((if_neg c_1).trans (if_pos c_6)).symm) rfl dX3_set_34
    · refine lv_iconst (v := 0) X.1 X.2.1 dX3_set_9 (by decide) ?_
      exact hret _ _ _ _ _ _ Z (mw_eq rfl ((if_neg c_1).trans (if_neg c_6)).symm) ((if_neg c_1).trans (if_neg c_6)).symm rfl dX3_set_10
def uX3_register_j20_s0 (mm : Nat → Nat → Int32) (a1 : Int32) : Int32 := if a1 < (0 : Int32) then ((-1)) else (if a1 ≤ (10 : Int32) then ((mm 1 a1.toNatClampNeg)) else ((-1)))
def rX3_register (g : Nat → Int32) (mm : Nat → Nat → Int32) (a1 : Int32) : Int32 := let j20_s0 : Int32 := uX3_register_j20_s0 mm a1; j20_s0
set_option maxRecDepth 20000 in
set_option maxHeartbeats 4000000 in
theorem c_X3_register (l : Launch) (D : va_G) (cI : ClassId) (q : Nat → Nat) (g : Nat → Int32) (mm : Nat → Nat → Int32) (a1 : Int32)  : MI l D cI yX3_register (.code yX3_register cX3_register 2 (some .int)) ({ frames := 0, cells := 0, slots := 0, locals := 0 } : Room) [.ref (q 0), .int a1] (mw q cI g mm) (mw q cI g mm) (some (.int (rX3_register g mm a1))) := by
  refine MI.ofI (own := RX3) (by decide) rfl (Nat.le_of_ble_eq_true rfl) ?_
  intro p e s m args below meth c A ls Q X Z hl hret
  have hT : ∀ w ∈ TB, w ∈ (Cond.code yX3_register cX3_register 2 (some .int) :: TB) := fun _ h => List.mem_cons_of_mem _ h
  have hl : lv_has ls 2 [(0, .ref (q 0)), (1, .int a1)] := hl
  refine lv_iload_n X.1 X.2.1 dX3_register_0 rfl (lv_at hl 1 rfl) ?_
  suffices K_20 : ∀ (j20_s0 : Int32) (ls : Array Slot) (H : Heap) (locs : List Loc), j20_s0 = uX3_register_j20_s0 mm a1 → lv_has ls 2 [(0, .ref (q 0)), (1, .int a1)] → ZZ D cI (mw q cI g mm) A s H locs → W p l e ({ frames := 0, cells := 0, slots := 0, locals := 0 } : Room) s m args below meth c H locs 0 0 Q (F0 m 20 ls [.int j20_s0]) by
    refine lv_if_lt (tgt := 10) X.1 X.2.1 dX3_register_1 (by decide) (fun c_1 => ?_) (fun c_1 => ?_)
    · refine lv_iconst (v := (-1)) X.1 X.2.1 dX3_register_10 (by decide) ?_
      refine lv_goto (tgt := 20) X.1 X.2.1 dX3_register_11 (by decide) ?_
      exact K_20 (-1) _ _ _ (if_pos c_1).symm (lv_sub hl [0, 1] rfl) Z
    · refine lv_iload_n X.1 X.2.1 dX3_register_4 rfl (lv_at hl 1 rfl) ?_
      refine lv_bipush (v := 10) X.1 X.2.1 dX3_register_5 (by decide) ?_
      refine lv_icmp_le (tgt := 14) X.1 X.2.1 dX3_register_7 (by decide) (fun c_7 => ?_) (fun c_7 => ?_)
      · refine lv_aload_n X.1 X.2.1 dX3_register_14 rfl (lv_at hl 0 rfl) ?_
        refine G_X3_r X hT Z dX3_register_15 ?_
        refine lv_iload_n X.1 X.2.1 dX3_register_18 rfl (lv_at hl 1 rfl) ?_
        refine L_X3_r (j := a1.toNatClampNeg) X Z (vin_of c_1 c_7 (by decide)) rfl dX3_register_19 ?_
        exact K_20 (mm 1 a1.toNatClampNeg) _ _ _ ((if_neg c_1).trans (if_pos c_7)).symm (lv_sub hl [0, 1] rfl) Z
      · refine lv_iconst (v := (-1)) X.1 X.2.1 dX3_register_10 (by decide) ?_
        refine lv_goto (tgt := 20) X.1 X.2.1 dX3_register_11 (by decide) ?_
        exact K_20 (-1) _ _ _ ((if_neg c_1).trans (if_neg c_7)).symm (lv_sub hl [0, 1] rfl) Z
  intro j20_s0 ls H locs e_j20_s0 hl Z
  exact hret _ _ _ _ _ _ Z (mw_eq rfl rfl) (by subst e_j20_s0; exact rfl) dX3_register_20
def uX3_go_j16_s0 (mm : Nat → Nat → Int32) : Int32 := if (mm 1 10) = 1 then (1) else (0)
def mX3_go (g : Nat → Int32) (mm : Nat → Nat → Int32)  : Nat → Nat → Int32 := (va_up mm 1 (upd (mm 1) 10 0))
def rX3_go (g : Nat → Int32) (mm : Nat → Nat → Int32)  : Int32 := let j16_s0 : Int32 := uX3_go_j16_s0 mm; j16_s0
set_option maxRecDepth 20000 in
set_option maxHeartbeats 4000000 in
theorem c_X3_go (l : Launch) (D : va_G) (cI : ClassId) (q : Nat → Nat) (g : Nat → Int32) (mm : Nat → Nat → Int32)   : MI l D cI yX3_go (.code yX3_go cX3_go 2 (some .boolean)) ({ frames := 0, cells := 0, slots := 0, locals := 0 } : Room) [.ref (q 0)] (mw q cI g mm) (mw q cI g (mX3_go g mm)) (some (.int (rX3_go g mm))) := by
  refine MI.ofZ (own := RX3) (by decide) rfl (Nat.le_of_ble_eq_true rfl) ?_
  intro p e s m args below meth c A ls Q X Z hl hret
  have hT : ∀ w ∈ TB, w ∈ (Cond.code yX3_go cX3_go 2 (some .boolean) :: TB) := fun _ h => List.mem_cons_of_mem _ h
  have hl : lv_has ls 2 [(0, .ref (q 0))] := hl
  refine lv_aload_n X.1 X.2.1 dX3_go_0 rfl (lv_at hl 0 rfl) ?_
  refine G_X3_r X hT Z dX3_go_1 ?_
  refine lv_bipush (v := 10) X.1 X.2.1 dX3_go_4 (by decide) ?_
  refine L_X3_r (j := 10) X Z (vin_c (by decide)) (by decide) dX3_go_6 ?_
  refine lv_iconst (v := 1) X.1 X.2.1 dX3_go_7 (by decide) ?_
  suffices K_16 : ∀ (j16_s0 : Int32) (ls : Array Slot) (H : Heap) (locs : List Loc), j16_s0 = uX3_go_j16_s0 mm → lv_has ls 2 [(0, .ref (q 0))] → ZZ D cI (mw q cI g mm) A s H locs → W p l e ({ frames := 0, cells := 0, slots := 0, locals := 0 } : Room) s m args below meth c H locs 0 0 Q (F0 m 16 ls [.int j16_s0]) by
    refine lv_icmp_ne (tgt := 15) X.1 X.2.1 dX3_go_8 (by decide) (fun c_8 => ?_) (fun c_8 => ?_)
    · refine lv_iconst (v := 0) X.1 X.2.1 dX3_go_15 (by decide) ?_
      exact K_16 0 _ _ _ (if_neg c_8).symm (lv_sub hl [0] rfl) Z
    · refine lv_iconst (v := 1) X.1 X.2.1 dX3_go_11 (by decide) ?_
      refine lv_goto (tgt := 16) X.1 X.2.1 dX3_go_12 (by decide) ?_
      exact K_16 1 _ _ _ (if_pos c_8).symm (lv_sub hl [0] rfl) Z
  intro j16_s0 ls H locs e_j16_s0 hl Z
  refine lv_istore_n (lv' := [(1, .int j16_s0), (0, .ref (q 0))]) X.1 X.2.1 dX3_go_16 rfl hl (by decide) rfl (fun ls hl => ?_)
  refine lv_aload_n X.1 X.2.1 dX3_go_17 rfl (lv_at hl 1 rfl) ?_
  refine G_X3_r X hT Z dX3_go_18 ?_
  refine lv_bipush (v := 10) X.1 X.2.1 dX3_go_21 (by decide) ?_
  refine lv_iconst (v := 0) X.1 X.2.1 dX3_go_23 (by decide) ?_
  refine S_X3_r (j := 10) X Z (vin_c (by decide)) (by decide) dX3_go_24 (fun H locs Z => ?_)
  refine lv_iload_n X.1 X.2.1 dX3_go_25 rfl (lv_at hl 0 rfl) ?_
  exact hret _ _ _ _ _ _ Z (mw_eq rfl (by subst e_j16_s0; exact rfl)) (by subst e_j16_s0; exact rfl) (by subst_vars; first | exact nb_if | exact nb_if2 | (unfold uX3_go_j16_s0; (repeat' split) <;> rfl)) dX3_go_26
def uX3_printed_j38_s0 (g : Nat → Int32) (mm : Nat → Nat → Int32) (a1 : Int32) : Int32 := if a1 < (0 : Int32) then ((-1)) else (if (63 : Int32) < a1 then ((-1)) else (if a1 < (g 2) then ((mm 3 a1.toNatClampNeg)) else ((-1))))
def rX3_printed (g : Nat → Int32) (mm : Nat → Nat → Int32) (a1 : Int32) : Int32 := if a1 = (-1) then ((g 2)) else (let j38_s0 : Int32 := uX3_printed_j38_s0 g mm a1; j38_s0)
set_option maxRecDepth 20000 in
set_option maxHeartbeats 4000000 in
theorem c_X3_printed (l : Launch) (D : va_G) (cI : ClassId) (q : Nat → Nat) (g : Nat → Int32) (mm : Nat → Nat → Int32) (a1 : Int32)  : MI l D cI yX3_printed (.code yX3_printed cX3_printed 2 (some .int)) ({ frames := 0, cells := 0, slots := 0, locals := 0 } : Room) [.ref (q 0), .int a1] (mw q cI g mm) (mw q cI g mm) (some (.int (rX3_printed g mm a1))) := by
  refine MI.ofI (own := RX3) (by decide) rfl (Nat.le_of_ble_eq_true rfl) ?_
  intro p e s m args below meth c A ls Q X Z hl hret
  have hT : ∀ w ∈ TB, w ∈ (Cond.code yX3_printed cX3_printed 2 (some .int) :: TB) := fun _ h => List.mem_cons_of_mem _ h
  have hl : lv_has ls 2 [(0, .ref (q 0)), (1, .int a1)] := hl
  refine lv_iload_n X.1 X.2.1 dX3_printed_0 rfl (lv_at hl 1 rfl) ?_
  refine lv_iconst (v := (-1)) X.1 X.2.1 dX3_printed_1 (by decide) ?_
  refine lv_icmp_ne (tgt := 10) X.1 X.2.1 dX3_printed_2 (by decide) (fun c_2 => ?_) (fun c_2 => ?_)
  · refine lv_iload_n X.1 X.2.1 dX3_printed_10 rfl (lv_at hl 1 rfl) ?_
    suffices K_38 : ∀ (j38_s0 : Int32) (ls : Array Slot) (H : Heap) (locs : List Loc), j38_s0 = uX3_printed_j38_s0 g mm a1 → lv_has ls 2 [(0, .ref (q 0)), (1, .int a1)] → ZZ D cI (mw q cI g mm) A s H locs → W p l e ({ frames := 0, cells := 0, slots := 0, locals := 0 } : Room) s m args below meth c H locs 0 0 Q (F0 m 38 ls [.int j38_s0]) by
      refine lv_if_lt (tgt := 28) X.1 X.2.1 dX3_printed_11 (by decide) (fun c_11 => ?_) (fun c_11 => ?_)
      · refine lv_iconst (v := (-1)) X.1 X.2.1 dX3_printed_28 (by decide) ?_
        refine lv_goto (tgt := 38) X.1 X.2.1 dX3_printed_29 (by decide) ?_
        exact K_38 (-1) _ _ _ (if_pos c_11).symm (lv_sub hl [0, 1] rfl) Z
      · refine lv_iload_n X.1 X.2.1 dX3_printed_14 rfl (lv_at hl 1 rfl) ?_
        refine lv_bipush (v := 63) X.1 X.2.1 dX3_printed_15 (by decide) ?_
        refine lv_icmp_gt (tgt := 28) X.1 X.2.1 dX3_printed_17 (by decide) (fun c_17 => ?_) (fun c_17 => ?_)
        · refine lv_iconst (v := (-1)) X.1 X.2.1 dX3_printed_28 (by decide) ?_
          refine lv_goto (tgt := 38) X.1 X.2.1 dX3_printed_29 (by decide) ?_
          exact K_38 (-1) _ _ _ ((if_neg c_11).trans (if_pos c_17)).symm (lv_sub hl [0, 1] rfl) Z
        · refine lv_iload_n X.1 X.2.1 dX3_printed_20 rfl (lv_at hl 1 rfl) ?_
          refine lv_aload_n X.1 X.2.1 dX3_printed_21 rfl (lv_at hl 0 rfl) ?_
          refine G_X3_printed X hT Z dX3_printed_22 ?_
          refine lv_icmp_lt (tgt := 32) X.1 X.2.1 dX3_printed_25 (by decide) (fun c_25 => ?_) (fun c_25 => ?_)
          · refine lv_aload_n X.1 X.2.1 dX3_printed_32 rfl (lv_at hl 0 rfl) ?_
            refine G_X3_out X hT Z dX3_printed_33 ?_
            refine lv_iload_n X.1 X.2.1 dX3_printed_36 rfl (lv_at hl 1 rfl) ?_
            refine L_X3_out (j := a1.toNatClampNeg) X Z (vin_nlt c_11 c_17 (by decide)) rfl dX3_printed_37 ?_
            exact K_38 (mm 3 a1.toNatClampNeg) _ _ _ ((if_neg c_11).trans ((if_neg c_17).trans (if_pos c_25))).symm (lv_sub hl [0, 1] rfl) Z
          · refine lv_iconst (v := (-1)) X.1 X.2.1 dX3_printed_28 (by decide) ?_
            refine lv_goto (tgt := 38) X.1 X.2.1 dX3_printed_29 (by decide) ?_
            exact K_38 (-1) _ _ _ ((if_neg c_11).trans ((if_neg c_17).trans (if_neg c_25))).symm (lv_sub hl [0, 1] rfl) Z
    intro j38_s0 ls H locs e_j38_s0 hl Z
    exact hret _ _ _ _ _ _ Z (mw_eq rfl rfl) (by subst e_j38_s0; exact (if_neg c_2).symm) dX3_printed_38
  · refine lv_aload_n X.1 X.2.1 dX3_printed_5 rfl (lv_at hl 0 rfl) ?_
    refine G_X3_printed X hT Z dX3_printed_6 ?_
    exact hret _ _ _ _ _ _ Z (mw_eq rfl rfl) (if_pos c_2).symm dX3_printed_9
def uX3_trace_j28_s0 (g : Nat → Int32) (mm : Nat → Nat → Int32) (a1 : Int32) : Int32 := if a1 < (0 : Int32) then ((-1)) else (if (63 : Int32) < a1 then ((-1)) else (if a1 < (g 3) then ((mm 4 a1.toNatClampNeg)) else ((-1))))
def rX3_trace (g : Nat → Int32) (mm : Nat → Nat → Int32) (a1 : Int32) : Int32 := let j28_s0 : Int32 := uX3_trace_j28_s0 g mm a1; j28_s0
set_option maxRecDepth 20000 in
set_option maxHeartbeats 4000000 in
theorem c_X3_trace (l : Launch) (D : va_G) (cI : ClassId) (q : Nat → Nat) (g : Nat → Int32) (mm : Nat → Nat → Int32) (a1 : Int32)  : MI l D cI yX3_trace (.code yX3_trace cX3_trace 2 (some .int)) ({ frames := 0, cells := 0, slots := 0, locals := 0 } : Room) [.ref (q 0), .int a1] (mw q cI g mm) (mw q cI g mm) (some (.int (rX3_trace g mm a1))) := by
  refine MI.ofI (own := RX3) (by decide) rfl (Nat.le_of_ble_eq_true rfl) ?_
  intro p e s m args below meth c A ls Q X Z hl hret
  have hT : ∀ w ∈ TB, w ∈ (Cond.code yX3_trace cX3_trace 2 (some .int) :: TB) := fun _ h => List.mem_cons_of_mem _ h
  have hl : lv_has ls 2 [(0, .ref (q 0)), (1, .int a1)] := hl
  refine lv_iload_n X.1 X.2.1 dX3_trace_0 rfl (lv_at hl 1 rfl) ?_
  suffices K_28 : ∀ (j28_s0 : Int32) (ls : Array Slot) (H : Heap) (locs : List Loc), j28_s0 = uX3_trace_j28_s0 g mm a1 → lv_has ls 2 [(0, .ref (q 0)), (1, .int a1)] → ZZ D cI (mw q cI g mm) A s H locs → W p l e ({ frames := 0, cells := 0, slots := 0, locals := 0 } : Room) s m args below meth c H locs 0 0 Q (F0 m 28 ls [.int j28_s0]) by
    refine lv_if_lt (tgt := 18) X.1 X.2.1 dX3_trace_1 (by decide) (fun c_1 => ?_) (fun c_1 => ?_)
    · refine lv_iconst (v := (-1)) X.1 X.2.1 dX3_trace_18 (by decide) ?_
      refine lv_goto (tgt := 28) X.1 X.2.1 dX3_trace_19 (by decide) ?_
      exact K_28 (-1) _ _ _ (if_pos c_1).symm (lv_sub hl [0, 1] rfl) Z
    · refine lv_iload_n X.1 X.2.1 dX3_trace_4 rfl (lv_at hl 1 rfl) ?_
      refine lv_bipush (v := 63) X.1 X.2.1 dX3_trace_5 (by decide) ?_
      refine lv_icmp_gt (tgt := 18) X.1 X.2.1 dX3_trace_7 (by decide) (fun c_7 => ?_) (fun c_7 => ?_)
      · refine lv_iconst (v := (-1)) X.1 X.2.1 dX3_trace_18 (by decide) ?_
        refine lv_goto (tgt := 28) X.1 X.2.1 dX3_trace_19 (by decide) ?_
        exact K_28 (-1) _ _ _ ((if_neg c_1).trans (if_pos c_7)).symm (lv_sub hl [0, 1] rfl) Z
      · refine lv_iload_n X.1 X.2.1 dX3_trace_10 rfl (lv_at hl 1 rfl) ?_
        refine lv_aload_n X.1 X.2.1 dX3_trace_11 rfl (lv_at hl 0 rfl) ?_
        refine G_X3_steps X hT Z dX3_trace_12 ?_
        refine lv_icmp_lt (tgt := 22) X.1 X.2.1 dX3_trace_15 (by decide) (fun c_15 => ?_) (fun c_15 => ?_)
        · refine lv_aload_n X.1 X.2.1 dX3_trace_22 rfl (lv_at hl 0 rfl) ?_
          refine G_X3_places X hT Z dX3_trace_23 ?_
          refine lv_iload_n X.1 X.2.1 dX3_trace_26 rfl (lv_at hl 1 rfl) ?_
          refine L_X3_places (j := a1.toNatClampNeg) X Z (vin_nlt c_1 c_7 (by decide)) rfl dX3_trace_27 ?_
          exact K_28 (mm 4 a1.toNatClampNeg) _ _ _ ((if_neg c_1).trans ((if_neg c_7).trans (if_pos c_15))).symm (lv_sub hl [0, 1] rfl) Z
        · refine lv_iconst (v := (-1)) X.1 X.2.1 dX3_trace_18 (by decide) ?_
          refine lv_goto (tgt := 28) X.1 X.2.1 dX3_trace_19 (by decide) ?_
          exact K_28 (-1) _ _ _ ((if_neg c_1).trans ((if_neg c_7).trans (if_neg c_15))).symm (lv_sub hl [0, 1] rfl) Z
  intro j28_s0 ls H locs e_j28_s0 hl Z
  exact hret _ _ _ _ _ _ Z (mw_eq rfl rfl) (by subst e_j28_s0; exact rfl) dX3_trace_28
def rX3_interrupts (g : Nat → Int32) (mm : Nat → Nat → Int32)  : Int32 := (g 4)
set_option maxRecDepth 20000 in
set_option maxHeartbeats 4000000 in
theorem c_X3_interrupts (l : Launch) (D : va_G) (cI : ClassId) (q : Nat → Nat) (g : Nat → Int32) (mm : Nat → Nat → Int32)   : MI l D cI yX3_interrupts (.code yX3_interrupts cX3_interrupts 1 (some .int)) ({ frames := 0, cells := 0, slots := 0, locals := 0 } : Room) [.ref (q 0)] (mw q cI g mm) (mw q cI g mm) (some (.int (rX3_interrupts g mm))) := by
  refine MI.ofI (own := RX3) (by decide) rfl (Nat.le_of_ble_eq_true rfl) ?_
  intro p e s m args below meth c A ls Q X Z hl hret
  have hT : ∀ w ∈ TB, w ∈ (Cond.code yX3_interrupts cX3_interrupts 1 (some .int) :: TB) := fun _ h => List.mem_cons_of_mem _ h
  have hl : lv_has ls 1 [(0, .ref (q 0))] := hl
  refine lv_aload_n X.1 X.2.1 dX3_interrupts_0 rfl (lv_at hl 0 rfl) ?_
  refine G_X3_interrupts X hT Z dX3_interrupts_1 ?_
  exact hret _ _ _ _ _ _ Z (mw_eq rfl rfl) rfl dX3_interrupts_4
def rX3_skips (g : Nat → Int32) (mm : Nat → Nat → Int32)  : Int32 := (g 5)
set_option maxRecDepth 20000 in
set_option maxHeartbeats 4000000 in
theorem c_X3_skips (l : Launch) (D : va_G) (cI : ClassId) (q : Nat → Nat) (g : Nat → Int32) (mm : Nat → Nat → Int32)   : MI l D cI yX3_skips (.code yX3_skips cX3_skips 1 (some .int)) ({ frames := 0, cells := 0, slots := 0, locals := 0 } : Room) [.ref (q 0)] (mw q cI g mm) (mw q cI g mm) (some (.int (rX3_skips g mm))) := by
  refine MI.ofI (own := RX3) (by decide) rfl (Nat.le_of_ble_eq_true rfl) ?_
  intro p e s m args below meth c A ls Q X Z hl hret
  have hT : ∀ w ∈ TB, w ∈ (Cond.code yX3_skips cX3_skips 1 (some .int) :: TB) := fun _ h => List.mem_cons_of_mem _ h
  have hl : lv_has ls 1 [(0, .ref (q 0))] := hl
  refine lv_aload_n X.1 X.2.1 dX3_skips_0 rfl (lv_at hl 0 rfl) ?_
  refine G_X3_skips X hT Z dX3_skips_1 ?_
  exact hret _ _ _ _ _ _ Z (mw_eq rfl rfl) rfl dX3_skips_4
end
section
/-- a row of 64, its places above k pushed on by one -/
def shf (f : Nat → Int32) (k : Nat) : Nat → Int32 := fun j => if k < j ∧ j ≤ 63 then f (j - 1) else f j
theorem shf_63 {mm : Nat → Nat → Int32} {a : Nat} : va_up mm a (shf (mm a) 63) = mm := by
  funext i j
  by_cases h : i = a
  · subst h
    rw [va_up_self]
    unfold shf
    rw [if_neg (by omega)]
  · rw [va_up_ne _ _ h]
theorem shf_st (mm : Nat → Nat → Int32) (a : Nat) {k : Nat} (hk : k < 63) : va_up (va_up mm a (shf (mm a) (k + 1))) a (upd ((va_up mm a (shf (mm a) (k + 1))) a) (k + 1) ((va_up mm a (shf (mm a) (k + 1))) a k)) = va_up mm a (shf (mm a) k) := by
  rw [bx_uu, va_up_self]
  congr 1
  funext j
  unfold upd shf
  by_cases h : j = k + 1
  · subst h
    rw [if_pos rfl, if_neg (by omega), if_pos (by omega)]
    rfl
  · rw [if_neg h]
    by_cases h2 : k + 1 < j ∧ j ≤ 63
    · rw [if_pos h2, if_pos (by omega)]
    · rw [if_neg h2, if_neg (by omega)]
theorem lp_X3_device {p : Program} {l : Launch} {e : Env} {R : Room} {s : State} {m : MethodId} {args : Array Value} {below : List Frame} {meth : Method} {c : Code} {A : Nat → Prop} {Q : State → Prop} {Ts : List Cond} {cells slots : Nat} (X : CallFix p m c cX3_device 4 s args Ts RX3) (hT : ∀ w ∈ TB, w ∈ Ts) (D : va_G) (cI : ClassId) (q : Nat → Nat) (g : Nat → Int32) (mm : Nat → Nat → Int32) (x1 x2 : Int32)
    (K : ∀ (ls : Array Slot) (H : Heap) (locs : List Loc), lv_has ls 4 [(3, .int (nI 0)), (2, .int x2), (1, .int x1), (0, .ref (q 0))] → ZZ D cI (mw q cI g (va_up mm 3 (shf (mm 3) 0))) A s H locs → W p l e R s m args below meth c H locs cells slots Q (F0 m 222 ls [])) :
    ∀ (k : Nat), k ≤ 63 → ∀ (ls : Array Slot) (H : Heap) (locs : List Loc), lv_has ls 4 [(3, .int (nI k)), (2, .int x2), (1, .int x1), (0, .ref (q 0))] → ZZ D cI (mw q cI g (va_up mm 3 (shf (mm 3) k))) A s H locs → W p l e R s m args below meth c H locs cells slots Q (F0 m 198 ls []) := by
  intro k
  induction k with
  | zero =>
    intro _ ls H locs hl Z
    refine lv_iload_n X.1 X.2.1 dX3_device_198 rfl (lv_at hl 0 rfl) ?_
    refine lv_if_le (tgt := 222) X.1 X.2.1 dX3_device_199 (by decide) (fun _ => ?_) (fun c_1 => absurd (by decide) c_1)
    exact K ls H locs hl Z
  | succ k ih =>
    intro hk ls H locs hl Z
    refine lv_iload_n X.1 X.2.1 dX3_device_198 rfl (lv_at hl 0 rfl) ?_
    refine lv_if_le (tgt := 222) X.1 X.2.1 dX3_device_199 (by decide) (fun c_1 => absurd c_1 (nI_nle (by omega) (by omega))) (fun _ => ?_)
    refine lv_aload_n X.1 X.2.1 dX3_device_202 rfl (lv_at hl 3 rfl) ?_
    refine G_X3_out X hT Z dX3_device_203 ?_
    refine lv_iload_n X.1 X.2.1 dX3_device_206 rfl (lv_at hl 0 rfl) ?_
    refine lv_aload_n X.1 X.2.1 dX3_device_207 rfl (lv_at hl 3 rfl) ?_
    refine G_X3_out X hT Z dX3_device_208 ?_
    refine lv_iload_n X.1 X.2.1 dX3_device_211 rfl (lv_at hl 0 rfl) ?_
    refine lv_iconst (v := 1) X.1 X.2.1 dX3_device_212 (by decide) ?_
    refine lv_isub X.1 X.2.1 dX3_device_213 ?_
    refine L_X3_out (j := k) X Z (by rw [nI_pred]; exact vp_in_nI (by omega) (by decide)) (by rw [nI_pred]; exact nI_clamp (by omega)) dX3_device_214 ?_
    refine S_X3_out (j := k + 1) X Z (vp_in_nI (by omega) (by decide)) (nI_clamp (by omega)) dX3_device_215 (fun H locs Z => ?_)
    refine lv_iinc (v := nI k) (lv' := [(3, .int (nI k)), (2, .int x2), (1, .int x1), (0, .ref (q 0))]) X.1 X.2.1 dX3_device_216 hl (k := 0) rfl (pk_m1 k) (by decide) rfl (fun ls hl => ?_)
    refine lv_goto (tgt := 198) X.1 X.2.1 dX3_device_219 (by decide) ?_
    rw [shf_st mm 3 (by omega)] at Z
    exact ih (by omega) ls H locs hl Z
theorem lp_X3_step {p : Program} {l : Launch} {e : Env} {R : Room} {s : State} {m : MethodId} {args : Array Value} {below : List Frame} {meth : Method} {c : Code} {A : Nat → Prop} {Q : State → Prop} {Ts : List Cond} {cells slots : Nat} (X : CallFix p m c cX3_step 5 s args Ts RX3) (hT : ∀ w ∈ TB, w ∈ Ts) (D : va_G) (cI : ClassId) (q : Nat → Nat) (g : Nat → Int32) (mm : Nat → Nat → Int32) (x1 x2 : Int32)
    (K : ∀ (ls : Array Slot) (H : Heap) (locs : List Loc), lv_has ls 5 [(3, .int (nI 0)), (2, .int x2), (1, .int x1), (0, .ref (q 0))] → ZZ D cI (mw q cI g (va_up mm 4 (shf (mm 4) 0))) A s H locs → W p l e R s m args below meth c H locs cells slots Q (F0 m 141 ls [])) :
    ∀ (k : Nat), k ≤ 63 → ∀ (ls : Array Slot) (H : Heap) (locs : List Loc), lv_has ls 5 [(3, .int (nI k)), (2, .int x2), (1, .int x1), (0, .ref (q 0))] → ZZ D cI (mw q cI g (va_up mm 4 (shf (mm 4) k))) A s H locs → W p l e R s m args below meth c H locs cells slots Q (F0 m 117 ls []) := by
  intro k
  induction k with
  | zero =>
    intro _ ls H locs hl Z
    refine lv_iload_n X.1 X.2.1 dX3_step_117 rfl (lv_at hl 0 rfl) ?_
    refine lv_if_le (tgt := 141) X.1 X.2.1 dX3_step_118 (by decide) (fun _ => ?_) (fun c_1 => absurd (by decide) c_1)
    exact K ls H locs hl Z
  | succ k ih =>
    intro hk ls H locs hl Z
    refine lv_iload_n X.1 X.2.1 dX3_step_117 rfl (lv_at hl 0 rfl) ?_
    refine lv_if_le (tgt := 141) X.1 X.2.1 dX3_step_118 (by decide) (fun c_1 => absurd c_1 (nI_nle (by omega) (by omega))) (fun _ => ?_)
    refine lv_aload_n X.1 X.2.1 dX3_step_121 rfl (lv_at hl 3 rfl) ?_
    refine G_X3_places X hT Z dX3_step_122 ?_
    refine lv_iload_n X.1 X.2.1 dX3_step_125 rfl (lv_at hl 0 rfl) ?_
    refine lv_aload_n X.1 X.2.1 dX3_step_126 rfl (lv_at hl 3 rfl) ?_
    refine G_X3_places X hT Z dX3_step_127 ?_
    refine lv_iload_n X.1 X.2.1 dX3_step_130 rfl (lv_at hl 0 rfl) ?_
    refine lv_iconst (v := 1) X.1 X.2.1 dX3_step_131 (by decide) ?_
    refine lv_isub X.1 X.2.1 dX3_step_132 ?_
    refine L_X3_places (j := k) X Z (by rw [nI_pred]; exact vp_in_nI (by omega) (by decide)) (by rw [nI_pred]; exact nI_clamp (by omega)) dX3_step_133 ?_
    refine S_X3_places (j := k + 1) X Z (vp_in_nI (by omega) (by decide)) (nI_clamp (by omega)) dX3_step_134 (fun H locs Z => ?_)
    refine lv_iinc (v := nI k) (lv' := [(3, .int (nI k)), (2, .int x2), (1, .int x1), (0, .ref (q 0))]) X.1 X.2.1 dX3_step_135 hl (k := 0) rfl (pk_m1 k) (by decide) rfl (fun ls hl => ?_)
    refine lv_goto (tgt := 117) X.1 X.2.1 dX3_step_138 (by decide) ?_
    rw [shf_st mm 4 (by omega)] at Z
    exact ih (by omega) ls H locs hl Z
def uX3_device_j19_mm (mm : Nat → Nat → Int32) (a1 : Int32) : Nat → Nat → Int32 := if (a1 - 3072) = 1 then ((va_up mm 1 (upd (mm 1) 6 1))) else (mm)
def uX3_device_j39_mm (a1 : Int32) (j19_mm : Nat → Nat → Int32) : Nat → Nat → Int32 := if (a1 - 3072) = 2 then ((va_up (va_up j19_mm 1 (upd (j19_mm 1) 5 0)) 1 (upd ((va_up j19_mm 1 (upd (j19_mm 1) 5 0)) 1) 6 0))) else (j19_mm)
def uX3_device_j53_mm (a1 : Int32) (j39_mm : Nat → Nat → Int32) : Nat → Nat → Int32 := if (a1 - 3072) = 24 then ((va_up j39_mm 1 (upd (j39_mm 1) 7 0))) else (j39_mm)
def uX3_device_j74_g (g : Nat → Int32) (a1 : Int32) (j53_mm : Nat → Nat → Int32) : Nat → Int32 := if (a1 - 3072) = 25 then (if (j53_mm 1 7) = 1 then ((gX3_skip g j53_mm)) else (g)) else (g)
def uX3_device_j74_mm (g : Nat → Int32) (a1 : Int32) (j53_mm : Nat → Nat → Int32) : Nat → Nat → Int32 := if (a1 - 3072) = 25 then (if (j53_mm 1 7) = 1 then ((mX3_skip g j53_mm)) else (j53_mm)) else (j53_mm)
def uX3_device_j87_mm (a1 : Int32) (j74_mm : Nat → Nat → Int32) : Nat → Nat → Int32 := if (a1 - 3072) = 26 then ((va_up j74_mm 1 (upd (j74_mm 1) 0 0))) else (j74_mm)
def uX3_device_j113_mm (a1 : Int32) (j87_mm : Nat → Nat → Int32) : Nat → Nat → Int32 := if (a1 - 3072) = 28 then ((va_up j87_mm 1 (upd (j87_mm 1) 0 ((j87_mm 1 0) ||| (j87_mm 1 8))))) else (j87_mm)
def uX3_device_j132_mm (a1 : Int32) (j113_mm : Nat → Nat → Int32) : Nat → Nat → Int32 := if (a1 - 3072) = 30 then ((va_up j113_mm 1 (upd (j113_mm 1) 0 (j113_mm 1 8)))) else (j113_mm)
def uX3_device_j148_g (a1 : Int32) (j74_g : Nat → Int32) (j132_mm : Nat → Nat → Int32) : Nat → Int32 := if (a1 - 3072) = 26 then ((gX3_advance j74_g j132_mm)) else (if (a1 - 3072) = 30 then ((gX3_advance j74_g j132_mm)) else (j74_g))
def uX3_device_j148_mm (a1 : Int32) (j74_g : Nat → Int32) (j132_mm : Nat → Nat → Int32) : Nat → Nat → Int32 := if (a1 - 3072) = 26 then ((mX3_advance j74_g j132_mm)) else (if (a1 - 3072) = 30 then ((mX3_advance j74_g j132_mm)) else (j132_mm))
def uX3_device_j169_g (a1 : Int32) (j148_g : Nat → Int32) (j148_mm : Nat → Nat → Int32) : Nat → Int32 := if (a1 - 3072) = 33 then (if (j148_mm 1 9) = 1 then ((gX3_skip j148_g j148_mm)) else (j148_g)) else (j148_g)
def uX3_device_j169_mm (a1 : Int32) (j148_g : Nat → Int32) (j148_mm : Nat → Nat → Int32) : Nat → Nat → Int32 := if (a1 - 3072) = 33 then (if (j148_mm 1 9) = 1 then ((mX3_skip j148_g j148_mm)) else (j148_mm)) else (j148_mm)
def uX3_device_j183_mm (a1 : Int32) (j169_mm : Nat → Nat → Int32) : Nat → Nat → Int32 := if (a1 - 3072) = 34 then ((va_up j169_mm 1 (upd (j169_mm 1) 9 0))) else (j169_mm)
def uX3_device_j256_g (a1 : Int32) (j169_g : Nat → Int32) : Nat → Int32 := if (a1 - 3072) = 36 then ((upd j169_g 2 ((j169_g 2) + 1))) else (if (a1 - 3072) = 38 then ((upd j169_g 2 ((j169_g 2) + 1))) else (j169_g))
def uX3_device_j256_mm (a1 : Int32) (j183_mm : Nat → Nat → Int32) : Nat → Nat → Int32 := if (a1 - 3072) = 36 then ((va_up (va_up (va_up j183_mm 3 (shf (j183_mm 3) 0)) 3 (upd ((va_up j183_mm 3 (shf (j183_mm 3) 0)) 3) 0 (((va_up j183_mm 3 (shf (j183_mm 3) 0)) 1 0) - ((va_up j183_mm 3 (shf (j183_mm 3) 0)) 1 0) / 256 * 256))) 1 (upd ((va_up (va_up j183_mm 3 (shf (j183_mm 3) 0)) 3 (upd ((va_up j183_mm 3 (shf (j183_mm 3) 0)) 3) 0 (((va_up j183_mm 3 (shf (j183_mm 3) 0)) 1 0) - ((va_up j183_mm 3 (shf (j183_mm 3) 0)) 1 0) / 256 * 256))) 1) 9 1))) else (if (a1 - 3072) = 38 then ((va_up (va_up (va_up j183_mm 3 (shf (j183_mm 3) 0)) 3 (upd ((va_up j183_mm 3 (shf (j183_mm 3) 0)) 3) 0 (((va_up j183_mm 3 (shf (j183_mm 3) 0)) 1 0) - ((va_up j183_mm 3 (shf (j183_mm 3) 0)) 1 0) / 256 * 256))) 1 (upd ((va_up (va_up j183_mm 3 (shf (j183_mm 3) 0)) 3 (upd ((va_up j183_mm 3 (shf (j183_mm 3) 0)) 3) 0 (((va_up j183_mm 3 (shf (j183_mm 3) 0)) 1 0) - ((va_up j183_mm 3 (shf (j183_mm 3) 0)) 1 0) / 256 * 256))) 1) 9 1))) else (j183_mm))
def gX3_device (g : Nat → Int32) (mm : Nat → Nat → Int32) (a1 : Int32) : Nat → Int32 := let j19_mm : Nat → Nat → Int32 := uX3_device_j19_mm mm a1; let j39_mm : Nat → Nat → Int32 := uX3_device_j39_mm a1 j19_mm; let j53_mm : Nat → Nat → Int32 := uX3_device_j53_mm a1 j39_mm; let j74_g : Nat → Int32 := uX3_device_j74_g g a1 j53_mm; let j74_mm : Nat → Nat → Int32 := uX3_device_j74_mm g a1 j53_mm; let j87_mm : Nat → Nat → Int32 := uX3_device_j87_mm a1 j74_mm; let j113_mm : Nat → Nat → Int32 := uX3_device_j113_mm a1 j87_mm; let j132_mm : Nat → Nat → Int32 := uX3_device_j132_mm a1 j113_mm; let j148_g : Nat → Int32 := uX3_device_j148_g a1 j74_g j132_mm; let j148_mm : Nat → Nat → Int32 := uX3_device_j148_mm a1 j74_g j132_mm; let j169_g : Nat → Int32 := uX3_device_j169_g a1 j148_g j148_mm; let j256_g : Nat → Int32 := uX3_device_j256_g a1 j169_g; j256_g
def mX3_device (g : Nat → Int32) (mm : Nat → Nat → Int32) (a1 : Int32) : Nat → Nat → Int32 := let j19_mm : Nat → Nat → Int32 := uX3_device_j19_mm mm a1; let j39_mm : Nat → Nat → Int32 := uX3_device_j39_mm a1 j19_mm; let j53_mm : Nat → Nat → Int32 := uX3_device_j53_mm a1 j39_mm; let j74_g : Nat → Int32 := uX3_device_j74_g g a1 j53_mm; let j74_mm : Nat → Nat → Int32 := uX3_device_j74_mm g a1 j53_mm; let j87_mm : Nat → Nat → Int32 := uX3_device_j87_mm a1 j74_mm; let j113_mm : Nat → Nat → Int32 := uX3_device_j113_mm a1 j87_mm; let j132_mm : Nat → Nat → Int32 := uX3_device_j132_mm a1 j113_mm; let j148_g : Nat → Int32 := uX3_device_j148_g a1 j74_g j132_mm; let j148_mm : Nat → Nat → Int32 := uX3_device_j148_mm a1 j74_g j132_mm; let j169_mm : Nat → Nat → Int32 := uX3_device_j169_mm a1 j148_g j148_mm; let j183_mm : Nat → Nat → Int32 := uX3_device_j183_mm a1 j169_mm; let j256_mm : Nat → Nat → Int32 := uX3_device_j256_mm a1 j183_mm; j256_mm
theorem ma_74 {g : Nat → Int32} {a1 : Int32} {jm : Nat → Nat → Int32} (h : Ma g) : Ma (uX3_device_j74_g g a1 jm) := by
  unfold uX3_device_j74_g
  repeat' split
  all_goals exact h
set_option maxRecDepth 20000 in
set_option maxHeartbeats 4000000 in
theorem c_X3_device (l : Launch) (D : va_G) (cI : ClassId) (q : Nat → Nat) (g : Nat → Int32) (mm : Nat → Nat → Int32) (a1 : Int32) (ha : Ma g) : MI l D cI yX3_device (.code yX3_device cX3_device 4 none) ({ frames := 2, cells := 0, slots := 0, locals := 40 } : Room) [.ref (q 0), .int a1] (mw q cI g mm) (mw q cI (gX3_device g mm a1) (mX3_device g mm a1)) none := by
  refine MI.ofV (own := RX3) (by decide) rfl (Nat.le_of_ble_eq_true rfl) ?_
  intro p e s m args below meth c A ls Q X Z hl hret
  have hT : ∀ w ∈ TB, w ∈ (Cond.code yX3_device cX3_device 4 none :: TB) := fun _ h => List.mem_cons_of_mem _ h
  have hl : lv_has ls 4 [(0, .ref (q 0)), (1, .int a1)] := hl
  refine lv_iload_n X.1 X.2.1 dX3_device_0 rfl (lv_at hl 1 rfl) ?_
  refine lv_sipush (v := 3072) X.1 X.2.1 dX3_device_1 (by decide) ?_
  refine lv_isub X.1 X.2.1 dX3_device_4 ?_
  refine lv_istore_n (lv' := [(2, .int (a1 - 3072)), (0, .ref (q 0)), (1, .int a1)]) X.1 X.2.1 dX3_device_5 rfl hl (by decide) rfl (fun ls hl => ?_)
  refine lv_iload_n X.1 X.2.1 dX3_device_6 rfl (lv_at hl 0 rfl) ?_
  refine lv_iconst (v := 1) X.1 X.2.1 dX3_device_7 (by decide) ?_
  suffices K_19 : ∀ (j19_mm : Nat → Nat → Int32) (ls : Array Slot) (H : Heap) (locs : List Loc), j19_mm = uX3_device_j19_mm mm a1 → lv_has ls 4 [(2, .int (a1 - 3072)), (0, .ref (q 0)), (1, .int a1)] → ZZ D cI (mw q cI g j19_mm) A s H locs → W p l e ({ frames := 2, cells := 0, slots := 0, locals := 40 } : Room) s m args below meth c H locs 0 0 Q (F0 m 19 ls []) by
    refine lv_icmp_ne (tgt := 19) X.1 X.2.1 dX3_device_8 (by decide) (fun c_8 => ?_) (fun c_8 => ?_)
    · exact K_19 mm _ _ _ (if_neg c_8).symm (lv_sub hl [0, 1, 2] rfl) Z
    · refine lv_aload_n X.1 X.2.1 dX3_device_11 rfl (lv_at hl 1 rfl) ?_
      refine G_X3_r X hT Z dX3_device_12 ?_
      refine lv_bipush (v := 6) X.1 X.2.1 dX3_device_15 (by decide) ?_
      refine lv_iconst (v := 1) X.1 X.2.1 dX3_device_17 (by decide) ?_
      refine S_X3_r (j := 6) X Z (vin_c (by decide)) (by decide) dX3_device_18 (fun H locs Z => ?_)
      exact K_19 (va_up mm 1 (upd (mm 1) 6 1)) _ _ _ (if_pos c_8).symm (lv_sub hl [0, 1, 2] rfl) Z
  intro j19_mm ls H locs e_j19_mm hl Z
  refine lv_iload_n X.1 X.2.1 dX3_device_19 rfl (lv_at hl 0 rfl) ?_
  refine lv_iconst (v := 2) X.1 X.2.1 dX3_device_20 (by decide) ?_
  suffices K_39 : ∀ (j39_mm : Nat → Nat → Int32) (ls : Array Slot) (H : Heap) (locs : List Loc), j39_mm = uX3_device_j39_mm a1 j19_mm → lv_has ls 4 [(2, .int (a1 - 3072)), (0, .ref (q 0)), (1, .int a1)] → ZZ D cI (mw q cI g j39_mm) A s H locs → W p l e ({ frames := 2, cells := 0, slots := 0, locals := 40 } : Room) s m args below meth c H locs 0 0 Q (F0 m 39 ls []) by
    refine lv_icmp_ne (tgt := 39) X.1 X.2.1 dX3_device_21 (by decide) (fun c_21 => ?_) (fun c_21 => ?_)
    · exact K_39 j19_mm _ _ _ (if_neg c_21).symm (lv_sub hl [0, 1, 2] rfl) Z
    · refine lv_aload_n X.1 X.2.1 dX3_device_24 rfl (lv_at hl 1 rfl) ?_
      refine G_X3_r X hT Z dX3_device_25 ?_
      refine lv_iconst (v := 5) X.1 X.2.1 dX3_device_28 (by decide) ?_
      refine lv_iconst (v := 0) X.1 X.2.1 dX3_device_29 (by decide) ?_
      refine S_X3_r (j := 5) X Z (vin_c (by decide)) (by decide) dX3_device_30 (fun H locs Z => ?_)
      refine lv_aload_n X.1 X.2.1 dX3_device_31 rfl (lv_at hl 1 rfl) ?_
      refine G_X3_r X hT Z dX3_device_32 ?_
      refine lv_bipush (v := 6) X.1 X.2.1 dX3_device_35 (by decide) ?_
      refine lv_iconst (v := 0) X.1 X.2.1 dX3_device_37 (by decide) ?_
      refine S_X3_r (j := 6) X Z (vin_c (by decide)) (by decide) dX3_device_38 (fun H locs Z => ?_)
      exact K_39 (va_up (va_up j19_mm 1 (upd (j19_mm 1) 5 0)) 1 (upd ((va_up j19_mm 1 (upd (j19_mm 1) 5 0)) 1) 6 0)) _ _ _ (if_pos c_21).symm (lv_sub hl [0, 1, 2] rfl) Z
  intro j39_mm ls H locs e_j39_mm hl Z
  refine lv_iload_n X.1 X.2.1 dX3_device_39 rfl (lv_at hl 0 rfl) ?_
  refine lv_bipush (v := 24) X.1 X.2.1 dX3_device_40 (by decide) ?_
  suffices K_53 : ∀ (j53_mm : Nat → Nat → Int32) (ls : Array Slot) (H : Heap) (locs : List Loc), j53_mm = uX3_device_j53_mm a1 j39_mm → lv_has ls 4 [(2, .int (a1 - 3072)), (0, .ref (q 0)), (1, .int a1)] → ZZ D cI (mw q cI g j53_mm) A s H locs → W p l e ({ frames := 2, cells := 0, slots := 0, locals := 40 } : Room) s m args below meth c H locs 0 0 Q (F0 m 53 ls []) by
    refine lv_icmp_ne (tgt := 53) X.1 X.2.1 dX3_device_42 (by decide) (fun c_42 => ?_) (fun c_42 => ?_)
    · exact K_53 j39_mm _ _ _ (if_neg c_42).symm (lv_sub hl [0, 1, 2] rfl) Z
    · refine lv_aload_n X.1 X.2.1 dX3_device_45 rfl (lv_at hl 1 rfl) ?_
      refine G_X3_r X hT Z dX3_device_46 ?_
      refine lv_bipush (v := 7) X.1 X.2.1 dX3_device_49 (by decide) ?_
      refine lv_iconst (v := 0) X.1 X.2.1 dX3_device_51 (by decide) ?_
      refine S_X3_r (j := 7) X Z (vin_c (by decide)) (by decide) dX3_device_52 (fun H locs Z => ?_)
      exact K_53 (va_up j39_mm 1 (upd (j39_mm 1) 7 0)) _ _ _ (if_pos c_42).symm (lv_sub hl [0, 1, 2] rfl) Z
  intro j53_mm ls H locs e_j53_mm hl Z
  refine lv_iload_n X.1 X.2.1 dX3_device_53 rfl (lv_at hl 0 rfl) ?_
  refine lv_bipush (v := 25) X.1 X.2.1 dX3_device_54 (by decide) ?_
  suffices K_74 : ∀ (j74_g : Nat → Int32) (j74_mm : Nat → Nat → Int32) (ls : Array Slot) (H : Heap) (locs : List Loc), j74_g = uX3_device_j74_g g a1 j53_mm → j74_mm = uX3_device_j74_mm g a1 j53_mm → lv_has ls 4 [(2, .int (a1 - 3072)), (0, .ref (q 0)), (1, .int a1)] → ZZ D cI (mw q cI j74_g j74_mm) A s H locs → W p l e ({ frames := 2, cells := 0, slots := 0, locals := 40 } : Room) s m args below meth c H locs 0 0 Q (F0 m 74 ls []) by
    refine lv_icmp_ne (tgt := 74) X.1 X.2.1 dX3_device_56 (by decide) (fun c_56 => ?_) (fun c_56 => ?_)
    · exact K_74 g j53_mm _ _ _ (if_neg c_56).symm (if_neg c_56).symm (lv_sub hl [0, 1, 2] rfl) Z
    · refine lv_aload_n X.1 X.2.1 dX3_device_59 rfl (lv_at hl 1 rfl) ?_
      refine G_X3_r X hT Z dX3_device_60 ?_
      refine lv_bipush (v := 7) X.1 X.2.1 dX3_device_63 (by decide) ?_
      refine L_X3_r (j := 7) X Z (vin_c (by decide)) (by decide) dX3_device_65 ?_
      refine lv_iconst (v := 1) X.1 X.2.1 dX3_device_66 (by decide) ?_
      refine lv_icmp_ne (tgt := 74) X.1 X.2.1 dX3_device_67 (by decide) (fun c_67 => ?_) (fun c_67 => ?_)
      · exact K_74 g j53_mm _ _ _ ((if_pos c_56).trans (if_neg c_67)).symm ((if_pos c_56).trans (if_neg c_67)).symm (lv_sub hl [0, 1, 2] rfl) Z
      · refine lv_aload_n X.1 X.2.1 dX3_device_70 rfl (lv_at hl 1 rfl) ?_
        refine call_Vv X hT Z (qq := (RX3, TX3, 11)) k_X3_73 (c_X3_skip l D cI q g j53_mm ) rfl rfl hd_X3_skip ⟨by decide, by decide⟩ ⟨rfl, rfl⟩ hl.1 (rest := []) rfl (Nat.le_of_ble_eq_true rfl) ⟨by decide, by decide⟩ dX3_device_71 (fun H locs Z => ?_)
        exact K_74 (gX3_skip g j53_mm) (mX3_skip g j53_mm) _ _ _ ((if_pos c_56).trans (if_pos c_67)).symm ((if_pos c_56).trans (if_pos c_67)).symm (lv_sub hl [0, 1, 2] rfl) Z
  intro j74_g j74_mm ls H locs e_j74_g e_j74_mm hl Z
  refine lv_iload_n X.1 X.2.1 dX3_device_74 rfl (lv_at hl 0 rfl) ?_
  refine lv_bipush (v := 26) X.1 X.2.1 dX3_device_75 (by decide) ?_
  suffices K_87 : ∀ (j87_mm : Nat → Nat → Int32) (ls : Array Slot) (H : Heap) (locs : List Loc), j87_mm = uX3_device_j87_mm a1 j74_mm → lv_has ls 4 [(2, .int (a1 - 3072)), (0, .ref (q 0)), (1, .int a1)] → ZZ D cI (mw q cI j74_g j87_mm) A s H locs → W p l e ({ frames := 2, cells := 0, slots := 0, locals := 40 } : Room) s m args below meth c H locs 0 0 Q (F0 m 87 ls []) by
    refine lv_icmp_ne (tgt := 87) X.1 X.2.1 dX3_device_77 (by decide) (fun c_77 => ?_) (fun c_77 => ?_)
    · exact K_87 j74_mm _ _ _ (if_neg c_77).symm (lv_sub hl [0, 1, 2] rfl) Z
    · refine lv_aload_n X.1 X.2.1 dX3_device_80 rfl (lv_at hl 1 rfl) ?_
      refine G_X3_r X hT Z dX3_device_81 ?_
      refine lv_iconst (v := 0) X.1 X.2.1 dX3_device_84 (by decide) ?_
      refine lv_iconst (v := 0) X.1 X.2.1 dX3_device_85 (by decide) ?_
      refine S_X3_r (j := 0) X Z (vin_c (by decide)) (by decide) dX3_device_86 (fun H locs Z => ?_)
      exact K_87 (va_up j74_mm 1 (upd (j74_mm 1) 0 0)) _ _ _ (if_pos c_77).symm (lv_sub hl [0, 1, 2] rfl) Z
  intro j87_mm ls H locs e_j87_mm hl Z
  refine lv_iload_n X.1 X.2.1 dX3_device_87 rfl (lv_at hl 0 rfl) ?_
  refine lv_bipush (v := 28) X.1 X.2.1 dX3_device_88 (by decide) ?_
  suffices K_113 : ∀ (j113_mm : Nat → Nat → Int32) (ls : Array Slot) (H : Heap) (locs : List Loc), j113_mm = uX3_device_j113_mm a1 j87_mm → lv_has ls 4 [(2, .int (a1 - 3072)), (0, .ref (q 0)), (1, .int a1)] → ZZ D cI (mw q cI j74_g j113_mm) A s H locs → W p l e ({ frames := 2, cells := 0, slots := 0, locals := 40 } : Room) s m args below meth c H locs 0 0 Q (F0 m 113 ls []) by
    refine lv_icmp_ne (tgt := 113) X.1 X.2.1 dX3_device_90 (by decide) (fun c_90 => ?_) (fun c_90 => ?_)
    · exact K_113 j87_mm _ _ _ (if_neg c_90).symm (lv_sub hl [0, 1, 2] rfl) Z
    · refine lv_aload_n X.1 X.2.1 dX3_device_93 rfl (lv_at hl 1 rfl) ?_
      refine G_X3_r X hT Z dX3_device_94 ?_
      refine lv_iconst (v := 0) X.1 X.2.1 dX3_device_97 (by decide) ?_
      refine lv_aload_n X.1 X.2.1 dX3_device_98 rfl (lv_at hl 1 rfl) ?_
      refine G_X3_r X hT Z dX3_device_99 ?_
      refine lv_iconst (v := 0) X.1 X.2.1 dX3_device_102 (by decide) ?_
      refine L_X3_r (j := 0) X Z (vin_c (by decide)) (by decide) dX3_device_103 ?_
      refine lv_aload_n X.1 X.2.1 dX3_device_104 rfl (lv_at hl 1 rfl) ?_
      refine G_X3_r X hT Z dX3_device_105 ?_
      refine lv_bipush (v := 8) X.1 X.2.1 dX3_device_108 (by decide) ?_
      refine L_X3_r (j := 8) X Z (vin_c (by decide)) (by decide) dX3_device_110 ?_
      refine lv_ior X.1 X.2.1 dX3_device_111 ?_
      refine S_X3_r (j := 0) X Z (vin_c (by decide)) (by decide) dX3_device_112 (fun H locs Z => ?_)
      exact K_113 (va_up j87_mm 1 (upd (j87_mm 1) 0 ((j87_mm 1 0) ||| (j87_mm 1 8)))) _ _ _ (if_pos c_90).symm (lv_sub hl [0, 1, 2] rfl) Z
  intro j113_mm ls H locs e_j113_mm hl Z
  refine lv_iload_n X.1 X.2.1 dX3_device_113 rfl (lv_at hl 0 rfl) ?_
  refine lv_bipush (v := 30) X.1 X.2.1 dX3_device_114 (by decide) ?_
  suffices K_132 : ∀ (j132_mm : Nat → Nat → Int32) (ls : Array Slot) (H : Heap) (locs : List Loc), j132_mm = uX3_device_j132_mm a1 j113_mm → lv_has ls 4 [(2, .int (a1 - 3072)), (0, .ref (q 0)), (1, .int a1)] → ZZ D cI (mw q cI j74_g j132_mm) A s H locs → W p l e ({ frames := 2, cells := 0, slots := 0, locals := 40 } : Room) s m args below meth c H locs 0 0 Q (F0 m 132 ls []) by
    refine lv_icmp_ne (tgt := 132) X.1 X.2.1 dX3_device_116 (by decide) (fun c_116 => ?_) (fun c_116 => ?_)
    · exact K_132 j113_mm _ _ _ (if_neg c_116).symm (lv_sub hl [0, 1, 2] rfl) Z
    · refine lv_aload_n X.1 X.2.1 dX3_device_119 rfl (lv_at hl 1 rfl) ?_
      refine G_X3_r X hT Z dX3_device_120 ?_
      refine lv_iconst (v := 0) X.1 X.2.1 dX3_device_123 (by decide) ?_
      refine lv_aload_n X.1 X.2.1 dX3_device_124 rfl (lv_at hl 1 rfl) ?_
      refine G_X3_r X hT Z dX3_device_125 ?_
      refine lv_bipush (v := 8) X.1 X.2.1 dX3_device_128 (by decide) ?_
      refine L_X3_r (j := 8) X Z (vin_c (by decide)) (by decide) dX3_device_130 ?_
      refine S_X3_r (j := 0) X Z (vin_c (by decide)) (by decide) dX3_device_131 (fun H locs Z => ?_)
      exact K_132 (va_up j113_mm 1 (upd (j113_mm 1) 0 (j113_mm 1 8))) _ _ _ (if_pos c_116).symm (lv_sub hl [0, 1, 2] rfl) Z
  intro j132_mm ls H locs e_j132_mm hl Z
  refine lv_iload_n X.1 X.2.1 dX3_device_132 rfl (lv_at hl 0 rfl) ?_
  refine lv_bipush (v := 26) X.1 X.2.1 dX3_device_133 (by decide) ?_
  suffices K_148 : ∀ (j148_g : Nat → Int32) (j148_mm : Nat → Nat → Int32) (ls : Array Slot) (H : Heap) (locs : List Loc), j148_g = uX3_device_j148_g a1 j74_g j132_mm → j148_mm = uX3_device_j148_mm a1 j74_g j132_mm → lv_has ls 4 [(2, .int (a1 - 3072)), (0, .ref (q 0)), (1, .int a1)] → ZZ D cI (mw q cI j148_g j148_mm) A s H locs → W p l e ({ frames := 2, cells := 0, slots := 0, locals := 40 } : Room) s m args below meth c H locs 0 0 Q (F0 m 148 ls []) by
    refine lv_icmp_eq (tgt := 144) X.1 X.2.1 dX3_device_135 (by decide) (fun c_135 => ?_) (fun c_135 => ?_)
    · refine lv_aload_n X.1 X.2.1 dX3_device_144 rfl (lv_at hl 1 rfl) ?_
      refine call_Vv X hT Z (qq := (RX3, TX3, 11)) k_X3_76 (c_X3_advance l D cI q j74_g j132_mm (by rw [e_j74_g]; exact ma_74 ha)) rfl rfl hd_X3_advance ⟨by decide, by decide⟩ ⟨rfl, rfl⟩ hl.1 (rest := []) rfl (Nat.le_of_ble_eq_true rfl) ⟨by decide, by decide⟩ dX3_device_145 (fun H locs Z => ?_)
      exact K_148 (gX3_advance j74_g j132_mm) (mX3_advance j74_g j132_mm) _ _ _ (if_pos c_135).symm (if_pos c_135).symm (lv_sub hl [0, 1, 2] rfl) Z
    · refine lv_iload_n X.1 X.2.1 dX3_device_138 rfl (lv_at hl 0 rfl) ?_
      refine lv_bipush (v := 30) X.1 X.2.1 dX3_device_139 (by decide) ?_
      refine lv_icmp_ne (tgt := 148) X.1 X.2.1 dX3_device_141 (by decide) (fun c_141 => ?_) (fun c_141 => ?_)
      · exact K_148 j74_g j132_mm _ _ _ ((if_neg c_135).trans (if_neg c_141)).symm ((if_neg c_135).trans (if_neg c_141)).symm (lv_sub hl [0, 1, 2] rfl) Z
      · refine lv_aload_n X.1 X.2.1 dX3_device_144 rfl (lv_at hl 1 rfl) ?_
        refine call_Vv X hT Z (qq := (RX3, TX3, 11)) k_X3_76 (c_X3_advance l D cI q j74_g j132_mm (by rw [e_j74_g]; exact ma_74 ha)) rfl rfl hd_X3_advance ⟨by decide, by decide⟩ ⟨rfl, rfl⟩ hl.1 (rest := []) rfl (Nat.le_of_ble_eq_true rfl) ⟨by decide, by decide⟩ dX3_device_145 (fun H locs Z => ?_)
        exact K_148 (gX3_advance j74_g j132_mm) (mX3_advance j74_g j132_mm) _ _ _ ((if_neg c_135).trans (if_pos c_141)).symm ((if_neg c_135).trans (if_pos c_141)).symm (lv_sub hl [0, 1, 2] rfl) Z
  intro j148_g j148_mm ls H locs e_j148_g e_j148_mm hl Z
  refine lv_iload_n X.1 X.2.1 dX3_device_148 rfl (lv_at hl 0 rfl) ?_
  refine lv_bipush (v := 33) X.1 X.2.1 dX3_device_149 (by decide) ?_
  suffices K_169 : ∀ (j169_g : Nat → Int32) (j169_mm : Nat → Nat → Int32) (ls : Array Slot) (H : Heap) (locs : List Loc), j169_g = uX3_device_j169_g a1 j148_g j148_mm → j169_mm = uX3_device_j169_mm a1 j148_g j148_mm → lv_has ls 4 [(2, .int (a1 - 3072)), (0, .ref (q 0)), (1, .int a1)] → ZZ D cI (mw q cI j169_g j169_mm) A s H locs → W p l e ({ frames := 2, cells := 0, slots := 0, locals := 40 } : Room) s m args below meth c H locs 0 0 Q (F0 m 169 ls []) by
    refine lv_icmp_ne (tgt := 169) X.1 X.2.1 dX3_device_151 (by decide) (fun c_151 => ?_) (fun c_151 => ?_)
    · exact K_169 j148_g j148_mm _ _ _ (if_neg c_151).symm (if_neg c_151).symm (lv_sub hl [0, 1, 2] rfl) Z
    · refine lv_aload_n X.1 X.2.1 dX3_device_154 rfl (lv_at hl 1 rfl) ?_
      refine G_X3_r X hT Z dX3_device_155 ?_
      refine lv_bipush (v := 9) X.1 X.2.1 dX3_device_158 (by decide) ?_
      refine L_X3_r (j := 9) X Z (vin_c (by decide)) (by decide) dX3_device_160 ?_
      refine lv_iconst (v := 1) X.1 X.2.1 dX3_device_161 (by decide) ?_
      refine lv_icmp_ne (tgt := 169) X.1 X.2.1 dX3_device_162 (by decide) (fun c_162 => ?_) (fun c_162 => ?_)
      · exact K_169 j148_g j148_mm _ _ _ ((if_pos c_151).trans (if_neg c_162)).symm ((if_pos c_151).trans (if_neg c_162)).symm (lv_sub hl [0, 1, 2] rfl) Z
      · refine lv_aload_n X.1 X.2.1 dX3_device_165 rfl (lv_at hl 1 rfl) ?_
        refine call_Vv X hT Z (qq := (RX3, TX3, 11)) k_X3_73 (c_X3_skip l D cI q j148_g j148_mm ) rfl rfl hd_X3_skip ⟨by decide, by decide⟩ ⟨rfl, rfl⟩ hl.1 (rest := []) rfl (Nat.le_of_ble_eq_true rfl) ⟨by decide, by decide⟩ dX3_device_166 (fun H locs Z => ?_)
        exact K_169 (gX3_skip j148_g j148_mm) (mX3_skip j148_g j148_mm) _ _ _ ((if_pos c_151).trans (if_pos c_162)).symm ((if_pos c_151).trans (if_pos c_162)).symm (lv_sub hl [0, 1, 2] rfl) Z
  intro j169_g j169_mm ls H locs e_j169_g e_j169_mm hl Z
  refine lv_iload_n X.1 X.2.1 dX3_device_169 rfl (lv_at hl 0 rfl) ?_
  refine lv_bipush (v := 34) X.1 X.2.1 dX3_device_170 (by decide) ?_
  suffices K_183 : ∀ (j183_mm : Nat → Nat → Int32) (ls : Array Slot) (H : Heap) (locs : List Loc), j183_mm = uX3_device_j183_mm a1 j169_mm → lv_has ls 4 [(2, .int (a1 - 3072)), (0, .ref (q 0)), (1, .int a1)] → ZZ D cI (mw q cI j169_g j183_mm) A s H locs → W p l e ({ frames := 2, cells := 0, slots := 0, locals := 40 } : Room) s m args below meth c H locs 0 0 Q (F0 m 183 ls []) by
    refine lv_icmp_ne (tgt := 183) X.1 X.2.1 dX3_device_172 (by decide) (fun c_172 => ?_) (fun c_172 => ?_)
    · exact K_183 j169_mm _ _ _ (if_neg c_172).symm (lv_sub hl [0, 1, 2] rfl) Z
    · refine lv_aload_n X.1 X.2.1 dX3_device_175 rfl (lv_at hl 1 rfl) ?_
      refine G_X3_r X hT Z dX3_device_176 ?_
      refine lv_bipush (v := 9) X.1 X.2.1 dX3_device_179 (by decide) ?_
      refine lv_iconst (v := 0) X.1 X.2.1 dX3_device_181 (by decide) ?_
      refine S_X3_r (j := 9) X Z (vin_c (by decide)) (by decide) dX3_device_182 (fun H locs Z => ?_)
      exact K_183 (va_up j169_mm 1 (upd (j169_mm 1) 9 0)) _ _ _ (if_pos c_172).symm (lv_sub hl [0, 1, 2] rfl) Z
  intro j183_mm ls H locs e_j183_mm hl Z
  refine lv_iload_n X.1 X.2.1 dX3_device_183 rfl (lv_at hl 0 rfl) ?_
  refine lv_bipush (v := 36) X.1 X.2.1 dX3_device_184 (by decide) ?_
  suffices K_256 : ∀ (j256_g : Nat → Int32) (j256_mm : Nat → Nat → Int32) (ls : Array Slot) (H : Heap) (locs : List Loc), j256_g = uX3_device_j256_g a1 j169_g → j256_mm = uX3_device_j256_mm a1 j183_mm → lv_has ls 4 [(2, .int (a1 - 3072)), (1, .int a1), (0, .ref (q 0))] → ZZ D cI (mw q cI j256_g j256_mm) A s H locs → W p l e ({ frames := 2, cells := 0, slots := 0, locals := 40 } : Room) s m args below meth c H locs 0 0 Q (F0 m 256 ls []) by
    refine lv_icmp_eq (tgt := 195) X.1 X.2.1 dX3_device_186 (by decide) (fun c_186 => ?_) (fun c_186 => ?_)
    · refine lv_bipush (v := 63) X.1 X.2.1 dX3_device_195 (by decide) ?_
      refine lv_istore_n (lv' := [(3, .int 63), (2, .int (a1 - 3072)), (0, .ref (q 0)), (1, .int a1)]) X.1 X.2.1 dX3_device_197 rfl hl (by decide) rfl (fun ls hl => ?_)
      refine lp_X3_device X hT D cI q j169_g j183_mm a1 (a1 - 3072) (fun ls H locs hl Z => ?_) 63 (by decide) _ _ _ (lv_sub hl [0, 1, 3, 2] rfl) (by rw [shf_63]; exact Z)
      refine lv_aload_n X.1 X.2.1 dX3_device_222 rfl (lv_at hl 3 rfl) ?_
      refine G_X3_out X hT Z dX3_device_223 ?_
      refine lv_iconst (v := 0) X.1 X.2.1 dX3_device_226 (by decide) ?_
      refine lv_aload_n X.1 X.2.1 dX3_device_227 rfl (lv_at hl 3 rfl) ?_
      refine G_X3_r X hT Z dX3_device_228 ?_
      refine lv_iconst (v := 0) X.1 X.2.1 dX3_device_231 (by decide) ?_
      refine L_X3_r (j := 0) X Z (vin_c (by decide)) (by decide) dX3_device_232 ?_
      refine lv_sipush (v := 256) X.1 X.2.1 dX3_device_233 (by decide) ?_
      refine lv_irem X.1 X.2.1 dX3_device_236 (by decide) ?_
      refine S_X3_out (j := 0) X Z (vin_c (by decide)) (by decide) dX3_device_237 (fun H locs Z => ?_)
      refine lv_aload_n X.1 X.2.1 dX3_device_238 rfl (lv_at hl 3 rfl) ?_
      refine lv_dup X.1 X.2.1 dX3_device_239 rfl ?_
      refine G_X3_printed X hT Z dX3_device_240 ?_
      refine lv_iconst (v := 1) X.1 X.2.1 dX3_device_243 (by decide) ?_
      refine lv_iadd X.1 X.2.1 dX3_device_244 ?_
      refine P_X3_printed X hT Z dX3_device_245 (fun H locs Z => ?_)
      refine lv_aload_n X.1 X.2.1 dX3_device_248 rfl (lv_at hl 3 rfl) ?_
      refine G_X3_r X hT Z dX3_device_249 ?_
      refine lv_bipush (v := 9) X.1 X.2.1 dX3_device_252 (by decide) ?_
      refine lv_iconst (v := 1) X.1 X.2.1 dX3_device_254 (by decide) ?_
      refine S_X3_r (j := 9) X Z (vin_c (by decide)) (by decide) dX3_device_255 (fun H locs Z => ?_)
      exact K_256 (upd j169_g 2 ((j169_g 2) + 1)) (va_up (va_up (va_up j183_mm 3 (shf (j183_mm 3) 0)) 3 (upd ((va_up j183_mm 3 (shf (j183_mm 3) 0)) 3) 0 (((va_up j183_mm 3 (shf (j183_mm 3) 0)) 1 0) - ((va_up j183_mm 3 (shf (j183_mm 3) 0)) 1 0) / 256 * 256))) 1 (upd ((va_up (va_up j183_mm 3 (shf (j183_mm 3) 0)) 3 (upd ((va_up j183_mm 3 (shf (j183_mm 3) 0)) 3) 0 (((va_up j183_mm 3 (shf (j183_mm 3) 0)) 1 0) - ((va_up j183_mm 3 (shf (j183_mm 3) 0)) 1 0) / 256 * 256))) 1) 9 1)) _ _ _ (if_pos c_186).symm (if_pos c_186).symm (lv_sub hl [1, 2, 3] rfl) Z
    · refine lv_iload_n X.1 X.2.1 dX3_device_189 rfl (lv_at hl 0 rfl) ?_
      refine lv_bipush (v := 38) X.1 X.2.1 dX3_device_190 (by decide) ?_
      refine lv_icmp_ne (tgt := 256) X.1 X.2.1 dX3_device_192 (by decide) (fun c_192 => ?_) (fun c_192 => ?_)
      · exact K_256 j169_g j183_mm _ _ _ ((if_neg c_186).trans (if_neg c_192)).symm ((if_neg c_186).trans (if_neg c_192)).symm (lv_sub hl [0, 2, 1] rfl) Z
      · refine lv_bipush (v := 63) X.1 X.2.1 dX3_device_195 (by decide) ?_
        refine lv_istore_n (lv' := [(3, .int 63), (2, .int (a1 - 3072)), (0, .ref (q 0)), (1, .int a1)]) X.1 X.2.1 dX3_device_197 rfl hl (by decide) rfl (fun ls hl => ?_)
        refine lp_X3_device X hT D cI q j169_g j183_mm a1 (a1 - 3072) (fun ls H locs hl Z => ?_) 63 (by decide) _ _ _ (lv_sub hl [0, 1, 3, 2] rfl) (by rw [shf_63]; exact Z)
        refine lv_aload_n X.1 X.2.1 dX3_device_222 rfl (lv_at hl 3 rfl) ?_
        refine G_X3_out X hT Z dX3_device_223 ?_
        refine lv_iconst (v := 0) X.1 X.2.1 dX3_device_226 (by decide) ?_
        refine lv_aload_n X.1 X.2.1 dX3_device_227 rfl (lv_at hl 3 rfl) ?_
        refine G_X3_r X hT Z dX3_device_228 ?_
        refine lv_iconst (v := 0) X.1 X.2.1 dX3_device_231 (by decide) ?_
        refine L_X3_r (j := 0) X Z (vin_c (by decide)) (by decide) dX3_device_232 ?_
        refine lv_sipush (v := 256) X.1 X.2.1 dX3_device_233 (by decide) ?_
        refine lv_irem X.1 X.2.1 dX3_device_236 (by decide) ?_
        refine S_X3_out (j := 0) X Z (vin_c (by decide)) (by decide) dX3_device_237 (fun H locs Z => ?_)
        refine lv_aload_n X.1 X.2.1 dX3_device_238 rfl (lv_at hl 3 rfl) ?_
        refine lv_dup X.1 X.2.1 dX3_device_239 rfl ?_
        refine G_X3_printed X hT Z dX3_device_240 ?_
        refine lv_iconst (v := 1) X.1 X.2.1 dX3_device_243 (by decide) ?_
        refine lv_iadd X.1 X.2.1 dX3_device_244 ?_
        refine P_X3_printed X hT Z dX3_device_245 (fun H locs Z => ?_)
        refine lv_aload_n X.1 X.2.1 dX3_device_248 rfl (lv_at hl 3 rfl) ?_
        refine G_X3_r X hT Z dX3_device_249 ?_
        refine lv_bipush (v := 9) X.1 X.2.1 dX3_device_252 (by decide) ?_
        refine lv_iconst (v := 1) X.1 X.2.1 dX3_device_254 (by decide) ?_
        refine S_X3_r (j := 9) X Z (vin_c (by decide)) (by decide) dX3_device_255 (fun H locs Z => ?_)
        exact K_256 (upd j169_g 2 ((j169_g 2) + 1)) (va_up (va_up (va_up j183_mm 3 (shf (j183_mm 3) 0)) 3 (upd ((va_up j183_mm 3 (shf (j183_mm 3) 0)) 3) 0 (((va_up j183_mm 3 (shf (j183_mm 3) 0)) 1 0) - ((va_up j183_mm 3 (shf (j183_mm 3) 0)) 1 0) / 256 * 256))) 1 (upd ((va_up (va_up j183_mm 3 (shf (j183_mm 3) 0)) 3 (upd ((va_up j183_mm 3 (shf (j183_mm 3) 0)) 3) 0 (((va_up j183_mm 3 (shf (j183_mm 3) 0)) 1 0) - ((va_up j183_mm 3 (shf (j183_mm 3) 0)) 1 0) / 256 * 256))) 1) 9 1)) _ _ _ ((if_neg c_186).trans (if_pos c_192)).symm ((if_neg c_186).trans (if_pos c_192)).symm (lv_sub hl [1, 2, 3] rfl) Z
  intro j256_g j256_mm ls H locs e_j256_g e_j256_mm hl Z
  exact hret _ _ _ _ _ Z (mw_eq (by subst e_j19_mm e_j39_mm e_j53_mm e_j74_g e_j74_mm e_j87_mm e_j113_mm e_j132_mm e_j148_g e_j148_mm e_j169_g e_j169_mm e_j183_mm e_j256_g e_j256_mm; exact rfl) (by subst e_j19_mm e_j39_mm e_j53_mm e_j74_g e_j74_mm e_j87_mm e_j113_mm e_j132_mm e_j148_g e_j148_mm e_j169_g e_j169_mm e_j183_mm e_j256_g e_j256_mm; exact rfl)) dX3_device_256
end
section
def uX3_first_j192_l5 (mm : Nat → Nat → Int32) (lf : Int32) : Int32 := if lf = 0 then ((((((mm 1 1) * 4096) + (mm 1 0)) / 2) + (((((mm 1 1) * 4096) + (mm 1 0)) - (((mm 1 1) * 4096) + (mm 1 0)) / 2 * 2) * 4096))) else (((((((mm 1 1) * 4096) + (mm 1 0)) * 2) - ((((mm 1 1) * 4096) + (mm 1 0)) * 2) / 8192 * 8192) + ((((mm 1 1) * 4096) + (mm 1 0)) / 4096)))
def tnX3 (lf : Int32) (mm : Nat → Nat → Int32) : Nat → Nat → Int32 := let j192_l5 : Int32 := uX3_first_j192_l5 mm lf; (va_up (va_up mm 1 (upd (mm 1) 1 (j192_l5 / 4096))) 1 (upd ((va_up mm 1 (upd (mm 1) 1 (j192_l5 / 4096))) 1) 0 (j192_l5 - j192_l5 / 4096 * 4096)))
def tnN (lf : Int32) : Nat → (Nat → Nat → Int32) → (Nat → Nat → Int32)
  | 0, mm => mm
  | d + 1, mm => tnN lf d (tnX3 lf mm)
set_option maxRecDepth 20000 in
set_option maxHeartbeats 4000000 in
theorem lp_X3_first {p : Program} {l : Launch} {e : Env} {R : Room} {s : State} {m : MethodId} {args : Array Value} {below : List Frame} {meth : Method} {c : Code} {A : Nat → Prop} {Q : State → Prop} {Ts : List Cond} (X : CallFix p m c cX3_first 6 s args Ts RX3) (hT : ∀ w ∈ TB, w ∈ Ts) (D : va_G) (cI : ClassId) (q : Nat → Nat) (g : Nat → Int32) (a1 lf : Int32) (t : Nat) (ht : t < 1000) :
    ∀ (d i : Nat) (mm : Nat → Nat → Int32), i + d = t → ∀ (ls : Array Slot) (H : Heap) (locs : List Loc), lv_has ls 6 [(4, .int (nI i)), (3, .int (nI t)), (2, .int lf), (1, .int a1), (0, .ref (q 0))] → ZZ D cI (mw q cI g mm) A s H locs →
    (∀ (ls : Array Slot) (H : Heap) (locs : List Loc), ZZ D cI (mw q cI g (tnN lf d mm)) A s H locs → W p l e R s m args below meth c H locs 0 0 Q (F0 m 222 ls [])) → W p l e R s m args below meth c H locs 0 0 Q (F0 m 128 ls []) := by
  intro d
  induction d with
  | zero =>
    intro i mm hi ls H locs hl Z K
    refine lv_iload X.1 X.2.1 dX3_first_128 (lv_at hl 0 rfl) ?_
    refine lv_iload_n X.1 X.2.1 dX3_first_130 rfl (lv_at hl 1 rfl) ?_
    refine lv_icmp_ge (tgt := 222) X.1 X.2.1 dX3_first_131 (by decide) (fun _ => ?_) (fun c_1 => absurd (nI_le (by omega) (by omega)) c_1)
    exact K ls H locs Z
  | succ d ih =>
    intro i mm hi ls H locs hl Z K
    refine lv_iload X.1 X.2.1 dX3_first_128 (lv_at hl 0 rfl) ?_
    refine lv_iload_n X.1 X.2.1 dX3_first_130 rfl (lv_at hl 1 rfl) ?_
    refine lv_icmp_ge (tgt := 222) X.1 X.2.1 dX3_first_131 (by decide) (fun c_1 => absurd c_1 (nI_ge (by omega) (by omega))) (fun _ => ?_)
    refine lv_aload_n X.1 X.2.1 dX3_first_134 rfl (lv_at hl 4 rfl) ?_
    refine G_X3_r X hT Z dX3_first_135 ?_
    refine lv_iconst (v := 1) X.1 X.2.1 dX3_first_138 (by decide) ?_
    refine L_X3_r (j := 1) X Z (vin_c (by decide)) (by decide) dX3_first_139 ?_
    refine lv_sipush (v := 4096) X.1 X.2.1 dX3_first_140 (by decide) ?_
    refine lv_imul X.1 X.2.1 dX3_first_143 ?_
    refine lv_aload_n X.1 X.2.1 dX3_first_144 rfl (lv_at hl 4 rfl) ?_
    refine G_X3_r X hT Z dX3_first_145 ?_
    refine lv_iconst (v := 0) X.1 X.2.1 dX3_first_148 (by decide) ?_
    refine L_X3_r (j := 0) X Z (vin_c (by decide)) (by decide) dX3_first_149 ?_
    refine lv_iadd X.1 X.2.1 dX3_first_150 ?_
    refine lv_istore (lv' := [(5, .int (((mm 1 1) * 4096) + (mm 1 0))), (4, .int (nI i)), (3, .int (nI t)), (2, .int lf), (1, .int a1), (0, .ref (q 0))]) X.1 X.2.1 dX3_first_151 hl (by decide) rfl (fun ls hl => ?_)
    refine lv_iload_n X.1 X.2.1 dX3_first_153 rfl (lv_at hl 3 rfl) ?_
    suffices K_192 : ∀ (j192_l5 : Int32) (ls : Array Slot) (H : Heap) (locs : List Loc), j192_l5 = uX3_first_j192_l5 mm lf → lv_has ls 6 [(5, .int j192_l5), (4, .int (nI i)), (3, .int (nI t)), (2, .int lf), (1, .int a1), (0, .ref (q 0))] → ZZ D cI (mw q cI g mm) A s H locs → W p l e R s m args below meth c H locs 0 0 Q (F0 m 192 ls []) by
      refine lv_if_eq (tgt := 177) X.1 X.2.1 dX3_first_154 (by decide) (fun c_154 => ?_) (fun c_154 => ?_)
      · refine lv_iload X.1 X.2.1 dX3_first_177 (lv_at hl 0 rfl) ?_
        refine lv_iconst (v := 2) X.1 X.2.1 dX3_first_179 (by decide) ?_
        refine lv_idiv X.1 X.2.1 dX3_first_180 (by decide) ?_
        refine lv_iload X.1 X.2.1 dX3_first_181 (lv_at hl 0 rfl) ?_
        refine lv_iconst (v := 2) X.1 X.2.1 dX3_first_183 (by decide) ?_
        refine lv_irem X.1 X.2.1 dX3_first_184 (by decide) ?_
        refine lv_sipush (v := 4096) X.1 X.2.1 dX3_first_185 (by decide) ?_
        refine lv_imul X.1 X.2.1 dX3_first_188 ?_
        refine lv_iadd X.1 X.2.1 dX3_first_189 ?_
        refine lv_istore (lv' := [(5, .int (((((mm 1 1) * 4096) + (mm 1 0)) / 2) + (((((mm 1 1) * 4096) + (mm 1 0)) - (((mm 1 1) * 4096) + (mm 1 0)) / 2 * 2) * 4096))), (4, .int (nI i)), (3, .int (nI t)), (2, .int lf), (1, .int a1), (0, .ref (q 0))]) X.1 X.2.1 dX3_first_190 hl (by decide) rfl (fun ls hl => ?_)
        exact K_192 (((((mm 1 1) * 4096) + (mm 1 0)) / 2) + (((((mm 1 1) * 4096) + (mm 1 0)) - (((mm 1 1) * 4096) + (mm 1 0)) / 2 * 2) * 4096)) _ _ _ (if_pos c_154).symm (lv_sub hl [0, 1, 2, 3, 4, 5] rfl) Z
      · refine lv_iload X.1 X.2.1 dX3_first_157 (lv_at hl 0 rfl) ?_
        refine lv_iconst (v := 2) X.1 X.2.1 dX3_first_159 (by decide) ?_
        refine lv_imul X.1 X.2.1 dX3_first_160 ?_
        refine lv_sipush (v := 8192) X.1 X.2.1 dX3_first_161 (by decide) ?_
        refine lv_irem X.1 X.2.1 dX3_first_164 (by decide) ?_
        refine lv_iload X.1 X.2.1 dX3_first_165 (lv_at hl 0 rfl) ?_
        refine lv_sipush (v := 4096) X.1 X.2.1 dX3_first_167 (by decide) ?_
        refine lv_idiv X.1 X.2.1 dX3_first_170 (by decide) ?_
        refine lv_iadd X.1 X.2.1 dX3_first_171 ?_
        refine lv_istore (lv' := [(5, .int ((((((mm 1 1) * 4096) + (mm 1 0)) * 2) - ((((mm 1 1) * 4096) + (mm 1 0)) * 2) / 8192 * 8192) + ((((mm 1 1) * 4096) + (mm 1 0)) / 4096))), (4, .int (nI i)), (3, .int (nI t)), (2, .int lf), (1, .int a1), (0, .ref (q 0))]) X.1 X.2.1 dX3_first_172 hl (by decide) rfl (fun ls hl => ?_)
        refine lv_goto (tgt := 192) X.1 X.2.1 dX3_first_174 (by decide) ?_
        exact K_192 ((((((mm 1 1) * 4096) + (mm 1 0)) * 2) - ((((mm 1 1) * 4096) + (mm 1 0)) * 2) / 8192 * 8192) + ((((mm 1 1) * 4096) + (mm 1 0)) / 4096)) _ _ _ (if_neg c_154).symm (lv_sub hl [0, 1, 2, 3, 4, 5] rfl) Z
    intro j192_l5 ls H locs e_j192_l5 hl Z
    refine lv_aload_n X.1 X.2.1 dX3_first_192 rfl (lv_at hl 5 rfl) ?_
    refine G_X3_r X hT Z dX3_first_193 ?_
    refine lv_iconst (v := 1) X.1 X.2.1 dX3_first_196 (by decide) ?_
    refine lv_iload X.1 X.2.1 dX3_first_197 (lv_at hl 0 rfl) ?_
    refine lv_sipush (v := 4096) X.1 X.2.1 dX3_first_199 (by decide) ?_
    refine lv_idiv X.1 X.2.1 dX3_first_202 (by decide) ?_
    refine S_X3_r (j := 1) X Z (vin_c (by decide)) (by decide) dX3_first_203 (fun H locs Z => ?_)
    refine lv_aload_n X.1 X.2.1 dX3_first_204 rfl (lv_at hl 5 rfl) ?_
    refine G_X3_r X hT Z dX3_first_205 ?_
    refine lv_iconst (v := 0) X.1 X.2.1 dX3_first_208 (by decide) ?_
    refine lv_iload X.1 X.2.1 dX3_first_209 (lv_at hl 0 rfl) ?_
    refine lv_sipush (v := 4096) X.1 X.2.1 dX3_first_211 (by decide) ?_
    refine lv_irem X.1 X.2.1 dX3_first_214 (by decide) ?_
    refine S_X3_r (j := 0) X Z (vin_c (by decide)) (by decide) dX3_first_215 (fun H locs Z => ?_)
    refine lv_iinc (v := ((nI i) + 1)) (lv' := [(4, .int ((nI i) + 1)), (5, .int j192_l5), (3, .int (nI t)), (2, .int lf), (1, .int a1), (0, .ref (q 0))]) X.1 X.2.1 dX3_first_216 hl (k := 1) rfl (congrArg (fun z => (nI i) + z) (by decide)) (by decide) rfl (fun ls hl => ?_)
    refine lv_goto (tgt := 128) X.1 X.2.1 dX3_first_219 (by decide) ?_
    have hl := lv_sub (l' := [(4, .int (nI i + 1)), (3, .int (nI t)), (2, .int lf), (1, .int a1), (0, .ref (q 0))]) hl [0, 2, 3, 4, 5] rfl
    rw [nI_1] at hl
    refine ih (i + 1) (tnX3 lf mm) (by omega) ls H locs hl ?_ K
    subst e_j192_l5
    exact Z
def tF (a1 : Int32) : Nat := if rX3_has a1 2 = 0 then 1 else 2
def uX3_first_j17_mm (mm : Nat → Nat → Int32) (a1 : Int32) : Nat → Nat → Int32 := if (rX3_has a1 128) = 0 then (mm) else ((va_up mm 1 (upd (mm 1) 0 0)))
def uX3_first_j33_mm (a1 : Int32) (j17_mm : Nat → Nat → Int32) : Nat → Nat → Int32 := if (rX3_has a1 64) = 0 then (j17_mm) else ((va_up j17_mm 1 (upd (j17_mm 1) 1 0)))
def uX3_first_j58_mm (a1 : Int32) (j33_mm : Nat → Nat → Int32) : Nat → Nat → Int32 := if (rX3_has a1 32) = 0 then (j33_mm) else ((va_up j33_mm 1 (upd (j33_mm 1) 0 (4095 - (j33_mm 1 0)))))
def uX3_first_j81_mm (a1 : Int32) (j58_mm : Nat → Nat → Int32) : Nat → Nat → Int32 := if (rX3_has a1 16) = 0 then (j58_mm) else ((va_up j58_mm 1 (upd (j58_mm 1) 1 (1 - (j58_mm 1 1)))))
def uX3_first_j94_mm (g : Nat → Int32) (a1 : Int32) (j81_mm : Nat → Nat → Int32) : Nat → Nat → Int32 := if (rX3_has a1 1) = 0 then (j81_mm) else ((mX3_add g j81_mm 1))
def uX3_first_j124_s0 (a1 : Int32) : Int32 := if (rX3_has a1 2) = 0 then (1) else (2)
def mX3_first (g : Nat → Int32) (mm : Nat → Nat → Int32) (a1 : Int32) : Nat → Nat → Int32 := let j17_mm : Nat → Nat → Int32 := uX3_first_j17_mm mm a1; let j33_mm : Nat → Nat → Int32 := uX3_first_j33_mm a1 j17_mm; let j58_mm : Nat → Nat → Int32 := uX3_first_j58_mm a1 j33_mm; let j81_mm : Nat → Nat → Int32 := uX3_first_j81_mm a1 j58_mm; let j94_mm : Nat → Nat → Int32 := uX3_first_j94_mm g a1 j81_mm; if (rX3_has a1 4) = (rX3_has a1 8) then (j94_mm) else ((tnN (rX3_has a1 4) (tF a1) j94_mm))
set_option maxRecDepth 20000 in
set_option maxHeartbeats 4000000 in
theorem c_X3_first (l : Launch) (D : va_G) (cI : ClassId) (q : Nat → Nat) (g : Nat → Int32) (mm : Nat → Nat → Int32) (a1 : Int32)  : MI l D cI yX3_first (.code yX3_first cX3_first 6 none) ({ frames := 1, cells := 0, slots := 0, locals := 22 } : Room) [.ref (q 0), .int a1] (mw q cI g mm) (mw q cI g (mX3_first g mm a1)) none := by
  refine MI.ofV (own := RX3) (by decide) rfl (Nat.le_of_ble_eq_true rfl) ?_
  intro p e s m args below meth c A ls Q X Z hl hret
  have hT : ∀ w ∈ TB, w ∈ (Cond.code yX3_first cX3_first 6 none :: TB) := fun _ h => List.mem_cons_of_mem _ h
  have hl : lv_has ls 6 [(0, .ref (q 0)), (1, .int a1)] := hl
  refine lv_iload_n X.1 X.2.1 dX3_first_0 rfl (lv_at hl 1 rfl) ?_
  refine lv_sipush (v := 128) X.1 X.2.1 dX3_first_1 (by decide) ?_
  refine call_Si X hT Z k_X3_57 (c_X3_has l D cI (mw q cI g mm) a1 128 (by decide)) hd_X3_has ⟨by decide, by decide⟩ ⟨rfl, rfl⟩ hl.1 (rest := []) rfl (Nat.le_of_ble_eq_true rfl) ⟨by decide, by decide⟩ dX3_first_4 (fun H locs Z => ?_)
  suffices K_17 : ∀ (j17_mm : Nat → Nat → Int32) (ls : Array Slot) (H : Heap) (locs : List Loc), j17_mm = uX3_first_j17_mm mm a1 → lv_has ls 6 [(0, .ref (q 0)), (1, .int a1)] → ZZ D cI (mw q cI g j17_mm) A s H locs → W p l e ({ frames := 1, cells := 0, slots := 0, locals := 22 } : Room) s m args below meth c H locs 0 0 Q (F0 m 17 ls []) by
    refine lv_if_eq (tgt := 17) X.1 X.2.1 dX3_first_7 (by decide) (fun c_7 => ?_) (fun c_7 => ?_)
    · exact K_17 mm _ _ _ (if_pos c_7).symm (lv_sub hl [0, 1] rfl) Z
    · refine lv_aload_n X.1 X.2.1 dX3_first_10 rfl (lv_at hl 0 rfl) ?_
      refine G_X3_r X hT Z dX3_first_11 ?_
      refine lv_iconst (v := 0) X.1 X.2.1 dX3_first_14 (by decide) ?_
      refine lv_iconst (v := 0) X.1 X.2.1 dX3_first_15 (by decide) ?_
      refine S_X3_r (j := 0) X Z (vin_c (by decide)) (by decide) dX3_first_16 (fun H locs Z => ?_)
      exact K_17 (va_up mm 1 (upd (mm 1) 0 0)) _ _ _ (if_neg c_7).symm (lv_sub hl [0, 1] rfl) Z
  intro j17_mm ls H locs e_j17_mm hl Z
  refine lv_iload_n X.1 X.2.1 dX3_first_17 rfl (lv_at hl 1 rfl) ?_
  refine lv_bipush (v := 64) X.1 X.2.1 dX3_first_18 (by decide) ?_
  refine call_Si X hT Z k_X3_57 (c_X3_has l D cI (mw q cI g j17_mm) a1 64 (by decide)) hd_X3_has ⟨by decide, by decide⟩ ⟨rfl, rfl⟩ hl.1 (rest := []) rfl (Nat.le_of_ble_eq_true rfl) ⟨by decide, by decide⟩ dX3_first_20 (fun H locs Z => ?_)
  suffices K_33 : ∀ (j33_mm : Nat → Nat → Int32) (ls : Array Slot) (H : Heap) (locs : List Loc), j33_mm = uX3_first_j33_mm a1 j17_mm → lv_has ls 6 [(0, .ref (q 0)), (1, .int a1)] → ZZ D cI (mw q cI g j33_mm) A s H locs → W p l e ({ frames := 1, cells := 0, slots := 0, locals := 22 } : Room) s m args below meth c H locs 0 0 Q (F0 m 33 ls []) by
    refine lv_if_eq (tgt := 33) X.1 X.2.1 dX3_first_23 (by decide) (fun c_23 => ?_) (fun c_23 => ?_)
    · exact K_33 j17_mm _ _ _ (if_pos c_23).symm (lv_sub hl [0, 1] rfl) Z
    · refine lv_aload_n X.1 X.2.1 dX3_first_26 rfl (lv_at hl 0 rfl) ?_
      refine G_X3_r X hT Z dX3_first_27 ?_
      refine lv_iconst (v := 1) X.1 X.2.1 dX3_first_30 (by decide) ?_
      refine lv_iconst (v := 0) X.1 X.2.1 dX3_first_31 (by decide) ?_
      refine S_X3_r (j := 1) X Z (vin_c (by decide)) (by decide) dX3_first_32 (fun H locs Z => ?_)
      exact K_33 (va_up j17_mm 1 (upd (j17_mm 1) 1 0)) _ _ _ (if_neg c_23).symm (lv_sub hl [0, 1] rfl) Z
  intro j33_mm ls H locs e_j33_mm hl Z
  refine lv_iload_n X.1 X.2.1 dX3_first_33 rfl (lv_at hl 1 rfl) ?_
  refine lv_bipush (v := 32) X.1 X.2.1 dX3_first_34 (by decide) ?_
  refine call_Si X hT Z k_X3_57 (c_X3_has l D cI (mw q cI g j33_mm) a1 32 (by decide)) hd_X3_has ⟨by decide, by decide⟩ ⟨rfl, rfl⟩ hl.1 (rest := []) rfl (Nat.le_of_ble_eq_true rfl) ⟨by decide, by decide⟩ dX3_first_36 (fun H locs Z => ?_)
  suffices K_58 : ∀ (j58_mm : Nat → Nat → Int32) (ls : Array Slot) (H : Heap) (locs : List Loc), j58_mm = uX3_first_j58_mm a1 j33_mm → lv_has ls 6 [(0, .ref (q 0)), (1, .int a1)] → ZZ D cI (mw q cI g j58_mm) A s H locs → W p l e ({ frames := 1, cells := 0, slots := 0, locals := 22 } : Room) s m args below meth c H locs 0 0 Q (F0 m 58 ls []) by
    refine lv_if_eq (tgt := 58) X.1 X.2.1 dX3_first_39 (by decide) (fun c_39 => ?_) (fun c_39 => ?_)
    · exact K_58 j33_mm _ _ _ (if_pos c_39).symm (lv_sub hl [0, 1] rfl) Z
    · refine lv_aload_n X.1 X.2.1 dX3_first_42 rfl (lv_at hl 0 rfl) ?_
      refine G_X3_r X hT Z dX3_first_43 ?_
      refine lv_iconst (v := 0) X.1 X.2.1 dX3_first_46 (by decide) ?_
      refine lv_sipush (v := 4095) X.1 X.2.1 dX3_first_47 (by decide) ?_
      refine lv_aload_n X.1 X.2.1 dX3_first_50 rfl (lv_at hl 0 rfl) ?_
      refine G_X3_r X hT Z dX3_first_51 ?_
      refine lv_iconst (v := 0) X.1 X.2.1 dX3_first_54 (by decide) ?_
      refine L_X3_r (j := 0) X Z (vin_c (by decide)) (by decide) dX3_first_55 ?_
      refine lv_isub X.1 X.2.1 dX3_first_56 ?_
      refine S_X3_r (j := 0) X Z (vin_c (by decide)) (by decide) dX3_first_57 (fun H locs Z => ?_)
      exact K_58 (va_up j33_mm 1 (upd (j33_mm 1) 0 (4095 - (j33_mm 1 0)))) _ _ _ (if_neg c_39).symm (lv_sub hl [0, 1] rfl) Z
  intro j58_mm ls H locs e_j58_mm hl Z
  refine lv_iload_n X.1 X.2.1 dX3_first_58 rfl (lv_at hl 1 rfl) ?_
  refine lv_bipush (v := 16) X.1 X.2.1 dX3_first_59 (by decide) ?_
  refine call_Si X hT Z k_X3_57 (c_X3_has l D cI (mw q cI g j58_mm) a1 16 (by decide)) hd_X3_has ⟨by decide, by decide⟩ ⟨rfl, rfl⟩ hl.1 (rest := []) rfl (Nat.le_of_ble_eq_true rfl) ⟨by decide, by decide⟩ dX3_first_61 (fun H locs Z => ?_)
  suffices K_81 : ∀ (j81_mm : Nat → Nat → Int32) (ls : Array Slot) (H : Heap) (locs : List Loc), j81_mm = uX3_first_j81_mm a1 j58_mm → lv_has ls 6 [(0, .ref (q 0)), (1, .int a1)] → ZZ D cI (mw q cI g j81_mm) A s H locs → W p l e ({ frames := 1, cells := 0, slots := 0, locals := 22 } : Room) s m args below meth c H locs 0 0 Q (F0 m 81 ls []) by
    refine lv_if_eq (tgt := 81) X.1 X.2.1 dX3_first_64 (by decide) (fun c_64 => ?_) (fun c_64 => ?_)
    · exact K_81 j58_mm _ _ _ (if_pos c_64).symm (lv_sub hl [0, 1] rfl) Z
    · refine lv_aload_n X.1 X.2.1 dX3_first_67 rfl (lv_at hl 0 rfl) ?_
      refine G_X3_r X hT Z dX3_first_68 ?_
      refine lv_iconst (v := 1) X.1 X.2.1 dX3_first_71 (by decide) ?_
      refine lv_iconst (v := 1) X.1 X.2.1 dX3_first_72 (by decide) ?_
      refine lv_aload_n X.1 X.2.1 dX3_first_73 rfl (lv_at hl 0 rfl) ?_
      refine G_X3_r X hT Z dX3_first_74 ?_
      refine lv_iconst (v := 1) X.1 X.2.1 dX3_first_77 (by decide) ?_
      refine L_X3_r (j := 1) X Z (vin_c (by decide)) (by decide) dX3_first_78 ?_
      refine lv_isub X.1 X.2.1 dX3_first_79 ?_
      refine S_X3_r (j := 1) X Z (vin_c (by decide)) (by decide) dX3_first_80 (fun H locs Z => ?_)
      exact K_81 (va_up j58_mm 1 (upd (j58_mm 1) 1 (1 - (j58_mm 1 1)))) _ _ _ (if_neg c_64).symm (lv_sub hl [0, 1] rfl) Z
  intro j81_mm ls H locs e_j81_mm hl Z
  refine lv_iload_n X.1 X.2.1 dX3_first_81 rfl (lv_at hl 1 rfl) ?_
  refine lv_iconst (v := 1) X.1 X.2.1 dX3_first_82 (by decide) ?_
  refine call_Si X hT Z k_X3_57 (c_X3_has l D cI (mw q cI g j81_mm) a1 1 (by decide)) hd_X3_has ⟨by decide, by decide⟩ ⟨rfl, rfl⟩ hl.1 (rest := []) rfl (Nat.le_of_ble_eq_true rfl) ⟨by decide, by decide⟩ dX3_first_83 (fun H locs Z => ?_)
  suffices K_94 : ∀ (j94_mm : Nat → Nat → Int32) (ls : Array Slot) (H : Heap) (locs : List Loc), j94_mm = uX3_first_j94_mm g a1 j81_mm → lv_has ls 6 [(0, .ref (q 0)), (1, .int a1)] → ZZ D cI (mw q cI g j94_mm) A s H locs → W p l e ({ frames := 1, cells := 0, slots := 0, locals := 22 } : Room) s m args below meth c H locs 0 0 Q (F0 m 94 ls []) by
    refine lv_if_eq (tgt := 94) X.1 X.2.1 dX3_first_86 (by decide) (fun c_86 => ?_) (fun c_86 => ?_)
    · exact K_94 j81_mm _ _ _ (if_pos c_86).symm (lv_sub hl [0, 1] rfl) Z
    · refine lv_aload_n X.1 X.2.1 dX3_first_89 rfl (lv_at hl 0 rfl) ?_
      refine lv_iconst (v := 1) X.1 X.2.1 dX3_first_90 (by decide) ?_
      refine call_Vv X hT Z (qq := (RX3, TX3, 11)) k_X3_70 (c_X3_add l D cI q g j81_mm 1 ) rfl rfl hd_X3_add ⟨by decide, by decide⟩ ⟨rfl, rfl⟩ hl.1 (rest := []) rfl (Nat.le_of_ble_eq_true rfl) ⟨by decide, by decide⟩ dX3_first_91 (fun H locs Z => ?_)
      exact K_94 (mX3_add g j81_mm 1) _ _ _ (if_neg c_86).symm (lv_sub hl [0, 1] rfl) Z
  intro j94_mm ls H locs e_j94_mm hl Z
  refine lv_iload_n X.1 X.2.1 dX3_first_94 rfl (lv_at hl 1 rfl) ?_
  refine lv_iconst (v := 4) X.1 X.2.1 dX3_first_95 (by decide) ?_
  refine call_Si X hT Z k_X3_57 (c_X3_has l D cI (mw q cI g j94_mm) a1 4 (by decide)) hd_X3_has ⟨by decide, by decide⟩ ⟨rfl, rfl⟩ hl.1 (rest := []) rfl (Nat.le_of_ble_eq_true rfl) ⟨by decide, by decide⟩ dX3_first_96 (fun H locs Z => ?_)
  refine lv_istore_n (lv' := [(2, .int (rX3_has a1 4)), (0, .ref (q 0)), (1, .int a1)]) X.1 X.2.1 dX3_first_99 rfl hl (by decide) rfl (fun ls hl => ?_)
  refine lv_iload_n X.1 X.2.1 dX3_first_100 rfl (lv_at hl 0 rfl) ?_
  refine lv_iload_n X.1 X.2.1 dX3_first_101 rfl (lv_at hl 2 rfl) ?_
  refine lv_bipush (v := 8) X.1 X.2.1 dX3_first_102 (by decide) ?_
  refine call_Si X hT Z k_X3_57 (c_X3_has l D cI (mw q cI g j94_mm) a1 8 (by decide)) hd_X3_has ⟨by decide, by decide⟩ ⟨rfl, rfl⟩ hl.1 (rest := [.int (rX3_has a1 4)]) rfl (Nat.le_of_ble_eq_true rfl) ⟨by decide, by decide⟩ dX3_first_104 (fun H locs Z => ?_)
  refine lv_icmp_ne (tgt := 111) X.1 X.2.1 dX3_first_107 (by decide) (fun c_107 => ?_) (fun c_107 => ?_)
  · refine lv_iload_n X.1 X.2.1 dX3_first_111 rfl (lv_at hl 2 rfl) ?_
    refine lv_iconst (v := 2) X.1 X.2.1 dX3_first_112 (by decide) ?_
    refine call_Si X hT Z k_X3_57 (c_X3_has l D cI (mw q cI g j94_mm) a1 2 (by decide)) hd_X3_has ⟨by decide, by decide⟩ ⟨rfl, rfl⟩ hl.1 (rest := []) rfl (Nat.le_of_ble_eq_true rfl) ⟨by decide, by decide⟩ dX3_first_113 (fun H locs Z => ?_)
    suffices K_124 : ∀ (j124_s0 : Int32) (ls : Array Slot) (H : Heap) (locs : List Loc), j124_s0 = uX3_first_j124_s0 a1 → lv_has ls 6 [(2, .int (rX3_has a1 4)), (0, .ref (q 0)), (1, .int a1)] → ZZ D cI (mw q cI g j94_mm) A s H locs → W p l e ({ frames := 1, cells := 0, slots := 0, locals := 22 } : Room) s m args below meth c H locs 0 0 Q (F0 m 124 ls [.int j124_s0]) by
      refine lv_if_eq (tgt := 123) X.1 X.2.1 dX3_first_116 (by decide) (fun c_116 => ?_) (fun c_116 => ?_)
      · refine lv_iconst (v := 1) X.1 X.2.1 dX3_first_123 (by decide) ?_
        exact K_124 1 _ _ _ (if_pos c_116).symm (lv_sub hl [0, 1, 2] rfl) Z
      · refine lv_iconst (v := 2) X.1 X.2.1 dX3_first_119 (by decide) ?_
        refine lv_goto (tgt := 124) X.1 X.2.1 dX3_first_120 (by decide) ?_
        exact K_124 2 _ _ _ (if_neg c_116).symm (lv_sub hl [0, 1, 2] rfl) Z
    intro j124_s0 ls H locs e_j124_s0 hl Z
    refine lv_istore_n (lv' := [(3, .int j124_s0), (2, .int (rX3_has a1 4)), (0, .ref (q 0)), (1, .int a1)]) X.1 X.2.1 dX3_first_124 rfl hl (by decide) rfl (fun ls hl => ?_)
    refine lv_iconst (v := 0) X.1 X.2.1 dX3_first_125 (by decide) ?_
    refine lv_istore (lv' := [(4, .int 0), (3, .int j124_s0), (2, .int (rX3_has a1 4)), (0, .ref (q 0)), (1, .int a1)]) X.1 X.2.1 dX3_first_126 hl (by decide) rfl (fun ls hl => ?_)
    have ht : j124_s0 = nI (tF a1) := by
      subst e_j124_s0
      unfold uX3_first_j124_s0 tF
      split <;> rfl
    rw [ht] at hl
    refine lp_X3_first X hT D cI q g a1 (rX3_has a1 4) (tF a1) (by unfold tF; split <;> decide) (tF a1) 0 j94_mm (by omega) _ _ _ (lv_sub hl [0, 1, 2, 4, 3] rfl) Z (fun ls H locs Z => ?_)
    exact hret _ _ _ _ _ Z (mw_eq rfl (by subst e_j17_mm e_j33_mm e_j58_mm e_j81_mm e_j94_mm e_j124_s0; exact (if_neg c_107).symm)) dX3_first_222
  · exact hret _ _ _ _ _ Z (mw_eq rfl (by subst e_j17_mm e_j33_mm e_j58_mm e_j81_mm e_j94_mm; exact (if_pos c_107).symm)) dX3_first_110
end
section
def uX3_step_j64_g (g : Nat → Int32) (mm : Nat → Nat → Int32) : Nat → Int32 := if (mm 1 5) = 1 then (if ((mm 1 7) + (mm 1 9)) ≤ (0 : Int32) then (g) else ((upd g 4 ((g 4) + 1)))) else (g)
def uX3_step_j64_mm (mm : Nat → Nat → Int32) : Nat → Nat → Int32 := if (mm 1 5) = 1 then (if ((mm 1 7) + (mm 1 9)) ≤ (0 : Int32) then (mm) else ((va_up (va_up (va_up mm 0 (upd (mm 0) 0 (mm 1 2))) 1 (upd ((va_up mm 0 (upd (mm 0) 0 (mm 1 2))) 1) 2 1)) 1 (upd ((va_up (va_up mm 0 (upd (mm 0) 0 (mm 1 2))) 1 (upd ((va_up mm 0 (upd (mm 0) 0 (mm 1 2))) 1) 2 1)) 1) 5 0)))) else (mm)
def uX3_step_j90_mm (j64_mm : Nat → Nat → Int32) : Nat → Nat → Int32 := if (j64_mm 1 6) = 1 then ((va_up (va_up j64_mm 1 (upd (j64_mm 1) 6 0)) 1 (upd ((va_up j64_mm 1 (upd (j64_mm 1) 6 0)) 1) 5 1))) else (j64_mm)
def uX3_step_n158_g (j64_g : Nat → Int32) : Nat → Int32 := (upd j64_g 3 ((j64_g 3) + 1))
def uX3_step_n158_mm (j90_mm : Nat → Nat → Int32) : Nat → Nat → Int32 := (va_up (va_up (va_up j90_mm 1 (upd (j90_mm 1) 2 (rX3_after (j90_mm 1 2)))) 4 (shf ((va_up j90_mm 1 (upd (j90_mm 1) 2 (rX3_after (j90_mm 1 2)))) 4) 0)) 4 (upd ((va_up (va_up j90_mm 1 (upd (j90_mm 1) 2 (rX3_after (j90_mm 1 2)))) 4 (shf ((va_up j90_mm 1 (upd (j90_mm 1) 2 (rX3_after (j90_mm 1 2)))) 4) 0)) 4) 0 (j90_mm 1 2)))
def uX3_step_n158_l1 (j90_mm : Nat → Nat → Int32) : Int32 := (j90_mm 1 2)
def uX3_step_n158_l2 (j90_mm : Nat → Nat → Int32) : Int32 := (j90_mm 0 ((j90_mm 1 2).toNatClampNeg))
def uX3_step_j241_g (n158_g : Nat → Int32) (n158_mm : Nat → Nat → Int32) (n158_l1 : Int32) (n158_l2 : Int32) : Nat → Int32 := if (6 : Int32) ≤ (n158_l2 / 512) then (if (n158_l2 / 512) = 6 then ((gX3_device n158_g n158_mm n158_l2)) else (if (rX3_has n158_l2 256) = 0 then (n158_g) else (if (rX3_has n158_l2 1) = 0 then ((gX3_second n158_g n158_mm n158_l2)) else (n158_g)))) else ((gX3_reference n158_g (mX3_place n158_g n158_mm n158_l2 n158_l1) (n158_l2 / 512) (rX3_place n158_g n158_mm n158_l2 n158_l1)))
def uX3_step_j241_mm (n158_g : Nat → Int32) (n158_mm : Nat → Nat → Int32) (n158_l1 : Int32) (n158_l2 : Int32) : Nat → Nat → Int32 := if (6 : Int32) ≤ (n158_l2 / 512) then (if (n158_l2 / 512) = 6 then ((mX3_device n158_g n158_mm n158_l2)) else (if (rX3_has n158_l2 256) = 0 then ((mX3_first n158_g n158_mm n158_l2)) else (if (rX3_has n158_l2 1) = 0 then ((mX3_second n158_g n158_mm n158_l2)) else ((mX3_third n158_g n158_mm n158_l2))))) else ((mX3_reference n158_g (mX3_place n158_g n158_mm n158_l2 n158_l1) (n158_l2 / 512) (rX3_place n158_g n158_mm n158_l2 n158_l1)))
def gX3_step (g : Nat → Int32) (mm : Nat → Nat → Int32)  : Nat → Int32 := let j64_g : Nat → Int32 := uX3_step_j64_g g mm; let j64_mm : Nat → Nat → Int32 := uX3_step_j64_mm mm; let j90_mm : Nat → Nat → Int32 := uX3_step_j90_mm j64_mm; let n158_g : Nat → Int32 := uX3_step_n158_g j64_g; let n158_mm : Nat → Nat → Int32 := uX3_step_n158_mm j90_mm; let n158_l1 : Int32 := uX3_step_n158_l1 j90_mm; let n158_l2 : Int32 := uX3_step_n158_l2 j90_mm; let j241_g : Nat → Int32 := uX3_step_j241_g n158_g n158_mm n158_l1 n158_l2; j241_g
def mX3_step (g : Nat → Int32) (mm : Nat → Nat → Int32)  : Nat → Nat → Int32 := let j64_g : Nat → Int32 := uX3_step_j64_g g mm; let j64_mm : Nat → Nat → Int32 := uX3_step_j64_mm mm; let j90_mm : Nat → Nat → Int32 := uX3_step_j90_mm j64_mm; let n158_g : Nat → Int32 := uX3_step_n158_g j64_g; let n158_mm : Nat → Nat → Int32 := uX3_step_n158_mm j90_mm; let n158_l1 : Int32 := uX3_step_n158_l1 j90_mm; let n158_l2 : Int32 := uX3_step_n158_l2 j90_mm; let j241_mm : Nat → Nat → Int32 := uX3_step_j241_mm n158_g n158_mm n158_l1 n158_l2; j241_mm
def sJ (mm : Nat → Nat → Int32) : Nat → Nat → Int32 := uX3_step_j90_mm (uX3_step_j64_mm mm)
def sH (mm : Nat → Nat → Int32) : Int32 := uX3_step_n158_l1 (sJ mm)
def sW (mm : Nat → Nat → Int32) : Int32 := uX3_step_n158_l2 (sJ mm)
def sG (g : Nat → Int32) (mm : Nat → Nat → Int32) : Nat → Int32 := uX3_step_n158_g (uX3_step_j64_g g mm)
def sM (mm : Nat → Nat → Int32) : Nat → Nat → Int32 := uX3_step_n158_mm (sJ mm)
set_option maxRecDepth 20000 in
set_option maxHeartbeats 4000000 in
theorem c_X3_step (l : Launch) (D : va_G) (cI : ClassId) (q : Nat → Nat) (g : Nat → Int32) (mm : Nat → Nat → Int32)  (h1 : vp_in (sH mm) 4096) (h2 : vp_in (uX3_place_j26_l3 (sW mm) (sH mm)) 4096) (h3 : vp_in (rX3_place (sG g mm) (sM mm) (sW mm) (sH mm)) 4096) (h4 : Ma (sG g mm)) : MI l D cI yX3_step (.code yX3_step cX3_step 5 none) ({ frames := 3, cells := 0, slots := 0, locals := 63 } : Room) [.ref (q 0)] (mw q cI g mm) (mw q cI (gX3_step g mm) (mX3_step g mm)) none := by
  refine MI.ofV (own := RX3) (by decide) rfl (Nat.le_of_ble_eq_true rfl) ?_
  intro p e s m args below meth c A ls Q X Z hl hret
  have hT : ∀ w ∈ TB, w ∈ (Cond.code yX3_step cX3_step 5 none :: TB) := fun _ h => List.mem_cons_of_mem _ h
  have hl : lv_has ls 5 [(0, .ref (q 0))] := hl
  refine lv_aload_n X.1 X.2.1 dX3_step_0 rfl (lv_at hl 0 rfl) ?_
  refine G_X3_r X hT Z dX3_step_1 ?_
  refine lv_iconst (v := 5) X.1 X.2.1 dX3_step_4 (by decide) ?_
  refine L_X3_r (j := 5) X Z (vin_c (by decide)) (by decide) dX3_step_5 ?_
  refine lv_iconst (v := 1) X.1 X.2.1 dX3_step_6 (by decide) ?_
  suffices K_64 : ∀ (j64_g : Nat → Int32) (j64_mm : Nat → Nat → Int32) (ls : Array Slot) (H : Heap) (locs : List Loc), j64_g = uX3_step_j64_g g mm → j64_mm = uX3_step_j64_mm mm → lv_has ls 5 [(0, .ref (q 0))] → ZZ D cI (mw q cI j64_g j64_mm) A s H locs → W p l e ({ frames := 3, cells := 0, slots := 0, locals := 63 } : Room) s m args below meth c H locs 0 0 Q (F0 m 64 ls []) by
    refine lv_icmp_ne (tgt := 64) X.1 X.2.1 dX3_step_7 (by decide) (fun c_7 => ?_) (fun c_7 => ?_)
    · exact K_64 g mm _ _ _ (if_neg c_7).symm (if_neg c_7).symm (lv_sub hl [0] rfl) Z
    · refine lv_aload_n X.1 X.2.1 dX3_step_10 rfl (lv_at hl 0 rfl) ?_
      refine G_X3_r X hT Z dX3_step_11 ?_
      refine lv_bipush (v := 7) X.1 X.2.1 dX3_step_14 (by decide) ?_
      refine L_X3_r (j := 7) X Z (vin_c (by decide)) (by decide) dX3_step_16 ?_
      refine lv_aload_n X.1 X.2.1 dX3_step_17 rfl (lv_at hl 0 rfl) ?_
      refine G_X3_r X hT Z dX3_step_18 ?_
      refine lv_bipush (v := 9) X.1 X.2.1 dX3_step_21 (by decide) ?_
      refine L_X3_r (j := 9) X Z (vin_c (by decide)) (by decide) dX3_step_23 ?_
      refine lv_iadd X.1 X.2.1 dX3_step_24 ?_
      refine lv_if_le (tgt := 64) X.1 X.2.1 dX3_step_25 (by decide) (fun c_25 => ?_) (fun c_25 => ?_)
      · exact K_64 g mm _ _ _ ((if_pos c_7).trans (if_pos c_25)).symm ((if_pos c_7).trans (if_pos c_25)).symm (lv_sub hl [0] rfl) Z
      · refine lv_aload_n X.1 X.2.1 dX3_step_28 rfl (lv_at hl 0 rfl) ?_
        refine G_X3_core X hT Z dX3_step_29 ?_
        refine lv_iconst (v := 0) X.1 X.2.1 dX3_step_32 (by decide) ?_
        refine lv_aload_n X.1 X.2.1 dX3_step_33 rfl (lv_at hl 0 rfl) ?_
        refine G_X3_r X hT Z dX3_step_34 ?_
        refine lv_iconst (v := 2) X.1 X.2.1 dX3_step_37 (by decide) ?_
        refine L_X3_r (j := 2) X Z (vin_c (by decide)) (by decide) dX3_step_38 ?_
        refine S_X3_core (j := 0) X Z (vin_c (by decide)) (by decide) dX3_step_39 (fun H locs Z => ?_)
        refine lv_aload_n X.1 X.2.1 dX3_step_40 rfl (lv_at hl 0 rfl) ?_
        refine G_X3_r X hT Z dX3_step_41 ?_
        refine lv_iconst (v := 2) X.1 X.2.1 dX3_step_44 (by decide) ?_
        refine lv_iconst (v := 1) X.1 X.2.1 dX3_step_45 (by decide) ?_
        refine S_X3_r (j := 2) X Z (vin_c (by decide)) (by decide) dX3_step_46 (fun H locs Z => ?_)
        refine lv_aload_n X.1 X.2.1 dX3_step_47 rfl (lv_at hl 0 rfl) ?_
        refine G_X3_r X hT Z dX3_step_48 ?_
        refine lv_iconst (v := 5) X.1 X.2.1 dX3_step_51 (by decide) ?_
        refine lv_iconst (v := 0) X.1 X.2.1 dX3_step_52 (by decide) ?_
        refine S_X3_r (j := 5) X Z (vin_c (by decide)) (by decide) dX3_step_53 (fun H locs Z => ?_)
        refine lv_aload_n X.1 X.2.1 dX3_step_54 rfl (lv_at hl 0 rfl) ?_
        refine lv_dup X.1 X.2.1 dX3_step_55 rfl ?_
        refine G_X3_interrupts X hT Z dX3_step_56 ?_
        refine lv_iconst (v := 1) X.1 X.2.1 dX3_step_59 (by decide) ?_
        refine lv_iadd X.1 X.2.1 dX3_step_60 ?_
        refine P_X3_interrupts X hT Z dX3_step_61 (fun H locs Z => ?_)
        exact K_64 (upd g 4 ((g 4) + 1)) (va_up (va_up (va_up mm 0 (upd (mm 0) 0 (mm 1 2))) 1 (upd ((va_up mm 0 (upd (mm 0) 0 (mm 1 2))) 1) 2 1)) 1 (upd ((va_up (va_up mm 0 (upd (mm 0) 0 (mm 1 2))) 1 (upd ((va_up mm 0 (upd (mm 0) 0 (mm 1 2))) 1) 2 1)) 1) 5 0)) _ _ _ ((if_pos c_7).trans (if_neg c_25)).symm ((if_pos c_7).trans (if_neg c_25)).symm (lv_sub hl [0] rfl) Z
  intro j64_g j64_mm ls H locs e_j64_g e_j64_mm hl Z
  refine lv_aload_n X.1 X.2.1 dX3_step_64 rfl (lv_at hl 0 rfl) ?_
  refine G_X3_r X hT Z dX3_step_65 ?_
  refine lv_bipush (v := 6) X.1 X.2.1 dX3_step_68 (by decide) ?_
  refine L_X3_r (j := 6) X Z (vin_c (by decide)) (by decide) dX3_step_70 ?_
  refine lv_iconst (v := 1) X.1 X.2.1 dX3_step_71 (by decide) ?_
  suffices K_90 : ∀ (j90_mm : Nat → Nat → Int32) (ls : Array Slot) (H : Heap) (locs : List Loc), j90_mm = uX3_step_j90_mm j64_mm → lv_has ls 5 [(0, .ref (q 0))] → ZZ D cI (mw q cI j64_g j90_mm) A s H locs → W p l e ({ frames := 3, cells := 0, slots := 0, locals := 63 } : Room) s m args below meth c H locs 0 0 Q (F0 m 90 ls []) by
    refine lv_icmp_ne (tgt := 90) X.1 X.2.1 dX3_step_72 (by decide) (fun c_72 => ?_) (fun c_72 => ?_)
    · exact K_90 j64_mm _ _ _ (if_neg c_72).symm (lv_sub hl [0] rfl) Z
    · refine lv_aload_n X.1 X.2.1 dX3_step_75 rfl (lv_at hl 0 rfl) ?_
      refine G_X3_r X hT Z dX3_step_76 ?_
      refine lv_bipush (v := 6) X.1 X.2.1 dX3_step_79 (by decide) ?_
      refine lv_iconst (v := 0) X.1 X.2.1 dX3_step_81 (by decide) ?_
      refine S_X3_r (j := 6) X Z (vin_c (by decide)) (by decide) dX3_step_82 (fun H locs Z => ?_)
      refine lv_aload_n X.1 X.2.1 dX3_step_83 rfl (lv_at hl 0 rfl) ?_
      refine G_X3_r X hT Z dX3_step_84 ?_
      refine lv_iconst (v := 5) X.1 X.2.1 dX3_step_87 (by decide) ?_
      refine lv_iconst (v := 1) X.1 X.2.1 dX3_step_88 (by decide) ?_
      refine S_X3_r (j := 5) X Z (vin_c (by decide)) (by decide) dX3_step_89 (fun H locs Z => ?_)
      exact K_90 (va_up (va_up j64_mm 1 (upd (j64_mm 1) 6 0)) 1 (upd ((va_up j64_mm 1 (upd (j64_mm 1) 6 0)) 1) 5 1)) _ _ _ (if_pos c_72).symm (lv_sub hl [0] rfl) Z
  intro j90_mm ls H locs e_j90_mm hl Z
  refine lv_aload_n X.1 X.2.1 dX3_step_90 rfl (lv_at hl 0 rfl) ?_
  refine G_X3_r X hT Z dX3_step_91 ?_
  refine lv_iconst (v := 2) X.1 X.2.1 dX3_step_94 (by decide) ?_
  refine L_X3_r (j := 2) X Z (vin_c (by decide)) (by decide) dX3_step_95 ?_
  refine lv_istore_n (lv' := [(1, .int (j90_mm 1 2)), (0, .ref (q 0))]) X.1 X.2.1 dX3_step_96 rfl hl (by decide) rfl (fun ls hl => ?_)
  refine lv_aload_n X.1 X.2.1 dX3_step_97 rfl (lv_at hl 1 rfl) ?_
  refine G_X3_core X hT Z dX3_step_98 ?_
  refine lv_iload_n X.1 X.2.1 dX3_step_101 rfl (lv_at hl 0 rfl) ?_
  refine L_X3_core (j := (j90_mm 1 2).toNatClampNeg) X Z (by subst e_j90_mm e_j64_mm; exact h1) rfl dX3_step_102 ?_
  refine lv_istore_n (lv' := [(2, .int (j90_mm 0 ((j90_mm 1 2).toNatClampNeg))), (1, .int (j90_mm 1 2)), (0, .ref (q 0))]) X.1 X.2.1 dX3_step_103 rfl hl (by decide) rfl (fun ls hl => ?_)
  refine lv_aload_n X.1 X.2.1 dX3_step_104 rfl (lv_at hl 2 rfl) ?_
  refine G_X3_r X hT Z dX3_step_105 ?_
  refine lv_iconst (v := 2) X.1 X.2.1 dX3_step_108 (by decide) ?_
  refine lv_iload_n X.1 X.2.1 dX3_step_109 rfl (lv_at hl 1 rfl) ?_
  refine call_Si X hT Z k_X3_32 (c_X3_after l D cI (mw q cI j64_g j90_mm) (j90_mm 1 2) ) hd_X3_after ⟨by decide, by decide⟩ ⟨rfl, rfl⟩ hl.1 (rest := [.int 2, .ref (q 2)]) rfl (Nat.le_of_ble_eq_true rfl) ⟨by decide, by decide⟩ dX3_step_110 (fun H locs Z => ?_)
  refine S_X3_r (j := 2) X Z (vin_c (by decide)) (by decide) dX3_step_113 (fun H locs Z => ?_)
  refine lv_bipush (v := 63) X.1 X.2.1 dX3_step_114 (by decide) ?_
  refine lv_istore_n (lv' := [(3, .int 63), (2, .int (j90_mm 0 ((j90_mm 1 2).toNatClampNeg))), (1, .int (j90_mm 1 2)), (0, .ref (q 0))]) X.1 X.2.1 dX3_step_116 rfl hl (by decide) rfl (fun ls hl => ?_)
  refine lp_X3_step X hT D cI q j64_g (va_up j90_mm 1 (upd (j90_mm 1) 2 (rX3_after (j90_mm 1 2)))) (j90_mm 1 2) (j90_mm 0 ((j90_mm 1 2).toNatClampNeg)) (fun ls H locs hl Z => ?_) 63 (by decide) _ _ _ (lv_sub hl [0, 1, 2, 3] rfl) (by rw [shf_63]; exact Z)
  refine lv_aload_n X.1 X.2.1 dX3_step_141 rfl (lv_at hl 3 rfl) ?_
  refine G_X3_places X hT Z dX3_step_142 ?_
  refine lv_iconst (v := 0) X.1 X.2.1 dX3_step_145 (by decide) ?_
  refine lv_iload_n X.1 X.2.1 dX3_step_146 rfl (lv_at hl 2 rfl) ?_
  refine S_X3_places (j := 0) X Z (vin_c (by decide)) (by decide) dX3_step_147 (fun H locs Z => ?_)
  refine lv_aload_n X.1 X.2.1 dX3_step_148 rfl (lv_at hl 3 rfl) ?_
  refine lv_dup X.1 X.2.1 dX3_step_149 rfl ?_
  refine G_X3_steps X hT Z dX3_step_150 ?_
  refine lv_iconst (v := 1) X.1 X.2.1 dX3_step_153 (by decide) ?_
  refine lv_iadd X.1 X.2.1 dX3_step_154 ?_
  refine P_X3_steps X hT Z dX3_step_155 (fun H locs Z => ?_)
  suffices KN_158 : ∀ (n158_g : Nat → Int32) (n158_mm : Nat → Nat → Int32) (n158_l1 : Int32) (n158_l2 : Int32) (ls : Array Slot) (H : Heap) (locs : List Loc), n158_g = uX3_step_n158_g j64_g → n158_mm = uX3_step_n158_mm j90_mm → n158_l1 = uX3_step_n158_l1 j90_mm → n158_l2 = uX3_step_n158_l2 j90_mm → lv_has ls 5 [(3, .int (nI 0)), (2, .int n158_l2), (1, .int n158_l1), (0, .ref (q 0))] → ZZ D cI (mw q cI n158_g n158_mm) A s H locs → W p l e ({ frames := 3, cells := 0, slots := 0, locals := 63 } : Room) s m args below meth c H locs 0 0 Q (F0 m 158 ls []) by
    exact KN_158 (upd j64_g 3 ((j64_g 3) + 1)) (va_up (va_up (va_up j90_mm 1 (upd (j90_mm 1) 2 (rX3_after (j90_mm 1 2)))) 4 (shf ((va_up j90_mm 1 (upd (j90_mm 1) 2 (rX3_after (j90_mm 1 2)))) 4) 0)) 4 (upd ((va_up (va_up j90_mm 1 (upd (j90_mm 1) 2 (rX3_after (j90_mm 1 2)))) 4 (shf ((va_up j90_mm 1 (upd (j90_mm 1) 2 (rX3_after (j90_mm 1 2)))) 4) 0)) 4) 0 (j90_mm 1 2))) (j90_mm 1 2) (j90_mm 0 ((j90_mm 1 2).toNatClampNeg)) _ _ _ rfl rfl rfl rfl (lv_sub hl [0, 1, 2, 3] rfl) Z
  intro n158_g n158_mm n158_l1 n158_l2 ls H locs e_n158_g e_n158_mm e_n158_l1 e_n158_l2 hl Z
  refine lv_iload_n X.1 X.2.1 dX3_step_158 rfl (lv_at hl 1 rfl) ?_
  refine lv_sipush (v := 512) X.1 X.2.1 dX3_step_159 (by decide) ?_
  refine lv_idiv X.1 X.2.1 dX3_step_162 (by decide) ?_
  refine lv_istore_n (lv' := [(3, .int (n158_l2 / 512)), (2, .int n158_l2), (1, .int n158_l1), (0, .ref (q 0))]) X.1 X.2.1 dX3_step_163 rfl hl (by decide) rfl (fun ls hl => ?_)
  refine lv_iload_n X.1 X.2.1 dX3_step_164 rfl (lv_at hl 0 rfl) ?_
  refine lv_bipush (v := 6) X.1 X.2.1 dX3_step_165 (by decide) ?_
  suffices K_241 : ∀ (j241_g : Nat → Int32) (j241_mm : Nat → Nat → Int32) (ls : Array Slot) (H : Heap) (locs : List Loc), j241_g = uX3_step_j241_g n158_g n158_mm n158_l1 n158_l2 → j241_mm = uX3_step_j241_mm n158_g n158_mm n158_l1 n158_l2 → lv_has ls 5 [(3, .int (n158_l2 / 512)), (2, .int n158_l2), (1, .int n158_l1), (0, .ref (q 0))] → ZZ D cI (mw q cI j241_g j241_mm) A s H locs → W p l e ({ frames := 3, cells := 0, slots := 0, locals := 63 } : Room) s m args below meth c H locs 0 0 Q (F0 m 241 ls []) by
    refine lv_icmp_ge (tgt := 188) X.1 X.2.1 dX3_step_167 (by decide) (fun c_167 => ?_) (fun c_167 => ?_)
    · refine lv_iload_n X.1 X.2.1 dX3_step_188 rfl (lv_at hl 0 rfl) ?_
      refine lv_bipush (v := 6) X.1 X.2.1 dX3_step_189 (by decide) ?_
      refine lv_icmp_ne (tgt := 202) X.1 X.2.1 dX3_step_191 (by decide) (fun c_191 => ?_) (fun c_191 => ?_)
      · refine lv_iload_n X.1 X.2.1 dX3_step_202 rfl (lv_at hl 1 rfl) ?_
        refine lv_sipush (v := 256) X.1 X.2.1 dX3_step_203 (by decide) ?_
        refine call_Si X hT Z k_X3_57 (c_X3_has l D cI (mw q cI n158_g n158_mm) n158_l2 256 (by decide)) hd_X3_has ⟨by decide, by decide⟩ ⟨rfl, rfl⟩ hl.1 (rest := []) rfl (Nat.le_of_ble_eq_true rfl) ⟨by decide, by decide⟩ dX3_step_206 (fun H locs Z => ?_)
        refine lv_if_ne (tgt := 220) X.1 X.2.1 dX3_step_209 (by decide) (fun c_209 => ?_) (fun c_209 => ?_)
        · refine lv_iload_n X.1 X.2.1 dX3_step_220 rfl (lv_at hl 1 rfl) ?_
          refine lv_iconst (v := 1) X.1 X.2.1 dX3_step_221 (by decide) ?_
          refine call_Si X hT Z k_X3_57 (c_X3_has l D cI (mw q cI n158_g n158_mm) n158_l2 1 (by decide)) hd_X3_has ⟨by decide, by decide⟩ ⟨rfl, rfl⟩ hl.1 (rest := []) rfl (Nat.le_of_ble_eq_true rfl) ⟨by decide, by decide⟩ dX3_step_222 (fun H locs Z => ?_)
          refine lv_if_ne (tgt := 236) X.1 X.2.1 dX3_step_225 (by decide) (fun c_225 => ?_) (fun c_225 => ?_)
          · refine lv_aload_n X.1 X.2.1 dX3_step_236 rfl (lv_at hl 3 rfl) ?_
            refine lv_iload_n X.1 X.2.1 dX3_step_237 rfl (lv_at hl 1 rfl) ?_
            refine call_Vv X hT Z (qq := (RX3, TX3, 11)) k_X3_67 (c_X3_third l D cI q n158_g n158_mm n158_l2 ) rfl rfl hd_X3_third ⟨by decide, by decide⟩ ⟨rfl, rfl⟩ hl.1 (rest := []) rfl (Nat.le_of_ble_eq_true rfl) ⟨by decide, by decide⟩ dX3_step_238 (fun H locs Z => ?_)
            exact K_241 n158_g (mX3_third n158_g n158_mm n158_l2) _ _ _ ((if_pos c_167).trans ((if_neg c_191).trans ((if_neg c_209).trans (if_neg c_225)))).symm ((if_pos c_167).trans ((if_neg c_191).trans ((if_neg c_209).trans (if_neg c_225)))).symm (lv_sub hl [0, 1, 2, 3] rfl) Z
          · refine lv_aload_n X.1 X.2.1 dX3_step_228 rfl (lv_at hl 3 rfl) ?_
            refine lv_iload_n X.1 X.2.1 dX3_step_229 rfl (lv_at hl 1 rfl) ?_
            refine call_Vv X hT Z (qq := (RX3, TX3, 11)) k_X3_64 (c_X3_second l D cI q n158_g n158_mm n158_l2 ) rfl rfl hd_X3_second ⟨by decide, by decide⟩ ⟨rfl, rfl⟩ hl.1 (rest := []) rfl (Nat.le_of_ble_eq_true rfl) ⟨by decide, by decide⟩ dX3_step_230 (fun H locs Z => ?_)
            refine lv_goto (tgt := 241) X.1 X.2.1 dX3_step_233 (by decide) ?_
            exact K_241 (gX3_second n158_g n158_mm n158_l2) (mX3_second n158_g n158_mm n158_l2) _ _ _ ((if_pos c_167).trans ((if_neg c_191).trans ((if_neg c_209).trans (if_pos c_225)))).symm ((if_pos c_167).trans ((if_neg c_191).trans ((if_neg c_209).trans (if_pos c_225)))).symm (lv_sub hl [0, 1, 2, 3] rfl) Z
        · refine lv_aload_n X.1 X.2.1 dX3_step_212 rfl (lv_at hl 3 rfl) ?_
          refine lv_iload_n X.1 X.2.1 dX3_step_213 rfl (lv_at hl 1 rfl) ?_
          refine call_Vv X hT Z (qq := (RX3, TX3, 11)) k_X3_61 (c_X3_first l D cI q n158_g n158_mm n158_l2 ) rfl rfl hd_X3_first ⟨by decide, by decide⟩ ⟨rfl, rfl⟩ hl.1 (rest := []) rfl (Nat.le_of_ble_eq_true rfl) ⟨by decide, by decide⟩ dX3_step_214 (fun H locs Z => ?_)
          refine lv_goto (tgt := 241) X.1 X.2.1 dX3_step_217 (by decide) ?_
          exact K_241 n158_g (mX3_first n158_g n158_mm n158_l2) _ _ _ ((if_pos c_167).trans ((if_neg c_191).trans (if_pos c_209))).symm ((if_pos c_167).trans ((if_neg c_191).trans (if_pos c_209))).symm (lv_sub hl [0, 1, 2, 3] rfl) Z
      · refine lv_aload_n X.1 X.2.1 dX3_step_194 rfl (lv_at hl 3 rfl) ?_
        refine lv_iload_n X.1 X.2.1 dX3_step_195 rfl (lv_at hl 1 rfl) ?_
        refine call_Vv X hT Z (qq := (RX3, TX3, 11)) k_X3_53 (c_X3_device l D cI q n158_g n158_mm n158_l2 (by subst e_n158_g e_n158_mm e_n158_l1 e_n158_l2 e_j90_mm e_j64_mm e_j64_g; exact h4)) rfl rfl hd_X3_device ⟨by decide, by decide⟩ ⟨rfl, rfl⟩ hl.1 (rest := []) rfl (Nat.le_of_ble_eq_true rfl) ⟨by decide, by decide⟩ dX3_step_196 (fun H locs Z => ?_)
        refine lv_goto (tgt := 241) X.1 X.2.1 dX3_step_199 (by decide) ?_
        exact K_241 (gX3_device n158_g n158_mm n158_l2) (mX3_device n158_g n158_mm n158_l2) _ _ _ ((if_pos c_167).trans (if_pos c_191)).symm ((if_pos c_167).trans (if_pos c_191)).symm (lv_sub hl [0, 1, 2, 3] rfl) Z
    · refine lv_aload_n X.1 X.2.1 dX3_step_170 rfl (lv_at hl 3 rfl) ?_
      refine lv_iload_n X.1 X.2.1 dX3_step_171 rfl (lv_at hl 1 rfl) ?_
      refine lv_iload_n X.1 X.2.1 dX3_step_172 rfl (lv_at hl 2 rfl) ?_
      refine call_Vi X hT Z (qq := (RX3, TX3, 11)) k_X3_45 (c_X3_place l D cI q n158_g n158_mm n158_l2 n158_l1 (by subst e_n158_g e_n158_mm e_n158_l1 e_n158_l2 e_j90_mm e_j64_mm e_j64_g; exact h2)) rfl rfl hd_X3_place ⟨by decide, by decide⟩ ⟨rfl, rfl⟩ hl.1 (rest := []) rfl (Nat.le_of_ble_eq_true rfl) ⟨by decide, by decide⟩ dX3_step_173 (fun H locs Z => ?_)
      refine lv_istore (lv' := [(4, .int (rX3_place n158_g n158_mm n158_l2 n158_l1)), (3, .int (n158_l2 / 512)), (2, .int n158_l2), (1, .int n158_l1), (0, .ref (q 0))]) X.1 X.2.1 dX3_step_176 hl (by decide) rfl (fun ls hl => ?_)
      refine lv_aload_n X.1 X.2.1 dX3_step_178 rfl (lv_at hl 4 rfl) ?_
      refine lv_iload_n X.1 X.2.1 dX3_step_179 rfl (lv_at hl 1 rfl) ?_
      refine lv_iload X.1 X.2.1 dX3_step_180 (lv_at hl 0 rfl) ?_
      refine call_Vv X hT Z (qq := (RX3, TX3, 11)) k_X3_49 (c_X3_reference l D cI q n158_g (mX3_place n158_g n158_mm n158_l2 n158_l1) (n158_l2 / 512) (rX3_place n158_g n158_mm n158_l2 n158_l1) (by subst e_n158_g e_n158_mm e_n158_l1 e_n158_l2 e_j90_mm e_j64_mm e_j64_g; exact h3)) rfl rfl hd_X3_reference ⟨by decide, by decide⟩ ⟨rfl, rfl⟩ hl.1 (rest := []) rfl (Nat.le_of_ble_eq_true rfl) ⟨by decide, by decide⟩ dX3_step_182 (fun H locs Z => ?_)
      refine lv_goto (tgt := 241) X.1 X.2.1 dX3_step_185 (by decide) ?_
      exact K_241 (gX3_reference n158_g (mX3_place n158_g n158_mm n158_l2 n158_l1) (n158_l2 / 512) (rX3_place n158_g n158_mm n158_l2 n158_l1)) (mX3_reference n158_g (mX3_place n158_g n158_mm n158_l2 n158_l1) (n158_l2 / 512) (rX3_place n158_g n158_mm n158_l2 n158_l1)) _ _ _ (if_neg c_167).symm (if_neg c_167).symm (lv_sub hl [1, 2, 3, 4] rfl) Z
  intro j241_g j241_mm ls H locs e_j241_g e_j241_mm hl Z
  exact hret _ _ _ _ _ Z (mw_eq (by subst e_j64_g e_j64_mm e_j90_mm e_n158_g e_n158_mm e_n158_l1 e_n158_l2 e_j241_g e_j241_mm; exact rfl) (by subst e_j64_g e_j64_mm e_j90_mm e_n158_g e_n158_mm e_n158_l1 e_n158_l2 e_j241_g e_j241_mm; exact rfl)) dX3_step_241
end
section
/-! the two run methods: loops over step -/
def cRun : Nat → (Nat → Int32) → (Nat → Nat → Int32) → Nat × (Nat → Int32) × (Nat → Nat → Int32)
  | 0, g, mm => (0, g, mm)
  | d + 1, g, mm => if g 5 = 0 then ((cRun d (gX2_step g mm) (mX2_step g mm)).1 + 1, (cRun d (gX2_step g mm) (mX2_step g mm)).2) else (0, g, mm)
def cOK : Nat → (Nat → Int32) → (Nat → Nat → Int32) → Prop
  | 0, _, _ => True
  | d + 1, g, mm => Cq g ∧ cOK d (gX2_step g mm) (mX2_step g mm)
def rX2_run (g : Nat → Int32) (mm : Nat → Nat → Int32) (a1 : Int32) : Int32 := if a1 < 0 then 0 else if a1 ≤ 2000 then nI (cRun a1.toNatClampNeg g mm).1 else 0
def gX2_run (g : Nat → Int32) (mm : Nat → Nat → Int32) (a1 : Int32) : Nat → Int32 := if a1 < 0 then g else if a1 ≤ 2000 then (cRun a1.toNatClampNeg g mm).2.1 else g
def mX2_run (g : Nat → Int32) (mm : Nat → Nat → Int32) (a1 : Int32) : Nat → Nat → Int32 := if a1 < 0 then mm else if a1 ≤ 2000 then (cRun a1.toNatClampNeg g mm).2.2 else mm
set_option maxRecDepth 20000 in
set_option maxHeartbeats 4000000 in
theorem lp_X2_run {p : Program} {l : Launch} {e : Env} {s : State} {m : MethodId} {args : Array Value} {below : List Frame} {meth : Method} {c : Code} {A : Nat → Prop} {Q : State → Prop} {Ts : List Cond} (X : CallFix p m c cX2_run 3 s args Ts RX2) (hT : ∀ w ∈ TB, w ∈ Ts) (D : va_G) (cI : ClassId) (q : Nat → Nat) (N : Nat) (hN : N ≤ 2000) :
    ∀ (d i : Nat) (g : Nat → Int32) (mm : Nat → Nat → Int32), i + d = N → cOK d g mm → ∀ (ls : Array Slot) (H : Heap) (locs : List Loc), lv_has ls 3 [(2, .int (nI i)), (1, .int (nI N)), (0, .ref (q 0))] → ZZ D cI (cw q cI g mm) A s H locs →
    (∀ (ls : Array Slot) (H : Heap) (locs : List Loc), lv_has ls 3 [(2, .int (nI (i + (cRun d g mm).1)))] → ZZ D cI (cw q cI (cRun d g mm).2.1 (cRun d g mm).2.2) A s H locs → W p l e ({ frames := 5, cells := 0, slots := 0, locals := 108 } : Room) s m args below meth c H locs 0 0 Q (F0 m 37 ls [])) →
    W p l e ({ frames := 5, cells := 0, slots := 0, locals := 108 } : Room) s m args below meth c H locs 0 0 Q (F0 m 15 ls []) := by
  intro d
  induction d with
  | zero =>
    intro i g mm hi hq ls H locs hl Z K
    refine lv_iload_n X.1 X.2.1 dX2_run_15 rfl (lv_at hl 0 rfl) ?_
    refine lv_iload_n X.1 X.2.1 dX2_run_16 rfl (lv_at hl 1 rfl) ?_
    refine lv_icmp_ge (tgt := 37) X.1 X.2.1 dX2_run_17 (by decide) (fun _ => ?_) (fun c_1 => absurd (nI_le (by omega) (by omega)) c_1)
    exact K ls H locs (lv_sub hl [0] rfl) Z
  | succ d ih =>
    intro i g mm hi hq ls H locs hl Z K
    refine lv_iload_n X.1 X.2.1 dX2_run_15 rfl (lv_at hl 0 rfl) ?_
    refine lv_iload_n X.1 X.2.1 dX2_run_16 rfl (lv_at hl 1 rfl) ?_
    refine lv_icmp_ge (tgt := 37) X.1 X.2.1 dX2_run_17 (by decide) (fun c_1 => absurd c_1 (nI_ge (by omega) (by omega))) (fun _ => ?_)
    refine lv_aload_n X.1 X.2.1 dX2_run_20 rfl (lv_at hl 2 rfl) ?_
    refine G_X2_halted X hT Z dX2_run_21 ?_
    refine lv_if_ne (tgt := 37) X.1 X.2.1 dX2_run_24 (by decide) (fun c_2 => ?_) (fun c_2 => ?_)
    · have e1 : cRun (d + 1) g mm = (0, g, mm) := if_neg c_2
      rw [e1] at K
      exact K ls H locs (lv_sub hl [0] rfl) Z
    · have e1 : cRun (d + 1) g mm = ((cRun d (gX2_step g mm) (mX2_step g mm)).1 + 1, (cRun d (gX2_step g mm) (mX2_step g mm)).2) := if_pos c_2
      rw [e1] at K
      refine lv_aload_n X.1 X.2.1 dX2_run_27 rfl (lv_at hl 2 rfl) ?_
      refine call_Vv X hT Z (qq := (RX2, TX2, 15)) k_X2_88 (c_X2_step l D cI q g mm hq.1) rfl rfl hd_X2_step ⟨by decide, by decide⟩ ⟨rfl, rfl⟩ hl.1 (rest := []) rfl (Nat.le_of_ble_eq_true rfl) ⟨by decide, by decide⟩ dX2_run_28 (fun H locs Z => ?_)
      refine lv_iinc (v := nI (i + 1)) (lv' := [(2, .int (nI (i + 1))), (1, .int (nI N)), (0, .ref (q 0))]) X.1 X.2.1 dX2_run_31 hl (k := 0) rfl (nI_1 i) (by decide) rfl (fun ls hl => ?_)
      refine lv_goto (tgt := 15) X.1 X.2.1 dX2_run_34 (by decide) ?_
      refine ih (i + 1) _ _ (by omega) hq.2 ls H locs hl Z (fun ls H locs hl Z => ?_)
      refine K ls H locs ?_ Z
      have e2 : i + 1 + (cRun d (gX2_step g mm) (mX2_step g mm)).1 = i + ((cRun d (gX2_step g mm) (mX2_step g mm)).1 + 1) := by omega
      rw [e2] at hl
      exact hl
set_option maxRecDepth 20000 in
set_option maxHeartbeats 4000000 in
theorem c_X2_run (l : Launch) (D : va_G) (cI : ClassId) (q : Nat → Nat) (g : Nat → Int32) (mm : Nat → Nat → Int32) (a1 : Int32) (hq : ∀ d, cOK d g mm) : MI l D cI yX2_run (.code yX2_run cX2_run 3 (some .int)) ({ frames := 5, cells := 0, slots := 0, locals := 108 } : Room) [.ref (q 0), .int a1] (cw q cI g mm) (cw q cI (gX2_run g mm a1) (mX2_run g mm a1)) (some (.int (rX2_run g mm a1))) := by
  refine MI.ofI (own := RX2) (by decide) rfl (Nat.le_of_ble_eq_true rfl) ?_
  intro p e s m args below meth c A ls Q X Z hl hret
  have hT : ∀ w ∈ TB, w ∈ (Cond.code yX2_run cX2_run 3 (some .int) :: TB) := fun _ h => List.mem_cons_of_mem _ h
  have hl : lv_has ls 3 [(0, .ref (q 0)), (1, .int a1)] := hl
  refine lv_iload_n X.1 X.2.1 dX2_run_0 rfl (lv_at hl 1 rfl) ?_
  refine lv_if_lt (tgt := 11) X.1 X.2.1 dX2_run_1 (by decide) (fun c_1 => ?_) (fun c_1 => ?_)
  · refine lv_iconst (v := 0) X.1 X.2.1 dX2_run_11 (by decide) ?_
    exact hret _ _ _ _ _ _ Z (cw_eq (if_pos c_1).symm (if_pos c_1).symm) (if_pos c_1).symm dX2_run_12
  · refine lv_iload_n X.1 X.2.1 dX2_run_4 rfl (lv_at hl 1 rfl) ?_
    refine lv_sipush (v := 2000) X.1 X.2.1 dX2_run_5 (by decide) ?_
    refine lv_icmp_le (tgt := 13) X.1 X.2.1 dX2_run_8 (by decide) (fun c_8 => ?_) (fun c_8 => ?_)
    · obtain ⟨N, hN, rfl⟩ := nI_of2 (M := 2000) (n := 2000) (by decide) c_1 c_8
      refine lv_iconst (v := 0) X.1 X.2.1 dX2_run_13 (by decide) ?_
      refine lv_istore_n (lv' := [(2, .int 0), (0, .ref (q 0)), (1, .int (nI N))]) X.1 X.2.1 dX2_run_14 rfl hl (by decide) rfl (fun ls hl => ?_)
      refine lp_X2_run X hT D cI q N hN N 0 g mm (by omega) (hq N) ls _ _ (lv_sub hl [0, 2, 1] rfl) Z (fun ls H locs hl Z => ?_)
      refine lv_iload_n X.1 X.2.1 dX2_run_37 rfl (lv_at hl 0 rfl) ?_
      have eN : (nI N).toNatClampNeg = N := nI_clamp (by omega)
      refine hret _ _ _ _ _ _ Z (cw_eq ?_ ?_) ?_ dX2_run_38
      · unfold gX2_run
        rw [if_neg c_1, if_pos c_8, eN]
      · unfold mX2_run
        rw [if_neg c_1, if_pos c_8, eN]
      · unfold rX2_run
        rw [if_neg c_1, if_pos c_8, eN, Nat.zero_add]
    · refine lv_iconst (v := 0) X.1 X.2.1 dX2_run_11 (by decide) ?_
      exact hret _ _ _ _ _ _ Z (cw_eq ((if_neg c_1).trans (if_neg c_8)).symm ((if_neg c_1).trans (if_neg c_8)).symm) ((if_neg c_1).trans (if_neg c_8)).symm dX2_run_12
/-! the reference's -/
def mRun : Nat → (Nat → Int32) → (Nat → Nat → Int32) → Nat × (Nat → Int32) × (Nat → Nat → Int32)
  | 0, g, mm => (0, g, mm)
  | d + 1, g, mm => if mm 1 10 = 0 then ((mRun d (gX3_step g mm) (mX3_step g mm)).1 + 1, (mRun d (gX3_step g mm) (mX3_step g mm)).2) else (0, g, mm)
def SOK (g : Nat → Int32) (mm : Nat → Nat → Int32) : Prop := vp_in (sH mm) 4096 ∧ vp_in (uX3_place_j26_l3 (sW mm) (sH mm)) 4096 ∧ vp_in (rX3_place (sG g mm) (sM mm) (sW mm) (sH mm)) 4096 ∧ Ma (sG g mm)
def mOK : Nat → (Nat → Int32) → (Nat → Nat → Int32) → Prop
  | 0, _, _ => True
  | d + 1, g, mm => SOK g mm ∧ mOK d (gX3_step g mm) (mX3_step g mm)
def rX3_run (g : Nat → Int32) (mm : Nat → Nat → Int32) (a1 : Int32) : Int32 := if a1 < 0 then 0 else if a1 ≤ 2000 then nI (mRun a1.toNatClampNeg g mm).1 else 0
def gX3_run (g : Nat → Int32) (mm : Nat → Nat → Int32) (a1 : Int32) : Nat → Int32 := if a1 < 0 then g else if a1 ≤ 2000 then (mRun a1.toNatClampNeg g mm).2.1 else g
def mX3_run (g : Nat → Int32) (mm : Nat → Nat → Int32) (a1 : Int32) : Nat → Nat → Int32 := if a1 < 0 then mm else if a1 ≤ 2000 then (mRun a1.toNatClampNeg g mm).2.2 else mm
set_option maxRecDepth 20000 in
set_option maxHeartbeats 4000000 in
theorem lp_X3_run {p : Program} {l : Launch} {e : Env} {s : State} {m : MethodId} {args : Array Value} {below : List Frame} {meth : Method} {c : Code} {A : Nat → Prop} {Q : State → Prop} {Ts : List Cond} (X : CallFix p m c cX3_run 4 s args Ts RX3) (hT : ∀ w ∈ TB, w ∈ Ts) (D : va_G) (cI : ClassId) (q : Nat → Nat) (N : Nat) (hN : N ≤ 2000) :
    ∀ (d i : Nat) (g : Nat → Int32) (mm : Nat → Nat → Int32), i + d = N → mOK d g mm → ∀ (ls : Array Slot) (H : Heap) (locs : List Loc), lv_has ls 4 [(3, .int (nI i)), (2, .int (nI i)), (1, .int (nI N)), (0, .ref (q 0))] → ZZ D cI (mw q cI g mm) A s H locs →
    (∀ (ls : Array Slot) (H : Heap) (locs : List Loc), lv_has ls 4 [(2, .int (nI (i + (mRun d g mm).1)))] → ZZ D cI (mw q cI (mRun d g mm).2.1 (mRun d g mm).2.2) A s H locs → W p l e ({ frames := 4, cells := 0, slots := 0, locals := 87 } : Room) s m args below meth c H locs 0 0 Q (F0 m 39 ls [])) →
    W p l e ({ frames := 4, cells := 0, slots := 0, locals := 87 } : Room) s m args below meth c H locs 0 0 Q (F0 m 4 ls []) := by
  intro d
  induction d with
  | zero =>
    intro i g mm hi hq ls H locs hl Z K
    refine lv_iload_n X.1 X.2.1 dX3_run_4 rfl (lv_at hl 0 rfl) ?_
    refine lv_iload_n X.1 X.2.1 dX3_run_5 rfl (lv_at hl 2 rfl) ?_
    refine lv_icmp_ge (tgt := 39) X.1 X.2.1 dX3_run_6 (by decide) (fun _ => ?_) (fun c_1 => absurd (nI_le (by omega) (by omega)) c_1)
    exact K ls H locs (lv_sub hl [1] rfl) Z
  | succ d ih =>
    intro i g mm hi hq ls H locs hl Z K
    refine lv_iload_n X.1 X.2.1 dX3_run_4 rfl (lv_at hl 0 rfl) ?_
    refine lv_iload_n X.1 X.2.1 dX3_run_5 rfl (lv_at hl 2 rfl) ?_
    refine lv_icmp_ge (tgt := 39) X.1 X.2.1 dX3_run_6 (by decide) (fun c_1 => absurd c_1 (nI_ge (by omega) (by omega))) (fun _ => ?_)
    refine lv_iload_n X.1 X.2.1 dX3_run_9 rfl (lv_at hl 2 rfl) ?_
    refine lv_sipush (v := 2000) X.1 X.2.1 dX3_run_10 (by decide) ?_
    refine lv_icmp_gt (tgt := 39) X.1 X.2.1 dX3_run_13 (by decide) (fun c_1 => absurd c_1 (nI_nlt (a := 2000) hN (by decide))) (fun _ => ?_)
    refine lv_aload_n X.1 X.2.1 dX3_run_16 rfl (lv_at hl 3 rfl) ?_
    refine G_X3_r X hT Z dX3_run_17 ?_
    refine lv_bipush (v := 10) X.1 X.2.1 dX3_run_20 (by decide) ?_
    refine L_X3_r (j := 10) X Z (vin_c (by decide)) (by decide) dX3_run_22 ?_
    refine lv_if_ne (tgt := 39) X.1 X.2.1 dX3_run_23 (by decide) (fun c_2 => ?_) (fun c_2 => ?_)
    · have e1 : mRun (d + 1) g mm = (0, g, mm) := if_neg c_2
      rw [e1] at K
      exact K ls H locs (lv_sub hl [1] rfl) Z
    · have e1 : mRun (d + 1) g mm = ((mRun d (gX3_step g mm) (mX3_step g mm)).1 + 1, (mRun d (gX3_step g mm) (mX3_step g mm)).2) := if_pos c_2
      rw [e1] at K
      refine lv_aload_n X.1 X.2.1 dX3_run_26 rfl (lv_at hl 3 rfl) ?_
      refine call_Vv X hT Z (qq := (RX3, TX3, 11)) k_X3_82 (c_X3_step l D cI q g mm hq.1.1 hq.1.2.1 hq.1.2.2.1 hq.1.2.2.2) rfl rfl hd_X3_step ⟨by decide, by decide⟩ ⟨rfl, rfl⟩ hl.1 (rest := []) rfl (Nat.le_of_ble_eq_true rfl) ⟨by decide, by decide⟩ dX3_run_27 (fun H locs Z => ?_)
      refine lv_iinc (v := nI (i + 1)) (lv' := [(2, .int (nI (i + 1))), (3, .int (nI i)), (1, .int (nI N)), (0, .ref (q 0))]) X.1 X.2.1 dX3_run_30 hl (k := 1) rfl (nI_1 i) (by decide) rfl (fun ls hl => ?_)
      refine lv_iinc (v := nI (i + 1)) (lv' := [(3, .int (nI (i + 1))), (2, .int (nI (i + 1))), (1, .int (nI N)), (0, .ref (q 0))]) X.1 X.2.1 dX3_run_33 hl (k := 1) rfl (nI_1 i) (by decide) rfl (fun ls hl => ?_)
      refine lv_goto (tgt := 4) X.1 X.2.1 dX3_run_36 (by decide) ?_
      refine ih (i + 1) _ _ (by omega) hq.2 ls H locs hl Z (fun ls H locs hl Z => ?_)
      refine K ls H locs ?_ Z
      have e2 : i + 1 + (mRun d (gX3_step g mm) (mX3_step g mm)).1 = i + ((mRun d (gX3_step g mm) (mX3_step g mm)).1 + 1) := by omega
      rw [e2] at hl
      exact hl
set_option maxRecDepth 20000 in
set_option maxHeartbeats 4000000 in
theorem c_X3_run (l : Launch) (D : va_G) (cI : ClassId) (q : Nat → Nat) (g : Nat → Int32) (mm : Nat → Nat → Int32) (a1 : Int32) (hq : ∀ d, mOK d g mm) : MI l D cI yX3_run (.code yX3_run cX3_run 4 (some .int)) ({ frames := 4, cells := 0, slots := 0, locals := 87 } : Room) [.ref (q 0), .int a1] (mw q cI g mm) (mw q cI (gX3_run g mm a1) (mX3_run g mm a1)) (some (.int (rX3_run g mm a1))) := by
  refine MI.ofI (own := RX3) (by decide) rfl (Nat.le_of_ble_eq_true rfl) ?_
  intro p e s m args below meth c A ls Q X Z hl hret
  have hT : ∀ w ∈ TB, w ∈ (Cond.code yX3_run cX3_run 4 (some .int) :: TB) := fun _ h => List.mem_cons_of_mem _ h
  have hl : lv_has ls 4 [(0, .ref (q 0)), (1, .int a1)] := hl
  refine lv_iconst (v := 0) X.1 X.2.1 dX3_run_0 (by decide) ?_
  refine lv_istore_n (lv' := [(2, .int 0), (0, .ref (q 0)), (1, .int a1)]) X.1 X.2.1 dX3_run_1 rfl hl (by decide) rfl (fun ls hl => ?_)
  refine lv_iconst (v := 0) X.1 X.2.1 dX3_run_2 (by decide) ?_
  refine lv_istore_n (lv' := [(3, .int 0), (2, .int 0), (0, .ref (q 0)), (1, .int a1)]) X.1 X.2.1 dX3_run_3 rfl hl (by decide) rfl (fun ls hl => ?_)
  by_cases c_1 : a1 < 0
  · refine lv_iload_n X.1 X.2.1 dX3_run_4 rfl (lv_at hl 0 rfl) ?_
    refine lv_iload_n X.1 X.2.1 dX3_run_5 rfl (lv_at hl 3 rfl) ?_
    refine lv_icmp_ge (tgt := 39) X.1 X.2.1 dX3_run_6 (by decide) (fun _ => ?_) (fun c_2 => absurd (Int32.le_of_lt c_1) c_2)
    refine lv_iload_n X.1 X.2.1 dX3_run_39 rfl (lv_at hl 1 rfl) ?_
    exact hret _ _ _ _ _ _ Z (mw_eq (if_pos c_1).symm (if_pos c_1).symm) (if_pos c_1).symm dX3_run_40
  · by_cases c_8 : a1 ≤ 2000
    · obtain ⟨N, hN, rfl⟩ := nI_of2 (M := 2000) (n := 2000) (by decide) c_1 c_8
      refine lp_X3_run X hT D cI q N hN N 0 g mm (by omega) (hq N) ls _ _ (lv_sub hl [0, 1, 3, 2] rfl) Z (fun ls H locs hl Z => ?_)
      refine lv_iload_n X.1 X.2.1 dX3_run_39 rfl (lv_at hl 0 rfl) ?_
      have eN : (nI N).toNatClampNeg = N := nI_clamp (by omega)
      refine hret _ _ _ _ _ _ Z (mw_eq ?_ ?_) ?_ dX3_run_40
      · unfold gX3_run
        rw [if_neg c_1, if_pos c_8, eN]
      · unfold mX3_run
        rw [if_neg c_1, if_pos c_8, eN]
      · unfold rX3_run
        rw [if_neg c_1, if_pos c_8, eN, Nat.zero_add]
    · have e9 := ((if_neg c_1).trans (if_neg c_8) : (if a1 < 0 then (0 : Int32) else if a1 ≤ 2000 then nI (mRun a1.toNatClampNeg g mm).1 else 0) = 0)
      refine lv_iload_n X.1 X.2.1 dX3_run_4 rfl (lv_at hl 0 rfl) ?_
      refine lv_iload_n X.1 X.2.1 dX3_run_5 rfl (lv_at hl 3 rfl) ?_
      refine lv_icmp_ge (tgt := 39) X.1 X.2.1 dX3_run_6 (by decide) (fun _ => ?_) (fun _ => ?_)
      · refine lv_iload_n X.1 X.2.1 dX3_run_39 rfl (lv_at hl 1 rfl) ?_
        exact hret _ _ _ _ _ _ Z (mw_eq ((if_neg c_1).trans (if_neg c_8)).symm ((if_neg c_1).trans (if_neg c_8)).symm) e9.symm dX3_run_40
      · refine lv_iload_n X.1 X.2.1 dX3_run_9 rfl (lv_at hl 3 rfl) ?_
        refine lv_sipush (v := 2000) X.1 X.2.1 dX3_run_10 (by decide) ?_
        refine lv_icmp_gt (tgt := 39) X.1 X.2.1 dX3_run_13 (by decide) (fun _ => ?_) (fun c_9 => absurd (Int32.not_lt.mp c_9) c_8)
        refine lv_iload_n X.1 X.2.1 dX3_run_39 rfl (lv_at hl 1 rfl) ?_
        exact hret _ _ _ _ _ _ Z (mw_eq ((if_neg c_1).trans (if_neg c_8)).symm ((if_neg c_1).trans (if_neg c_8)).symm) e9.symm dX3_run_40
end
section
/-! numbers: words of 12 bits, bytes, bits -/
theorem two {P : Nat → Prop} (n : Nat) (h : ∀ a, a < n → ∀ b, b < 64 → P (64 * a + b)) : ∀ k, k < 64 * n → P k := by
  intro k hk
  have h1 := h (k / 64) (by omega) (k % 64) (by omega)
  rwa [show 64 * (k / 64) + k % 64 = k by omega] at h1
def w12 (x : Int32) : Prop := ∃ k : Nat, k < 4096 ∧ x = nI k
def w8 (x : Int32) : Prop := ∃ k : Nat, k < 256 ∧ x = nI k
def b1 (x : Int32) : Prop := x = 0 ∨ x = 1
theorem w8.w {x : Int32} (h : w8 x) : w12 x := by
  obtain ⟨k, h, e⟩ := h
  exact ⟨k, by omega, e⟩
theorem b1.w {x : Int32} (h : b1 x) : w12 x := by
  rcases h with rfl | rfl
  · exact ⟨0, by decide, rfl⟩
  · exact ⟨1, by decide, rfl⟩
theorem w12_0 : w12 0 := ⟨0, by decide, rfl⟩
theorem w8_0 : w8 0 := ⟨0, by decide, rfl⟩
theorem w12.vin {x : Int32} (h : w12 x) : vp_in x 4096 := by
  obtain ⟨k, h, rfl⟩ := h
  exact vp_in_nI h (by decide)
theorem nI_or (a b : Nat) : nI a ||| nI b = nI (a ||| b) := by
  apply Int32.toBitVec_inj.mp
  show BitVec.ofNat 32 a ||| BitVec.ofNat 32 b = BitVec.ofNat 32 (a ||| b)
  rw [BitVec.ofNat_or]
theorem nI_and (a b : Nat) : nI a &&& nI b = nI (a &&& b) := by
  apply Int32.toBitVec_inj.mp
  show BitVec.ofNat 32 a &&& BitVec.ofNat 32 b = BitVec.ofNat 32 (a &&& b)
  rw [BitVec.ofNat_and]
theorem w12.or {x y : Int32} (hx : w12 x) (hy : w12 y) : w12 (x ||| y) := by
  obtain ⟨a, ha, rfl⟩ := hx
  obtain ⟨b, hb, rfl⟩ := hy
  exact ⟨a ||| b, Nat.or_lt_two_pow (n := 12) ha hb, nI_or a b⟩
theorem w12.and {x y : Int32} (hx : w12 x) (hy : w12 y) : w12 (x &&& y) := by
  obtain ⟨a, ha, rfl⟩ := hx
  obtain ⟨b, hb, rfl⟩ := hy
  exact ⟨a &&& b, Nat.and_lt_two_pow (n := 12) a hb, nI_and a b⟩
theorem hasN_1 : ∀ k, k < 4096 → rX2_has (nI k) 1 = rX3_has (nI k) 1 := two (P := fun k => rX2_has (nI k) 1 = rX3_has (nI k) 1) 64 (by decide +kernel)
theorem has_1 {x : Int32} (h : w12 x) : rX2_has x 1 = rX3_has x 1 := by
  obtain ⟨k, h, rfl⟩ := h
  exact hasN_1 k h
theorem hasN_2 : ∀ k, k < 4096 → rX2_has (nI k) 2 = rX3_has (nI k) 2 := two (P := fun k => rX2_has (nI k) 2 = rX3_has (nI k) 2) 64 (by decide +kernel)
theorem has_2 {x : Int32} (h : w12 x) : rX2_has x 2 = rX3_has x 2 := by
  obtain ⟨k, h, rfl⟩ := h
  exact hasN_2 k h
theorem hasN_4 : ∀ k, k < 4096 → rX2_has (nI k) 4 = rX3_has (nI k) 4 := two (P := fun k => rX2_has (nI k) 4 = rX3_has (nI k) 4) 64 (by decide +kernel)
theorem has_4 {x : Int32} (h : w12 x) : rX2_has x 4 = rX3_has x 4 := by
  obtain ⟨k, h, rfl⟩ := h
  exact hasN_4 k h
theorem hasN_8 : ∀ k, k < 4096 → rX2_has (nI k) 8 = rX3_has (nI k) 8 := two (P := fun k => rX2_has (nI k) 8 = rX3_has (nI k) 8) 64 (by decide +kernel)
theorem has_8 {x : Int32} (h : w12 x) : rX2_has x 8 = rX3_has x 8 := by
  obtain ⟨k, h, rfl⟩ := h
  exact hasN_8 k h
theorem hasN_16 : ∀ k, k < 4096 → rX2_has (nI k) 16 = rX3_has (nI k) 16 := two (P := fun k => rX2_has (nI k) 16 = rX3_has (nI k) 16) 64 (by decide +kernel)
theorem has_16 {x : Int32} (h : w12 x) : rX2_has x 16 = rX3_has x 16 := by
  obtain ⟨k, h, rfl⟩ := h
  exact hasN_16 k h
theorem hasN_32 : ∀ k, k < 4096 → rX2_has (nI k) 32 = rX3_has (nI k) 32 := two (P := fun k => rX2_has (nI k) 32 = rX3_has (nI k) 32) 64 (by decide +kernel)
theorem has_32 {x : Int32} (h : w12 x) : rX2_has x 32 = rX3_has x 32 := by
  obtain ⟨k, h, rfl⟩ := h
  exact hasN_32 k h
theorem hasN_64 : ∀ k, k < 4096 → rX2_has (nI k) 64 = rX3_has (nI k) 64 := two (P := fun k => rX2_has (nI k) 64 = rX3_has (nI k) 64) 64 (by decide +kernel)
theorem has_64 {x : Int32} (h : w12 x) : rX2_has x 64 = rX3_has x 64 := by
  obtain ⟨k, h, rfl⟩ := h
  exact hasN_64 k h
theorem hasN_128 : ∀ k, k < 4096 → rX2_has (nI k) 128 = rX3_has (nI k) 128 := two (P := fun k => rX2_has (nI k) 128 = rX3_has (nI k) 128) 64 (by decide +kernel)
theorem has_128 {x : Int32} (h : w12 x) : rX2_has x 128 = rX3_has x 128 := by
  obtain ⟨k, h, rfl⟩ := h
  exact hasN_128 k h
theorem hasN_256 : ∀ k, k < 4096 → rX2_has (nI k) 256 = rX3_has (nI k) 256 := two (P := fun k => rX2_has (nI k) 256 = rX3_has (nI k) 256) 64 (by decide +kernel)
theorem has_256 {x : Int32} (h : w12 x) : rX2_has x 256 = rX3_has x 256 := by
  obtain ⟨k, h, rfl⟩ := h
  exact hasN_256 k h
theorem nxN : ∀ k, k < 4096 → rX2_next (nI k) = rX3_after (nI k) ∧ rX3_after (nI k) = nI ((k + 1) % 4096) := two (P := fun k => rX2_next (nI k) = rX3_after (nI k) ∧ rX3_after (nI k) = nI ((k + 1) % 4096)) 64 (by decide +kernel)
theorem nx_eq {x : Int32} (h : w12 x) : rX2_next x = rX3_after x := by
  obtain ⟨k, h, rfl⟩ := h
  exact (nxN k h).1
theorem after_w {x : Int32} (h : w12 x) : w12 (rX3_after x) := by
  obtain ⟨k, h, rfl⟩ := h
  exact ⟨_, Nat.mod_lt _ (by decide), (nxN k h).2⟩
theorem mskN : ∀ k, k < 4096 → nI k &&& 4095 = nI k := two (P := fun k => nI k &&& 4095 = nI k) 64 (by decide +kernel)
theorem msk {x : Int32} (h : w12 x) : x &&& 4095 = x := by
  obtain ⟨k, h, rfl⟩ := h
  exact mskN k h
theorem msk_w (x : Int32) : w12 (x &&& 4095) := by
  obtain ⟨j, h, e⟩ := pk_andE x (m := 4095) 12 (by decide)
  exact ⟨j, h, e⟩
theorem adN : ∀ k, k < 4096 → (nI k &&& 127) = nI k - nI k / 128 * 128 ∧ nI k - nI k / 128 * 128 = nI (k % 128) ∧ (nI k &&& 3968) = nI k - (nI k - nI k / 128 * 128) ∧ (nI k &&& 3968) = nI (k / 128 * 128) := two (P := fun k => (nI k &&& 127) = nI k - nI k / 128 * 128 ∧ nI k - nI k / 128 * 128 = nI (k % 128) ∧ (nI k &&& 3968) = nI k - (nI k - nI k / 128 * 128) ∧ (nI k &&& 3968) = nI (k / 128 * 128)) 64 (by decide +kernel)
theorem cdN : ∀ k, k < 4096 → nI k >>> ((9 : Int32) &&& 31) = nI k / 512 ∧ nI k / 512 = nI (k / 512) := two (P := fun k => nI k >>> ((9 : Int32) &&& 31) = nI k / 512 ∧ nI k / 512 = nI (k / 512)) 64 (by decide +kernel)
theorem cmN : ∀ k, k < 4096 → nI k ^^^ 4095 = 4095 - nI k ∧ 4095 - nI k = nI (4095 - k) := two (P := fun k => nI k ^^^ 4095 = 4095 - nI k ∧ 4095 - nI k = nI (4095 - k)) 64 (by decide +kernel)
theorem smN : ∀ k, k < 8192 → (nI k ≤ 4095 → nI k &&& 4095 = nI k ∧ k < 4096) ∧ (¬ nI k ≤ 4095 → nI k &&& 4095 = nI k + (-4096) ∧ nI k + (-4096) = nI (k - 4096) ∧ 4096 ≤ k) := two (P := fun k => (nI k ≤ 4095 → nI k &&& 4095 = nI k ∧ k < 4096) ∧ (¬ nI k ≤ 4095 → nI k &&& 4095 = nI k + (-4096) ∧ nI k + (-4096) = nI (k - 4096) ∧ 4096 ≤ k)) 128 (by decide +kernel)
theorem prN : ∀ k, k < 4096 → nI k &&& 255 = nI k - nI k / 256 * 256 := two (P := fun k => nI k &&& 255 = nI k - nI k / 256 * 256) 64 (by decide +kernel)
theorem xr1 {x : Int32} (h : b1 x) : x ^^^ 1 = 1 - x ∧ b1 (1 - x) := by
  rcases h with rfl | rfl
  · exact ⟨by decide, Or.inr (by decide)⟩
  · exact ⟨by decide, Or.inl (by decide)⟩
/-- the turn of 13 bits to the left, by p places -/
def rot (p k : Nat) : Nat := (k * 2 ^ p + k / 2 ^ (13 - p)) % 8192
def tl (l a p : Int32) : Int32 := ((((l <<< ((12 : Int32) &&& 31)) ||| a) <<< (p &&& 31)) ||| (((l <<< ((12 : Int32) &&& 31)) ||| a) >>> ((13 - p) &&& 31))) &&& 8191
theorem tlN_1 : ∀ k, k < 8192 → tl (nI (k / 4096)) (nI (k % 4096)) 1 = nI (rot 1 k) := two (P := fun k => tl (nI (k / 4096)) (nI (k % 4096)) 1 = nI (rot 1 k)) 128 (by decide +kernel)
theorem tlN_2 : ∀ k, k < 8192 → tl (nI (k / 4096)) (nI (k % 4096)) 2 = nI (rot 1 (rot 1 k)) := two (P := fun k => tl (nI (k / 4096)) (nI (k % 4096)) 2 = nI (rot 1 (rot 1 k))) 128 (by decide +kernel)
theorem tlN_12 : ∀ k, k < 8192 → tl (nI (k / 4096)) (nI (k % 4096)) (13 - 1) = nI (rot 12 k) := two (P := fun k => tl (nI (k / 4096)) (nI (k % 4096)) (13 - 1) = nI (rot 12 k)) 128 (by decide +kernel)
theorem tlN_11 : ∀ k, k < 8192 → tl (nI (k / 4096)) (nI (k % 4096)) (13 - 2) = nI (rot 12 (rot 12 k)) := two (P := fun k => tl (nI (k / 4096)) (nI (k % 4096)) (13 - 2) = nI (rot 12 (rot 12 k))) 128 (by decide +kernel)
def al (l a : Int32) : Int32 := l * 4096 + a
theorem alN : ∀ k, k < 8192 → al (nI (k / 4096)) (nI (k % 4096)) = nI k ∧ nI k / 2 + (nI k - nI k / 2 * 2) * 4096 = nI (rot 12 k) ∧ (nI k * 2 - nI k * 2 / 8192 * 8192) + nI k / 4096 = nI (rot 1 k) ∧ nI k / 4096 = nI (k / 4096) ∧ nI k - nI k / 4096 * 4096 = nI (k % 4096) ∧ nI k >>> ((12 : Int32) &&& 31) = nI (k / 4096) ∧ nI k &&& 4095 = nI (k % 4096) := two (P := fun k => al (nI (k / 4096)) (nI (k % 4096)) = nI k ∧ nI k / 2 + (nI k - nI k / 2 * 2) * 4096 = nI (rot 12 k) ∧ (nI k * 2 - nI k * 2 / 8192 * 8192) + nI k / 4096 = nI (rot 1 k) ∧ nI k / 4096 = nI (k / 4096) ∧ nI k - nI k / 4096 * 4096 = nI (k % 4096) ∧ nI k >>> ((12 : Int32) &&& 31) = nI (k / 4096) ∧ nI k &&& 4095 = nI (k % 4096)) 128 (by decide +kernel)
end
section
/-! the class beside the reference: one state, told twice -/
def RG (g f r : Nat → Int32) : Prop := g 0 = r 0 ∧ g 1 = r 1 ∧ g 2 = r 2 ∧ g 3 = r 3 ∧ g 4 = r 4 ∧ g 5 = r 10 ∧ g 6 = r 5 ∧ g 7 = r 6 ∧ g 8 = r 9 ∧ g 13 = r 8 ∧ g 14 = r 7 ∧ g 9 = f 4 ∧ g 10 = f 5 ∧ g 11 = f 0 ∧ g 12 = f 1 ∧ g 15 = f 2 ∧ g 16 = f 3
def RV (r : Nat → Int32) : Prop := w12 (r 0) ∧ b1 (r 1) ∧ w12 (r 2) ∧ w12 (r 3) ∧ w12 (r 4) ∧ b1 (r 5) ∧ b1 (r 6) ∧ b1 (r 7) ∧ w8 (r 8) ∧ b1 (r 9) ∧ b1 (r 10)
def RT (f : Nat → Int32) : Prop := ∃ a b : Nat, a ≤ b ∧ b ≤ 400 ∧ f 1 = nI a ∧ f 0 = nI b
def ring (c : Int32) (row out : Nat → Int32) : Prop := ∀ k, k < 64 → out k = row ((c.toBitVec.toNat + (63 - k)) % 64)
def RR (g : Nat → Int32) (mm : Nat → Nat → Int32) (f : Nat → Int32) (n : Nat → Nat → Int32) : Prop := RG g f (n 1) ∧ RV (n 1) ∧ RT f ∧ mm 0 = n 0 ∧ (∀ j, w12 (n 0 j)) ∧ mm 1 = n 2 ∧ (∀ j, w8 (n 2 j)) ∧ ring (g 15) (mm 2) (n 3) ∧ ring (g 16) (mm 3) (n 4)
section RRS
variable {g f : Nat → Int32} {mm n : Nat → Nat → Int32} {v vv : Int32}
theorem RR.e0 (h : RR g mm f n) : g 0 = n 1 0 := h.1.1
theorem RR.e1 (h : RR g mm f n) : g 1 = n 1 1 := h.1.2.1
theorem RR.e2 (h : RR g mm f n) : g 2 = n 1 2 := h.1.2.2.1
theorem RR.e3 (h : RR g mm f n) : g 3 = n 1 3 := h.1.2.2.2.1
theorem RR.e4 (h : RR g mm f n) : g 4 = n 1 4 := h.1.2.2.2.2.1
theorem RR.e5 (h : RR g mm f n) : g 5 = n 1 10 := h.1.2.2.2.2.2.1
theorem RR.e6 (h : RR g mm f n) : g 6 = n 1 5 := h.1.2.2.2.2.2.2.1
theorem RR.e7 (h : RR g mm f n) : g 7 = n 1 6 := h.1.2.2.2.2.2.2.2.1
theorem RR.e8 (h : RR g mm f n) : g 8 = n 1 9 := h.1.2.2.2.2.2.2.2.2.1
theorem RR.e13 (h : RR g mm f n) : g 13 = n 1 8 := h.1.2.2.2.2.2.2.2.2.2.1
theorem RR.e14 (h : RR g mm f n) : g 14 = n 1 7 := h.1.2.2.2.2.2.2.2.2.2.2.1
theorem RR.e9 (h : RR g mm f n) : g 9 = f 4 := h.1.2.2.2.2.2.2.2.2.2.2.2.1
theorem RR.e10 (h : RR g mm f n) : g 10 = f 5 := h.1.2.2.2.2.2.2.2.2.2.2.2.2.1
theorem RR.e11 (h : RR g mm f n) : g 11 = f 0 := h.1.2.2.2.2.2.2.2.2.2.2.2.2.2.1
theorem RR.e12 (h : RR g mm f n) : g 12 = f 1 := h.1.2.2.2.2.2.2.2.2.2.2.2.2.2.2.1
theorem RR.e15 (h : RR g mm f n) : g 15 = f 2 := h.1.2.2.2.2.2.2.2.2.2.2.2.2.2.2.2.1
theorem RR.e16 (h : RR g mm f n) : g 16 = f 3 := h.1.2.2.2.2.2.2.2.2.2.2.2.2.2.2.2.2
theorem RR.v0 (h : RR g mm f n) : w12 (n 1 0) := h.2.1.1
theorem RR.v1 (h : RR g mm f n) : b1 (n 1 1) := h.2.1.2.1
theorem RR.v2 (h : RR g mm f n) : w12 (n 1 2) := h.2.1.2.2.1
theorem RR.v3 (h : RR g mm f n) : w12 (n 1 3) := h.2.1.2.2.2.1
theorem RR.v4 (h : RR g mm f n) : w12 (n 1 4) := h.2.1.2.2.2.2.1
theorem RR.v5 (h : RR g mm f n) : b1 (n 1 5) := h.2.1.2.2.2.2.2.1
theorem RR.v6 (h : RR g mm f n) : b1 (n 1 6) := h.2.1.2.2.2.2.2.2.1
theorem RR.v7 (h : RR g mm f n) : b1 (n 1 7) := h.2.1.2.2.2.2.2.2.2.1
theorem RR.v8 (h : RR g mm f n) : w8 (n 1 8) := h.2.1.2.2.2.2.2.2.2.2.1
theorem RR.v9 (h : RR g mm f n) : b1 (n 1 9) := h.2.1.2.2.2.2.2.2.2.2.2.1
theorem RR.v10 (h : RR g mm f n) : b1 (n 1 10) := h.2.1.2.2.2.2.2.2.2.2.2.2
theorem RR.rt (h : RR g mm f n) : RT f := h.2.2.1
theorem RR.c0 (h : RR g mm f n) : mm 0 = n 0 := h.2.2.2.1
theorem RR.cw (h : RR g mm f n) (j : Nat) : w12 (n 0 j) := h.2.2.2.2.1 j
theorem RR.t0 (h : RR g mm f n) : mm 1 = n 2 := h.2.2.2.2.2.1
theorem RR.tw (h : RR g mm f n) (j : Nat) : w8 (n 2 j) := h.2.2.2.2.2.2.1 j
theorem RR.r15 (h : RR g mm f n) : ring (g 15) (mm 2) (n 3) := h.2.2.2.2.2.2.2.1
theorem RR.r16 (h : RR g mm f n) : ring (g 16) (mm 3) (n 4) := h.2.2.2.2.2.2.2.2
theorem RR.s0 (h : RR g mm f n) (e : v = vv) (hv : w12 vv) : RR (upd g 0 v) mm f (va_up n 1 (upd (n 1) 0 vv)) := by
  subst e
  obtain ⟨⟨h0, h1, h2, h3, h4, h5, h6, h7, h8, h13, h14, h9, h10, h11, h12, h15, h16⟩, ⟨v0, v1, v2, v3, v4, v5, v6, v7, v8, v9, v10⟩, ht, hc, hw, htp, ht8, hr1, hr2⟩ := h
  exact ⟨⟨rfl, h1, h2, h3, h4, h5, h6, h7, h8, h13, h14, h9, h10, h11, h12, h15, h16⟩, ⟨hv, v1, v2, v3, v4, v5, v6, v7, v8, v9, v10⟩, ht, hc, hw, htp, ht8, hr1, hr2⟩
theorem RR.s1 (h : RR g mm f n) (e : v = vv) (hv : b1 vv) : RR (upd g 1 v) mm f (va_up n 1 (upd (n 1) 1 vv)) := by
  subst e
  obtain ⟨⟨h0, h1, h2, h3, h4, h5, h6, h7, h8, h13, h14, h9, h10, h11, h12, h15, h16⟩, ⟨v0, v1, v2, v3, v4, v5, v6, v7, v8, v9, v10⟩, ht, hc, hw, htp, ht8, hr1, hr2⟩ := h
  exact ⟨⟨h0, rfl, h2, h3, h4, h5, h6, h7, h8, h13, h14, h9, h10, h11, h12, h15, h16⟩, ⟨v0, hv, v2, v3, v4, v5, v6, v7, v8, v9, v10⟩, ht, hc, hw, htp, ht8, hr1, hr2⟩
theorem RR.s2 (h : RR g mm f n) (e : v = vv) (hv : w12 vv) : RR (upd g 2 v) mm f (va_up n 1 (upd (n 1) 2 vv)) := by
  subst e
  obtain ⟨⟨h0, h1, h2, h3, h4, h5, h6, h7, h8, h13, h14, h9, h10, h11, h12, h15, h16⟩, ⟨v0, v1, v2, v3, v4, v5, v6, v7, v8, v9, v10⟩, ht, hc, hw, htp, ht8, hr1, hr2⟩ := h
  exact ⟨⟨h0, h1, rfl, h3, h4, h5, h6, h7, h8, h13, h14, h9, h10, h11, h12, h15, h16⟩, ⟨v0, v1, hv, v3, v4, v5, v6, v7, v8, v9, v10⟩, ht, hc, hw, htp, ht8, hr1, hr2⟩
theorem RR.s3 (h : RR g mm f n) (e : v = vv) (hv : w12 vv) : RR (upd g 3 v) mm f (va_up n 1 (upd (n 1) 3 vv)) := by
  subst e
  obtain ⟨⟨h0, h1, h2, h3, h4, h5, h6, h7, h8, h13, h14, h9, h10, h11, h12, h15, h16⟩, ⟨v0, v1, v2, v3, v4, v5, v6, v7, v8, v9, v10⟩, ht, hc, hw, htp, ht8, hr1, hr2⟩ := h
  exact ⟨⟨h0, h1, h2, rfl, h4, h5, h6, h7, h8, h13, h14, h9, h10, h11, h12, h15, h16⟩, ⟨v0, v1, v2, hv, v4, v5, v6, v7, v8, v9, v10⟩, ht, hc, hw, htp, ht8, hr1, hr2⟩
theorem RR.s4 (h : RR g mm f n) (e : v = vv) (hv : w12 vv) : RR (upd g 4 v) mm f (va_up n 1 (upd (n 1) 4 vv)) := by
  subst e
  obtain ⟨⟨h0, h1, h2, h3, h4, h5, h6, h7, h8, h13, h14, h9, h10, h11, h12, h15, h16⟩, ⟨v0, v1, v2, v3, v4, v5, v6, v7, v8, v9, v10⟩, ht, hc, hw, htp, ht8, hr1, hr2⟩ := h
  exact ⟨⟨h0, h1, h2, h3, rfl, h5, h6, h7, h8, h13, h14, h9, h10, h11, h12, h15, h16⟩, ⟨v0, v1, v2, v3, hv, v5, v6, v7, v8, v9, v10⟩, ht, hc, hw, htp, ht8, hr1, hr2⟩
theorem RR.s5 (h : RR g mm f n) (e : v = vv) (hv : b1 vv) : RR (upd g 5 v) mm f (va_up n 1 (upd (n 1) 10 vv)) := by
  subst e
  obtain ⟨⟨h0, h1, h2, h3, h4, h5, h6, h7, h8, h13, h14, h9, h10, h11, h12, h15, h16⟩, ⟨v0, v1, v2, v3, v4, v5, v6, v7, v8, v9, v10⟩, ht, hc, hw, htp, ht8, hr1, hr2⟩ := h
  exact ⟨⟨h0, h1, h2, h3, h4, rfl, h6, h7, h8, h13, h14, h9, h10, h11, h12, h15, h16⟩, ⟨v0, v1, v2, v3, v4, v5, v6, v7, v8, v9, hv⟩, ht, hc, hw, htp, ht8, hr1, hr2⟩
theorem RR.s6 (h : RR g mm f n) (e : v = vv) (hv : b1 vv) : RR (upd g 6 v) mm f (va_up n 1 (upd (n 1) 5 vv)) := by
  subst e
  obtain ⟨⟨h0, h1, h2, h3, h4, h5, h6, h7, h8, h13, h14, h9, h10, h11, h12, h15, h16⟩, ⟨v0, v1, v2, v3, v4, v5, v6, v7, v8, v9, v10⟩, ht, hc, hw, htp, ht8, hr1, hr2⟩ := h
  exact ⟨⟨h0, h1, h2, h3, h4, h5, rfl, h7, h8, h13, h14, h9, h10, h11, h12, h15, h16⟩, ⟨v0, v1, v2, v3, v4, hv, v6, v7, v8, v9, v10⟩, ht, hc, hw, htp, ht8, hr1, hr2⟩
theorem RR.s7 (h : RR g mm f n) (e : v = vv) (hv : b1 vv) : RR (upd g 7 v) mm f (va_up n 1 (upd (n 1) 6 vv)) := by
  subst e
  obtain ⟨⟨h0, h1, h2, h3, h4, h5, h6, h7, h8, h13, h14, h9, h10, h11, h12, h15, h16⟩, ⟨v0, v1, v2, v3, v4, v5, v6, v7, v8, v9, v10⟩, ht, hc, hw, htp, ht8, hr1, hr2⟩ := h
  exact ⟨⟨h0, h1, h2, h3, h4, h5, h6, rfl, h8, h13, h14, h9, h10, h11, h12, h15, h16⟩, ⟨v0, v1, v2, v3, v4, v5, hv, v7, v8, v9, v10⟩, ht, hc, hw, htp, ht8, hr1, hr2⟩
theorem RR.s8 (h : RR g mm f n) (e : v = vv) (hv : b1 vv) : RR (upd g 8 v) mm f (va_up n 1 (upd (n 1) 9 vv)) := by
  subst e
  obtain ⟨⟨h0, h1, h2, h3, h4, h5, h6, h7, h8, h13, h14, h9, h10, h11, h12, h15, h16⟩, ⟨v0, v1, v2, v3, v4, v5, v6, v7, v8, v9, v10⟩, ht, hc, hw, htp, ht8, hr1, hr2⟩ := h
  exact ⟨⟨h0, h1, h2, h3, h4, h5, h6, h7, rfl, h13, h14, h9, h10, h11, h12, h15, h16⟩, ⟨v0, v1, v2, v3, v4, v5, v6, v7, v8, hv, v10⟩, ht, hc, hw, htp, ht8, hr1, hr2⟩
theorem RR.s13 (h : RR g mm f n) (e : v = vv) (hv : w8 vv) : RR (upd g 13 v) mm f (va_up n 1 (upd (n 1) 8 vv)) := by
  subst e
  obtain ⟨⟨h0, h1, h2, h3, h4, h5, h6, h7, h8, h13, h14, h9, h10, h11, h12, h15, h16⟩, ⟨v0, v1, v2, v3, v4, v5, v6, v7, v8, v9, v10⟩, ht, hc, hw, htp, ht8, hr1, hr2⟩ := h
  exact ⟨⟨h0, h1, h2, h3, h4, h5, h6, h7, h8, rfl, h14, h9, h10, h11, h12, h15, h16⟩, ⟨v0, v1, v2, v3, v4, v5, v6, v7, hv, v9, v10⟩, ht, hc, hw, htp, ht8, hr1, hr2⟩
theorem RR.s14 (h : RR g mm f n) (e : v = vv) (hv : b1 vv) : RR (upd g 14 v) mm f (va_up n 1 (upd (n 1) 7 vv)) := by
  subst e
  obtain ⟨⟨h0, h1, h2, h3, h4, h5, h6, h7, h8, h13, h14, h9, h10, h11, h12, h15, h16⟩, ⟨v0, v1, v2, v3, v4, v5, v6, v7, v8, v9, v10⟩, ht, hc, hw, htp, ht8, hr1, hr2⟩ := h
  exact ⟨⟨h0, h1, h2, h3, h4, h5, h6, h7, h8, h13, rfl, h9, h10, h11, h12, h15, h16⟩, ⟨v0, v1, v2, v3, v4, v5, v6, hv, v8, v9, v10⟩, ht, hc, hw, htp, ht8, hr1, hr2⟩
theorem RR.i9 (h : RR g mm f n) (e : v = vv) : RR (upd g 9 v) mm (upd f 4 vv) n := by
  subst e
  obtain ⟨⟨h0, h1, h2, h3, h4, h5, h6, h7, h8, h13, h14, h9, h10, h11, h12, h15, h16⟩, ⟨v0, v1, v2, v3, v4, v5, v6, v7, v8, v9, v10⟩, ht, hc, hw, htp, ht8, hr1, hr2⟩ := h
  exact ⟨⟨h0, h1, h2, h3, h4, h5, h6, h7, h8, h13, h14, rfl, h10, h11, h12, h15, h16⟩, ⟨v0, v1, v2, v3, v4, v5, v6, v7, v8, v9, v10⟩, ht, hc, hw, htp, ht8, hr1, hr2⟩
theorem RR.i10 (h : RR g mm f n) (e : v = vv) : RR (upd g 10 v) mm (upd f 5 vv) n := by
  subst e
  obtain ⟨⟨h0, h1, h2, h3, h4, h5, h6, h7, h8, h13, h14, h9, h10, h11, h12, h15, h16⟩, ⟨v0, v1, v2, v3, v4, v5, v6, v7, v8, v9, v10⟩, ht, hc, hw, htp, ht8, hr1, hr2⟩ := h
  exact ⟨⟨h0, h1, h2, h3, h4, h5, h6, h7, h8, h13, h14, h9, rfl, h11, h12, h15, h16⟩, ⟨v0, v1, v2, v3, v4, v5, v6, v7, v8, v9, v10⟩, ht, hc, hw, htp, ht8, hr1, hr2⟩
theorem RR.i11 (h : RR g mm f n) (e : v = vv) (hv : RT (upd f 0 vv)) : RR (upd g 11 v) mm (upd f 0 vv) n := by
  subst e
  obtain ⟨⟨h0, h1, h2, h3, h4, h5, h6, h7, h8, h13, h14, h9, h10, h11, h12, h15, h16⟩, ⟨v0, v1, v2, v3, v4, v5, v6, v7, v8, v9, v10⟩, ht, hc, hw, htp, ht8, hr1, hr2⟩ := h
  exact ⟨⟨h0, h1, h2, h3, h4, h5, h6, h7, h8, h13, h14, h9, h10, rfl, h12, h15, h16⟩, ⟨v0, v1, v2, v3, v4, v5, v6, v7, v8, v9, v10⟩, hv, hc, hw, htp, ht8, hr1, hr2⟩
theorem RR.i12 (h : RR g mm f n) (e : v = vv) (hv : RT (upd f 1 vv)) : RR (upd g 12 v) mm (upd f 1 vv) n := by
  subst e
  obtain ⟨⟨h0, h1, h2, h3, h4, h5, h6, h7, h8, h13, h14, h9, h10, h11, h12, h15, h16⟩, ⟨v0, v1, v2, v3, v4, v5, v6, v7, v8, v9, v10⟩, ht, hc, hw, htp, ht8, hr1, hr2⟩ := h
  exact ⟨⟨h0, h1, h2, h3, h4, h5, h6, h7, h8, h13, h14, h9, h10, h11, rfl, h15, h16⟩, ⟨v0, v1, v2, v3, v4, v5, v6, v7, v8, v9, v10⟩, hv, hc, hw, htp, ht8, hr1, hr2⟩
theorem RR.core (h : RR g mm f n) {i : Nat} (e : v = vv) (hv : w12 vv) : RR g (va_up mm 0 (upd (mm 0) i v)) f (va_up n 0 (upd (n 0) i vv)) := by
  subst e
  obtain ⟨⟨h0, h1, h2, h3, h4, h5, h6, h7, h8, h13, h14, h9, h10, h11, h12, h15, h16⟩, ⟨v0, v1, v2, v3, v4, v5, v6, v7, v8, v9, v10⟩, ht, hc, hw, htp, ht8, hr1, hr2⟩ := h
  refine ⟨⟨h0, h1, h2, h3, h4, h5, h6, h7, h8, h13, h14, h9, h10, h11, h12, h15, h16⟩, ⟨v0, v1, v2, v3, v4, v5, v6, v7, v8, v9, v10⟩, ht, ?_, ?_, htp, ht8, hr1, hr2⟩
  · show upd (mm 0) i v = upd (n 0) i v
    rw [hc]
  · intro j
    show w12 (upd (n 0) i v j)
    unfold upd
    split
    · exact hv
    · exact hw j
theorem RR.tape (h : RR g mm f n) {i : Nat} (hv : w8 v) : RR g (va_up mm 1 (upd (mm 1) i v)) f (va_up n 2 (upd (n 2) i v)) := by
  obtain ⟨⟨h0, h1, h2, h3, h4, h5, h6, h7, h8, h13, h14, h9, h10, h11, h12, h15, h16⟩, ⟨v0, v1, v2, v3, v4, v5, v6, v7, v8, v9, v10⟩, ht, hc, hw, htp, ht8, hr1, hr2⟩ := h
  refine ⟨⟨h0, h1, h2, h3, h4, h5, h6, h7, h8, h13, h14, h9, h10, h11, h12, h15, h16⟩, ⟨v0, v1, v2, v3, v4, v5, v6, v7, v8, v9, v10⟩, ht, hc, hw, ?_, ?_, hr1, hr2⟩
  · show upd (mm 1) i v = upd (n 2) i v
    rw [htp]
  · intro j
    show w8 (upd (n 2) i v j)
    unfold upd
    split
    · exact hv
    · exact ht8 j
theorem ix63 (x : Int32) : (x &&& 63).toNatClampNeg = x.toBitVec.toNat % 64 := by
  rw [pk_and x (m := 63) 6 (by decide)]
  exact nI_clamp (by omega)
theorem ixF (c : Int32) {k : Nat} (hk : k < 64) : (((c - 1) - nI k) &&& 63).toNatClampNeg = (c.toBitVec.toNat + (63 - k)) % 64 := by
  rw [ix63, Int32.toBitVec_sub, Int32.toBitVec_sub, BitVec.toNat_sub, BitVec.toNat_sub, pk_tn (show k < 2 ^ 32 by omega), show (1 : Int32).toBitVec.toNat = 1 from rfl]
  have := c.toBitVec.isLt
  omega
theorem ring_add {c x : Int32} {row out : Nat → Int32} (h : ring c row out) : ring (c + 1) (upd row ((c &&& 63).toNatClampNeg) x) (upd (shf out 0) 0 x) := by
  intro k hk
  have hC := c.toBitVec.isLt
  have e1 : (c + 1).toBitVec.toNat = (c.toBitVec.toNat + 1) % 2 ^ 32 := by
    rw [Int32.toBitVec_add, BitVec.toNat_add]
    rfl
  rw [ix63, e1]
  unfold upd
  by_cases h0 : k = 0
  · subst h0
    rw [if_pos rfl, if_pos (by omega)]
  · rw [if_neg h0, if_neg (by omega)]
    unfold shf
    rw [if_pos (by omega), h (k - 1) (by omega)]
    congr 1
    omega
theorem RR.tr (h : RR g mm f n) (x : Int32) : RR (upd g 16 (g 16 + 1)) (va_up mm 3 (upd (mm 3) ((g 16 &&& 63).toNatClampNeg) x)) (upd f 3 (f 3 + 1)) (va_up n 4 (upd (shf (n 4) 0) 0 x)) := by
  obtain ⟨⟨h0, h1, h2, h3, h4, h5, h6, h7, h8, h13, h14, h9, h10, h11, h12, h15, h16⟩, ⟨v0, v1, v2, v3, v4, v5, v6, v7, v8, v9, v10⟩, ht, hc, hw, htp, ht8, hr1, hr2⟩ := h
  refine ⟨⟨h0, h1, h2, h3, h4, h5, h6, h7, h8, h13, h14, h9, h10, h11, h12, h15, ?_⟩, ⟨v0, v1, v2, v3, v4, v5, v6, v7, v8, v9, v10⟩, ht, hc, hw, htp, ht8, hr1, ring_add hr2⟩
  show g 16 + 1 = f 3 + 1
  rw [h16]
theorem RR.pr (h : RR g mm f n) (x : Int32) : RR (upd g 15 (g 15 + 1)) (va_up mm 2 (upd (mm 2) ((g 15 &&& 63).toNatClampNeg) x)) (upd f 2 (f 2 + 1)) (va_up n 3 (upd (shf (n 3) 0) 0 x)) := by
  obtain ⟨⟨h0, h1, h2, h3, h4, h5, h6, h7, h8, h13, h14, h9, h10, h11, h12, h15, h16⟩, ⟨v0, v1, v2, v3, v4, v5, v6, v7, v8, v9, v10⟩, ht, hc, hw, htp, ht8, hr1, hr2⟩ := h
  refine ⟨⟨h0, h1, h2, h3, h4, h5, h6, h7, h8, h13, h14, h9, h10, h11, h12, ?_, h16⟩, ⟨v0, v1, v2, v3, v4, v5, v6, v7, v8, v9, v10⟩, ht, hc, hw, htp, ht8, ring_add hr1, hr2⟩
  show g 15 + 1 = f 2 + 1
  rw [h15]
theorem RR.ga {g2 : Nat → Int32} (h : RR g mm f n) (e : g = g2) : RR g2 mm f n := e ▸ h
theorem RR.na {n2 : Nat → Nat → Int32} (h : RR g mm f n) (e : n = n2) : RR g mm f n2 := e ▸ h
end RRS
end
section
/-! step by step: skip, add, the address, the codes 0 to 5, the second and third groups of code 7 -/
section SIMA
variable {g f : Nat → Int32} {mm n : Nat → Nat → Int32}
theorem skip_0 {b : Int32} (hb : b = 0) : gX2_skipIf g mm b = g := if_pos hb
theorem sim_skip {b : Int32} (h : RR g mm f n) (hb : ¬ b = 0) : RR (gX2_skipIf g mm b) mm (gX3_skip f n) (mX3_skip f n) := by
  have e : gX2_skipIf g mm b = (upd (upd g 2 (rX2_next (g 2))) 10 (((upd g 2 (rX2_next (g 2))) 10) + 1)) := if_neg hb
  rw [e]
  have h1 := h.s2 (v := rX2_next (g 2)) (vv := rX3_after (n 1 2)) (by rw [h.e2]; exact nx_eq h.v2) (after_w h.v2)
  exact h1.i10 (v := ((upd g 2 (rX2_next (g 2))) 10) + 1) (vv := f 5 + 1) (by show g 10 + 1 = f 5 + 1; rw [h.e10])
theorem sim_add {x : Int32} (h : RR g mm f n) (hx : w12 x) : RR (gX2_add g mm x) mm f (mX3_add f n x) := by
  obtain ⟨a, ha, ea⟩ := h.v0
  obtain ⟨b, hb, rfl⟩ := hx
  have e0 : g 0 = nI a := h.e0.trans ea
  show RR (upd (uX2_add_j24_g g (nI b)) 0 ((g 0 + nI b) &&& 4095)) mm f (va_up (uX3_add_j36_mm n (nI b)) 1 (upd ((uX3_add_j36_mm n (nI b)) 1) 0 (uX3_add_j36_l2 n (nI b))))
  have hs := smN (a + b) (by omega)
  unfold uX2_add_j24_g uX3_add_j36_mm uX3_add_j36_l2
  rw [e0, ea, nI_add]
  by_cases c : nI (a + b) ≤ 4095
  · rw [if_pos c, if_pos c, if_pos c]
    exact h.s0 (hs.1 c).1 ⟨a + b, (hs.1 c).2, rfl⟩
  · rw [if_neg c, if_neg c, if_neg c]
    have h1 := h.s1 (v := g 1 ^^^ 1) (vv := 1 - n 1 1) (by rw [h.e1]; exact (xr1 h.v1).1) (xr1 h.v1).2
    exact h1.s0 (hs.2 c).1 ⟨a + b - 4096, by omega, (hs.2 c).2.1⟩
theorem word_eq {x : Int32} (h : RR g mm f n) (hx : w12 x) : rX2_wordAt g mm x = n 0 x.toNatClampNeg := by
  unfold rX2_wordAt
  rw [msk hx, h.c0]
theorem put_eq {x v : Int32} (hx : w12 x) (hv : w12 v) : mX2_putWord g mm x v = va_up mm 0 (upd (mm 0) x.toNatClampNeg v) := by
  unfold mX2_putWord
  rw [msk hx, msk hv]
theorem addr_eq {w e : Int32} (hw : w12 w) (he : w12 e) : uX2_effectiveAddress_j23_l3 w e = uX3_place_j26_l3 w e ∧ w12 (uX3_place_j26_l3 w e) := by
  have hh := has_128 hw
  obtain ⟨a, ha, rfl⟩ := hw
  obtain ⟨b, hb, rfl⟩ := he
  obtain ⟨q1, q2, q3, q4⟩ := adN a ha
  obtain ⟨p1, p2, p3, p4⟩ := adN b hb
  unfold uX2_effectiveAddress_j23_l3 uX3_place_j26_l3
  rw [hh]
  split
  · exact ⟨q1, a % 128, by omega, q2⟩
  · rw [q1, p3]
    refine ⟨rfl, a % 128 + b / 128 * 128, by omega, ?_⟩
    rw [← p3, q2, p4, nI_add]
theorem sim_place {w e : Int32} (h : RR g mm f n) (hw : w12 w) (he : w12 e) : RR g (mX2_effectiveAddress g mm w e) f (mX3_place f n w e) ∧ rX2_effectiveAddress g mm w e = rX3_place f n w e ∧ w12 (rX3_place f n w e) := by
  obtain ⟨ea, wa⟩ := addr_eq hw he
  show RR g (if rX2_has w 256 = 0 then mm else uX2_effectiveAddress_j60_mm g mm (uX2_effectiveAddress_j23_l3 w e)) f (if rX3_has w 256 = 0 then n else uX3_place_j65_mm n (uX3_place_j26_l3 w e)) ∧ (if rX2_has w 256 = 0 then uX2_effectiveAddress_j23_l3 w e else rX2_wordAt g (uX2_effectiveAddress_j60_mm g mm (uX2_effectiveAddress_j23_l3 w e)) (uX2_effectiveAddress_j23_l3 w e)) = (if rX3_has w 256 = 0 then uX3_place_j26_l3 w e else uX3_place_j65_mm n (uX3_place_j26_l3 w e) 0 (uX3_place_j26_l3 w e).toNatClampNeg) ∧ w12 (if rX3_has w 256 = 0 then uX3_place_j26_l3 w e else uX3_place_j65_mm n (uX3_place_j26_l3 w e) 0 (uX3_place_j26_l3 w e).toNatClampNeg)
  rw [has_256 hw, ea]
  generalize uX3_place_j26_l3 w e = A at wa
  by_cases c : rX3_has w 256 = 0
  · simp only [if_pos c]
    exact ⟨h, trivial, wa⟩
  · simp only [if_neg c]
    have h2 : RR g (uX2_effectiveAddress_j60_mm g mm A) f (uX3_place_j65_mm n A) := by
      unfold uX2_effectiveAddress_j60_mm uX3_place_j65_mm
      split
      · exact h
      · split
        · exact h
        · have hv := h.cw A.toNatClampNeg
          rw [word_eq h wa, nx_eq hv, put_eq wa (after_w hv)]
          exact h.core rfl (after_w hv)
    exact ⟨h2, word_eq h2 wa, h2.cw _⟩
theorem sim_ref {e : Int32} {c : Nat} (h : RR g mm f n) (he : w12 e) (hc : c < 6) : RR (gX2_performAddressed g mm (nI c) e) (mX2_performAddressed g mm (nI c) e) (gX3_reference f n (nI c) e) (mX3_reference f n (nI c) e) := by
  have hv := h.cw e.toNatClampNeg
  have ew := word_eq h he
  have hc6 : c = 0 ∨ c = 1 ∨ c = 2 ∨ c = 3 ∨ c = 4 ∨ c = 5 := by omega
  show RR (uX2_performAddressed_j140_g g mm (nI c) e) (uX2_performAddressed_j140_mm g mm (nI c) e) (uX3_reference_j71_g f (nI c) e (uX3_reference_j38_mm f (nI c) e (uX3_reference_j23_mm n (nI c) e))) (uX3_reference_j134_mm (nI c) e (uX3_reference_j122_mm (nI c) e (uX3_reference_j95_mm (nI c) e (uX3_reference_j71_mm f (nI c) e (uX3_reference_j38_mm f (nI c) e (uX3_reference_j23_mm n (nI c) e))))))
  unfold uX2_performAddressed_j140_g uX2_performAddressed_j140_mm uX3_reference_j71_g uX3_reference_j134_mm uX3_reference_j122_mm uX3_reference_j95_mm uX3_reference_j71_mm uX3_reference_j38_mm uX3_reference_j23_mm
  rcases hc6 with rfl | rfl | rfl | rfl | rfl | rfl
  · simp only [if_pos (show nI 0 = 0 by decide), if_neg (show ¬ nI 0 = 1 by decide), if_neg (show ¬ nI 0 = 2 by decide), if_neg (show ¬ nI 0 = 3 by decide), if_neg (show ¬ nI 0 = 4 by decide), if_neg (show ¬ nI 0 = 5 by decide)]
    exact h.s0 (by rw [ew, h.e0]) (h.v0.and hv)
  · simp only [if_pos (show nI 1 = 1 by decide), if_neg (show ¬ nI 1 = 0 by decide), if_neg (show ¬ nI 1 = 2 by decide), if_neg (show ¬ nI 1 = 3 by decide), if_neg (show ¬ nI 1 = 4 by decide), if_neg (show ¬ nI 1 = 5 by decide)]
    rw [ew]
    exact sim_add h hv
  · simp only [if_pos (show nI 2 = 2 by decide), if_neg (show ¬ nI 2 = 0 by decide), if_neg (show ¬ nI 2 = 1 by decide), if_neg (show ¬ nI 2 = 3 by decide), if_neg (show ¬ nI 2 = 4 by decide), if_neg (show ¬ nI 2 = 5 by decide)]
    rw [ew, nx_eq hv, put_eq he (after_w hv)]
    have h1 : RR g (va_up mm 0 (upd (mm 0) e.toNatClampNeg (rX3_after (n 0 e.toNatClampNeg)))) f (va_up n 0 (upd (n 0) e.toNatClampNeg (rX3_after (n 0 e.toNatClampNeg)))) := h.core rfl (after_w hv)
    have e9 : uX2_performAddressed_j92_s0 g mm e = if (va_up n 0 (upd (n 0) e.toNatClampNeg (rX3_after (n 0 e.toNatClampNeg)))) 0 e.toNatClampNeg = 0 then 1 else 0 := by
      unfold uX2_performAddressed_j92_s0
      rw [ew, nx_eq hv, put_eq he (after_w hv), word_eq h1 he]
    rw [e9]
    by_cases cz : (va_up n 0 (upd (n 0) e.toNatClampNeg (rX3_after (n 0 e.toNatClampNeg)))) 0 e.toNatClampNeg = 0
    · simp only [if_pos cz]
      exact sim_skip h1 (by decide)
    · simp only [if_neg cz]
      rw [skip_0 rfl]
      exact h1
  · simp only [if_pos (show nI 3 = 3 by decide), if_neg (show ¬ nI 3 = 0 by decide), if_neg (show ¬ nI 3 = 1 by decide), if_neg (show ¬ nI 3 = 2 by decide), if_neg (show ¬ nI 3 = 4 by decide), if_neg (show ¬ nI 3 = 5 by decide)]
    rw [h.e0, put_eq he h.v0]
    exact (h.core rfl h.v0).s0 rfl w12_0
  · simp only [if_pos (show nI 4 = 4 by decide), if_neg (show ¬ nI 4 = 0 by decide), if_neg (show ¬ nI 4 = 1 by decide), if_neg (show ¬ nI 4 = 2 by decide), if_neg (show ¬ nI 4 = 3 by decide), if_neg (show ¬ nI 4 = 5 by decide)]
    rw [h.e2, put_eq he h.v2, nx_eq he]
    exact (h.core rfl h.v2).s2 rfl (after_w he)
  · simp only [if_pos (show nI 5 = 5 by decide), if_neg (show ¬ nI 5 = 0 by decide), if_neg (show ¬ nI 5 = 1 by decide), if_neg (show ¬ nI 5 = 2 by decide), if_neg (show ¬ nI 5 = 3 by decide), if_neg (show ¬ nI 5 = 4 by decide)]
    exact h.s2 rfl he
theorem sim_second {w : Int32} (h : RR g mm f n) (hw : w12 w) : RR (gX2_testAccumulator g mm w) mm (gX3_second f n w) (mX3_second f n w) := by
  have ec : uX2_testAccumulator_j57_s0 g w = uX3_second_j63_s0 n w := by
    unfold uX2_testAccumulator_j57_s0 uX3_second_j63_s0
    rw [has_64 hw, has_32 hw, has_16 hw, h.e0, h.e1]
  show RR (uX2_testAccumulator_j126_g w (uX2_testAccumulator_j113_g w (uX2_testAccumulator_j92_g g mm w (uX2_testAccumulator_j74_s0 w (uX2_testAccumulator_j57_s0 g w))))) mm (uX3_second_j78_g f n w (uX3_second_j63_s0 n w)) (uX3_second_j138_mm w (uX3_second_j122_mm w (uX3_second_j95_mm w (uX3_second_j78_mm f n w (uX3_second_j63_s0 n w)))))
  rw [ec]
  generalize uX3_second_j63_s0 n w = b
  have h1 : RR (gX2_skipIf g mm (uX2_testAccumulator_j74_s0 w b)) mm (uX3_second_j78_g f n w b) (uX3_second_j78_mm f n w b) := by
    unfold uX2_testAccumulator_j74_s0 uX3_second_j78_g uX3_second_j78_mm
    rw [has_8 hw]
    by_cases cb : b = rX3_has w 8
    · simp only [if_pos cb]
      rw [skip_0 rfl]
      exact h
    · simp only [if_neg cb]
      exact sim_skip h (by decide)
  unfold uX2_testAccumulator_j92_g
  generalize gX2_skipIf g mm (uX2_testAccumulator_j74_s0 w b) = g1 at h1
  generalize uX3_second_j78_g f n w b = f1 at h1
  generalize uX3_second_j78_mm f n w b = n1 at h1
  have h2 : RR (if rX2_has w 128 = 0 then g1 else upd g1 0 0) mm f1 (uX3_second_j95_mm w n1) := by
    unfold uX3_second_j95_mm
    rw [has_128 hw]
    split
    · exact h1
    · exact h1.s0 rfl w12_0
  generalize (if rX2_has w 128 = 0 then g1 else upd g1 0 0) = g2 at h2
  generalize uX3_second_j95_mm w n1 = n2 at h2
  have h3 : RR (uX2_testAccumulator_j113_g w g2) mm f1 (uX3_second_j122_mm w n2) := by
    unfold uX2_testAccumulator_j113_g uX3_second_j122_mm
    rw [has_4 hw]
    split
    · exact h2
    · exact h2.s0 (by rw [h2.e0, h2.e4]) (h2.v0.or h2.v4)
  generalize uX2_testAccumulator_j113_g w g2 = g3 at h3
  generalize uX3_second_j122_mm w n2 = n3 at h3
  unfold uX2_testAccumulator_j126_g uX3_second_j138_mm
  rw [has_2 hw]
  split
  · exact h3
  · exact h3.s5 rfl (Or.inr rfl)
end SIMA
end
section
/-! the third group, the first group with its turns, the devices -/
section SIMB
variable {g f : Nat → Int32} {mm n : Nat → Nat → Int32}
theorem RR.am {g2 : Nat → Int32} {S T : Int32} (h : RR g mm f n) (e0 : g2 0 = S) (e3 : g2 3 = T) (he : ∀ j, j ≠ 0 → j ≠ 3 → g2 j = g j) (hS : w12 S) (hT : w12 T) : RR g2 mm f (va_up (va_up n 1 (upd (n 1) 0 S)) 1 (upd ((va_up n 1 (upd (n 1) 0 S)) 1) 3 T)) := by
  obtain ⟨⟨h0, h1, h2, h3, h4, h5, h6, h7, h8, h13, h14, h9, h10, h11, h12, h15, h16⟩, ⟨v0, v1, v2, v3, v4, v5, v6, v7, v8, v9, v10⟩, ht, hc, hw, htp, ht8, hr1, hr2⟩ := h
  refine ⟨⟨e0, (he 1 (by decide) (by decide)).trans h1, (he 2 (by decide) (by decide)).trans h2, e3, (he 4 (by decide) (by decide)).trans h4, (he 5 (by decide) (by decide)).trans h5, (he 6 (by decide) (by decide)).trans h6, (he 7 (by decide) (by decide)).trans h7, (he 8 (by decide) (by decide)).trans h8, (he 13 (by decide) (by decide)).trans h13, (he 14 (by decide) (by decide)).trans h14, (he 9 (by decide) (by decide)).trans h9, (he 10 (by decide) (by decide)).trans h10, (he 11 (by decide) (by decide)).trans h11, (he 12 (by decide) (by decide)).trans h12, (he 15 (by decide) (by decide)).trans h15, (he 16 (by decide) (by decide)).trans h16⟩, ⟨hS, v1, v2, hT, v4, v5, v6, v7, v8, v9, v10⟩, ht, hc, hw, htp, ht8, ?_, ?_⟩
  · rw [he 15 (by decide) (by decide)]
    exact hr1
  · rw [he 16 (by decide) (by decide)]
    exact hr2
theorem or0 {x : Int32} (h : w12 x) : 0 ||| x = x := by
  obtain ⟨k, hk, rfl⟩ := h
  rw [← nI_0, nI_or, Nat.zero_or]
theorem sim_third {w : Int32} (h : RR g mm f n) (hw : w12 w) : RR (gX2_exchangeWithMq g mm w) mm f (mX3_third f n w) := by
  show RR (uX2_exchangeWithMq_j67_g w (uX2_exchangeWithMq_j15_g g w) (uX2_exchangeWithMq_j52_g w (uX2_exchangeWithMq_j15_g g w))) mm f (va_up (va_up n 1 (upd (n 1) 0 (uX3_third_j84_s0 n w (uX3_third_j20_s0 n w)))) 1 (upd ((va_up n 1 (upd (n 1) 0 (uX3_third_j84_s0 n w (uX3_third_j20_s0 n w)))) 1) 3 (uX3_third_j100_s0 n w (uX3_third_j20_s0 n w))))
  have h1 : uX2_exchangeWithMq_j15_g g w 0 = uX3_third_j20_s0 n w ∧ w12 (uX3_third_j20_s0 n w) ∧ ∀ j, j ≠ 0 → uX2_exchangeWithMq_j15_g g w j = g j := by
    unfold uX2_exchangeWithMq_j15_g uX3_third_j20_s0
    rw [has_128 hw]
    split
    · exact ⟨h.e0, h.v0, fun _ _ => rfl⟩
    · exact ⟨rfl, w12_0, fun j hj => if_neg hj⟩
  obtain ⟨e0, wa, ej⟩ := h1
  generalize uX2_exchangeWithMq_j15_g g w = G at e0 ej
  generalize uX3_third_j20_s0 n w = a at e0 wa
  have e3 : G 3 = n 1 3 := (ej 3 (by decide)).trans h.e3
  unfold uX2_exchangeWithMq_j67_g uX2_exchangeWithMq_j52_g uX3_third_j84_s0 uX3_third_j100_s0
  rw [has_16 hw, has_64 hw]
  by_cases c1 : rX3_has w 16 = 0
  · by_cases c2 : rX3_has w 64 = 0
    · simp only [if_pos c1, if_pos c2]
      exact h.am e0 e3 (fun j h0 _ => ej j h0) wa h.v3
    · simp only [if_pos c1, if_neg c2]
      refine h.am ?_ e3 (fun j h0 _ => (if_neg h0).trans (ej j h0)) (wa.or h.v3) h.v3
      show G 0 ||| G 3 = _
      rw [e0, e3]
  · by_cases c2 : rX3_has w 64 = 0
    · simp only [if_neg c1, if_pos c2]
      refine h.am rfl e0 (fun j h0 h3 => ?_) w12_0 wa
      exact (if_neg h0).trans ((if_neg h3).trans (ej j h0))
    · simp only [if_neg c1, if_neg c2]
      refine h.am ?_ e0 (fun j h0 h3 => ?_) h.v3 wa
      · show 0 ||| G 3 = _
        rw [e3]
        exact or0 h.v3
      · exact (if_neg h0).trans ((if_neg h0).trans ((if_neg h3).trans (ej j h0)))
theorem rot_lt (p k : Nat) : rot p k < 8192 := Nat.mod_lt _ (by decide)
theorem has_b (w B : Int32) : rX3_has w B = 0 ∨ rX3_has w B = 1 := by
  show uX3_has_j14_s0 w B = 0 ∨ uX3_has_j14_s0 w B = 1
  unfold uX3_has_j14_s0
  split
  · exact Or.inr rfl
  · exact Or.inl rfl
def stK (n : Nat → Nat → Int32) (K : Nat) : Prop := K < 8192 ∧ n 1 1 = nI (K / 4096) ∧ n 1 0 = nI (K % 4096)
theorem RR.st (h : RR g mm f n) : ∃ K, stK n K := by
  obtain ⟨a, ha, ea⟩ := h.v0
  rcases h.v1 with e | e
  · exact ⟨a, by omega, by rw [e, Nat.div_eq_of_lt ha]; rfl, by rw [ea, Nat.mod_eq_of_lt ha]⟩
  · refine ⟨4096 + a, by omega, ?_, ?_⟩
    · rw [e, show (4096 + a) / 4096 = 1 by omega]; rfl
    · rw [ea, show (4096 + a) % 4096 = a by omega]
def setK (n : Nat → Nat → Int32) (R : Nat) : Nat → Nat → Int32 := va_up (va_up n 1 (upd (n 1) 1 (nI (R / 4096)))) 1 (upd ((va_up n 1 (upd (n 1) 1 (nI (R / 4096)))) 1) 0 (nI (R % 4096)))
theorem setK_st {R : Nat} (hR : R < 8192) : stK (setK n R) R := ⟨hR, rfl, rfl⟩
theorem tn_set {lf : Int32} {K : Nat} (h : stK n K) : tnX3 lf n = setK n (if lf = 0 then rot 12 K else rot 1 K) := by
  obtain ⟨hK, h1, h0⟩ := h
  obtain ⟨q1, q2, q3, q4, q5, -, -⟩ := alN K hK
  have q1' : (n 1 1) * 4096 + n 1 0 = nI K := by rw [h1, h0]; exact q1
  show va_up (va_up n 1 (upd (n 1) 1 (uX3_first_j192_l5 n lf / 4096))) 1 (upd ((va_up n 1 (upd (n 1) 1 (uX3_first_j192_l5 n lf / 4096))) 1) 0 (uX3_first_j192_l5 n lf - uX3_first_j192_l5 n lf / 4096 * 4096)) = _
  have e : uX3_first_j192_l5 n lf = nI (if lf = 0 then rot 12 K else rot 1 K) := by
    unfold uX3_first_j192_l5
    rw [q1']
    split
    · exact q2
    · exact q3
  have hR : (if lf = 0 then rot 12 K else rot 1 K) < 8192 := by split <;> exact rot_lt _ _
  rw [e]
  generalize (if lf = 0 then rot 12 K else rot 1 K) = R at hR
  obtain ⟨-, -, -, q4, q5, -, -⟩ := alN R hR
  unfold setK
  rw [q5, q4]
theorem RR.setK {R : Nat} (h : RR g mm f n) (hR : R < 8192) : RR (upd (upd g 1 (nI (R / 4096))) 0 (nI (R % 4096))) mm f (setK n R) := by
  refine (h.s1 (v := nI (R / 4096)) rfl ?_).s0 rfl ⟨_, Nat.mod_lt _ (by decide), rfl⟩
  have : R / 4096 = 0 ∨ R / 4096 = 1 := by omega
  rcases this with e | e
  · rw [e]; exact Or.inl rfl
  · rw [e]; exact Or.inr rfl
theorem tl_set {p : Int32} {K R : Nat} (h : RR g mm f n) (hK : stK n K) (hR : R < 8192) (hp : tl (nI (K / 4096)) (nI (K % 4096)) p = nI R) : gX2_turnLeft g mm p = upd (upd g 1 (nI (R / 4096))) 0 (nI (R % 4096)) := by
  obtain ⟨-, -, -, -, -, q6, q7⟩ := alN R hR
  show upd (upd g 1 (tl (g 1) (g 0) p >>> ((12 : Int32) &&& 31))) 0 (tl (g 1) (g 0) p &&& 4095) = _
  rw [h.e1, h.e0, hK.2.1, hK.2.2, hp, q6, q7]
theorem upd4 {a b x y : Int32} : upd (upd (upd (upd g 1 a) 0 b) 1 x) 0 y = upd (upd g 1 x) 0 y := by
  funext j
  unfold upd
  by_cases h0 : j = 0
  · rw [if_pos h0, if_pos h0]
  · by_cases h1 : j = 1
    · rw [if_neg h0, if_pos h1, if_neg h0, if_pos h1]
    · rw [if_neg h0, if_neg h1, if_neg h0, if_neg h1, if_neg h0, if_neg h1]
theorem sim_turn1 {p lf : Int32} {rp : Nat} (h : RR g mm f n) (hr : ∀ K, (if lf = 0 then rot 12 K else rot 1 K) = rot rp K) (hp : ∀ K, K < 8192 → tl (nI (K / 4096)) (nI (K % 4096)) p = nI (rot rp K)) : RR (gX2_turnLeft g mm p) mm f (tnN lf 1 n) := by
  obtain ⟨K, hK⟩ := h.st
  show RR (gX2_turnLeft g mm p) mm f (tnX3 lf n)
  rw [tn_set hK, hr, tl_set h hK (rot_lt rp K) (hp K hK.1)]
  exact h.setK (rot_lt rp K)
theorem sim_turn2 {p lf : Int32} {rp : Nat} (h : RR g mm f n) (hr : ∀ K, (if lf = 0 then rot 12 K else rot 1 K) = rot rp K) (hp : ∀ K, K < 8192 → tl (nI (K / 4096)) (nI (K % 4096)) p = nI (rot rp (rot rp K))) : RR (gX2_turnLeft g mm p) mm f (tnN lf 2 n) := by
  obtain ⟨K, hK⟩ := h.st
  show RR (gX2_turnLeft g mm p) mm f (tnX3 lf (tnX3 lf n))
  rw [tn_set hK, hr, tn_set (setK_st (rot_lt rp K)), hr, tl_set h hK (rot_lt rp _) (hp K hK.1)]
  exact ((h.setK (rot_lt rp K)).setK (rot_lt rp (rot rp K))).ga upd4
theorem sim_first {w : Int32} (h : RR g mm f n) (hw : w12 w) : RR (gX2_changeAccumulator g mm w) mm f (mX3_first f n w) := by
  show RR (uX2_changeAccumulator_j144_g mm w (uX2_changeAccumulator_j82_g mm w (uX2_changeAccumulator_j69_g w (uX2_changeAccumulator_j50_g w (uX2_changeAccumulator_j29_g w (uX2_changeAccumulator_j15_g g w))))) (uX2_changeAccumulator_j95_s0 w)) mm f (if rX3_has w 4 = rX3_has w 8 then (uX3_first_j94_mm f w (uX3_first_j81_mm w (uX3_first_j58_mm w (uX3_first_j33_mm w (uX3_first_j17_mm n w))))) else tnN (rX3_has w 4) (tF w) (uX3_first_j94_mm f w (uX3_first_j81_mm w (uX3_first_j58_mm w (uX3_first_j33_mm w (uX3_first_j17_mm n w))))))
  have h1 : RR (uX2_changeAccumulator_j15_g g w) mm f (uX3_first_j17_mm n w) := by
    unfold uX2_changeAccumulator_j15_g uX3_first_j17_mm
    rw [has_128 hw]
    split
    · exact h
    · exact h.s0 rfl w12_0
  generalize uX2_changeAccumulator_j15_g g w = g1 at h1
  generalize uX3_first_j17_mm n w = n1 at h1
  have h2 : RR (uX2_changeAccumulator_j29_g w g1) mm f (uX3_first_j33_mm w n1) := by
    unfold uX2_changeAccumulator_j29_g uX3_first_j33_mm
    rw [has_64 hw]
    split
    · exact h1
    · exact h1.s1 rfl (Or.inl rfl)
  generalize uX2_changeAccumulator_j29_g w g1 = g2 at h2
  generalize uX3_first_j33_mm w n1 = n2 at h2
  have h3 : RR (uX2_changeAccumulator_j50_g w g2) mm f (uX3_first_j58_mm w n2) := by
    unfold uX2_changeAccumulator_j50_g uX3_first_j58_mm
    rw [has_32 hw]
    split
    · exact h2
    · obtain ⟨k, hk, ek⟩ := h2.v0
      refine h2.s0 ?_ ⟨4095 - k, by omega, ?_⟩
      · rw [h2.e0, ek]
        exact (cmN k hk).1
      · rw [ek]
        exact (cmN k hk).2
  generalize uX2_changeAccumulator_j50_g w g2 = g3 at h3
  generalize uX3_first_j58_mm w n2 = n3 at h3
  have h4 : RR (uX2_changeAccumulator_j69_g w g3) mm f (uX3_first_j81_mm w n3) := by
    unfold uX2_changeAccumulator_j69_g uX3_first_j81_mm
    rw [has_16 hw]
    split
    · exact h3
    · exact h3.s1 (by rw [h3.e1]; exact (xr1 h3.v1).1) (xr1 h3.v1).2
  generalize uX2_changeAccumulator_j69_g w g3 = g4 at h4
  generalize uX3_first_j81_mm w n3 = n4 at h4
  have h5 : RR (uX2_changeAccumulator_j82_g mm w g4) mm f (uX3_first_j94_mm f w n4) := by
    unfold uX2_changeAccumulator_j82_g uX3_first_j94_mm
    rw [has_1 hw]
    split
    · exact h4
    · exact sim_add h4 ⟨1, by decide, rfl⟩
  generalize uX2_changeAccumulator_j82_g mm w g4 = g5 at h5
  generalize uX3_first_j94_mm f w n4 = n5 at h5
  unfold uX2_changeAccumulator_j144_g uX2_changeAccumulator_j95_s0 tF
  rw [has_4 hw, has_8 hw, has_2 hw]
  have e01 : ¬ (1 : Int32) = 0 := by decide
  have e10 : ¬ (0 : Int32) = 1 := by decide
  rcases has_b w 4 with c4 | c4 <;> rcases has_b w 8 with c8 | c8 <;> rw [c4, c8]
  · simp only [if_pos]
    exact h5
  · simp only [if_pos, if_neg e01, if_neg e10]
    by_cases c2 : rX3_has w 2 = 0
    · simp only [if_pos c2]
      exact sim_turn1 (rp := 12) h5 (fun K => if_pos rfl) tlN_12
    · simp only [if_neg c2]
      exact sim_turn2 (rp := 12) h5 (fun K => if_pos rfl) tlN_11
  · simp only [if_pos, if_neg e01]
    by_cases c2 : rX3_has w 2 = 0
    · simp only [if_pos c2]
      exact sim_turn1 (rp := 1) h5 (fun K => if_neg e01) tlN_1
    · simp only [if_neg c2]
      exact sim_turn2 (rp := 1) h5 (fun K => if_neg e01) tlN_2
  · simp only [if_pos, if_neg e01]
    exact h5
theorem upd_id {k : Nat} {x : Int32} (h : x = g k) : upd g k x = g := by
  funext j
  unfold upd
  split
  · rename_i e
    rw [e, h]
  · rfl
theorem upd_c {x y : Int32} : upd (upd (upd (upd g 14 0) 13 x) 14 1) 12 y = upd (upd (upd g 12 y) 13 x) 14 1 := by
  funext j
  unfold upd
  by_cases h0 : j = 14
  · subst h0
    rfl
  · by_cases h1 : j = 13
    · subst h1
      rfl
    · by_cases h2 : j = 12
      · subst h2
        rfl
      · simp only [if_neg h0, if_neg h1, if_neg h2]
theorem sim_adv (h : RR g mm f n) : RR (upd (upd (upd g 12 (tkX0_restart (g 11) (g 12) (g 13) (g 14) (mm 1))) 13 (bfX0_restart (g 11) (g 12) (g 13) (g 14) (mm 1))) 14 (flX0_restart (g 11) (g 12) (g 13) (g 14) (mm 1))) mm (gX3_advance f n) (mX3_advance f n) := by
  obtain ⟨a, b, hab, hb, ea, eb⟩ := h.rt
  show RR (upd (upd (upd g 12 (uX0_restart_j44_tk (g 11) (g 12))) 13 (uX0_restart_j44_bf (g 11) (g 12) (g 13) (mm 1))) 14 (uX0_restart_j44_fl (g 11) (g 12))) mm _ _
  unfold uX0_restart_j44_tk uX0_restart_j44_bf uX0_restart_j44_fl gX3_advance mX3_advance
  have e11 : g 11 = nI b := h.e11.trans eb
  have e12 : g 12 = nI a := h.e12.trans ea
  by_cases c : a = b
  · subst c
    have c1 : g 11 ≤ g 12 := by rw [e11, e12]; exact nI_le (Nat.le_refl _) (by omega)
    have c2 : f 1 = f 0 := by rw [ea, eb]
    simp only [if_pos c1, if_pos c2]
    rw [upd_id (k := 12) rfl, upd_id (k := 13) rfl]
    exact h.s14 rfl (Or.inl rfl)
  · have c1 : ¬ g 11 ≤ g 12 := by rw [e11, e12]; exact nI_ge (by omega) (by omega)
    have c2 : ¬ f 1 = f 0 := by rw [ea, eb]; exact fun q => c ((nI_eq (by omega) (by omega)).mp q)
    simp only [if_neg c1, if_neg c2]
    have h1 := h.s14 (v := 0) rfl (Or.inl rfl)
    have h2 := h1.s13 (v := mm 1 (g 12).toNatClampNeg) (vv := (va_up n 1 (upd (n 1) 7 0)) 2 ((f 1).toNatClampNeg)) (by rw [h.e12, h.t0]; rfl) (h.tw _)
    have h3 := h2.s14 (v := 1) rfl (Or.inr rfl)
    have h4 := h3.i12 (v := g 12 + 1) (vv := f 1 + 1) (by rw [h.e12]) ⟨a + 1, b, by omega, hb, by show f 1 + 1 = _; rw [ea]; exact nI_1 a, eb⟩
    exact h4.ga upd_c
theorem dv_ne {w : Int32} {d v : Int32} (hv : d + 3072 = v) (h : ¬ w = v) : ¬ w - 3072 = d := by
  intro q
  apply h
  rw [← hv, ← q]
  exact (Int32.sub_add_cancel w 3072).symm
theorem sim_device {w : Int32} (h : RR g mm f n) : RR (gX2_performDevice g mm w) (mX2_performDevice g mm w) (gX3_device f n w) (mX3_device f n w) := by
  show RR (uX2_performDevice_j311_g g mm w) (uX2_performDevice_j311_mm g mm w) (uX3_device_j256_g w (uX3_device_j169_g w (uX3_device_j148_g w (uX3_device_j74_g f w (uX3_device_j53_mm w (uX3_device_j39_mm w (uX3_device_j19_mm n w)))) (uX3_device_j132_mm w (uX3_device_j113_mm w (uX3_device_j87_mm w (uX3_device_j74_mm f w (uX3_device_j53_mm w (uX3_device_j39_mm w (uX3_device_j19_mm n w)))))))) (uX3_device_j148_mm w (uX3_device_j74_g f w (uX3_device_j53_mm w (uX3_device_j39_mm w (uX3_device_j19_mm n w)))) (uX3_device_j132_mm w (uX3_device_j113_mm w (uX3_device_j87_mm w (uX3_device_j74_mm f w (uX3_device_j53_mm w (uX3_device_j39_mm w (uX3_device_j19_mm n w)))))))))) (uX3_device_j256_mm w (uX3_device_j183_mm w (uX3_device_j169_mm w (uX3_device_j148_g w (uX3_device_j74_g f w (uX3_device_j53_mm w (uX3_device_j39_mm w (uX3_device_j19_mm n w)))) (uX3_device_j132_mm w (uX3_device_j113_mm w (uX3_device_j87_mm w (uX3_device_j74_mm f w (uX3_device_j53_mm w (uX3_device_j39_mm w (uX3_device_j19_mm n w)))))))) (uX3_device_j148_mm w (uX3_device_j74_g f w (uX3_device_j53_mm w (uX3_device_j39_mm w (uX3_device_j19_mm n w)))) (uX3_device_j132_mm w (uX3_device_j113_mm w (uX3_device_j87_mm w (uX3_device_j74_mm f w (uX3_device_j53_mm w (uX3_device_j39_mm w (uX3_device_j19_mm n w))))))))))) 
  unfold uX3_device_j256_g uX3_device_j169_g uX3_device_j148_g uX3_device_j74_g uX3_device_j256_mm uX3_device_j183_mm uX3_device_j169_mm uX3_device_j148_mm uX3_device_j132_mm uX3_device_j113_mm uX3_device_j87_mm uX3_device_j74_mm uX3_device_j53_mm uX3_device_j39_mm uX3_device_j19_mm uX2_performDevice_j311_g uX2_performDevice_j311_mm
  by_cases c3073 : w = 3073
  · subst c3073
    simp only [if_pos (show (3073 : Int32) - 3072 = 1 by decide), if_neg (show ¬ (3073 : Int32) - 3072 = 2 by decide), if_neg (show ¬ (3073 : Int32) - 3072 = 24 by decide), if_neg (show ¬ (3073 : Int32) - 3072 = 25 by decide), if_neg (show ¬ (3073 : Int32) - 3072 = 26 by decide), if_neg (show ¬ (3073 : Int32) - 3072 = 28 by decide), if_neg (show ¬ (3073 : Int32) - 3072 = 30 by decide), if_neg (show ¬ (3073 : Int32) - 3072 = 33 by decide), if_neg (show ¬ (3073 : Int32) - 3072 = 34 by decide), if_neg (show ¬ (3073 : Int32) - 3072 = 36 by decide), if_neg (show ¬ (3073 : Int32) - 3072 = 38 by decide), if_pos (show (3073 : Int32) = 3073 by decide), if_neg (show ¬ (3073 : Int32) = 3074 by decide), if_neg (show ¬ (3073 : Int32) = 3096 by decide), if_neg (show ¬ (3073 : Int32) = 3097 by decide), if_neg (show ¬ (3073 : Int32) = 3098 by decide), if_neg (show ¬ (3073 : Int32) = 3100 by decide), if_neg (show ¬ (3073 : Int32) = 3102 by decide), if_neg (show ¬ (3073 : Int32) = 3105 by decide), if_neg (show ¬ (3073 : Int32) = 3106 by decide), if_neg (show ¬ (3073 : Int32) = 3108 by decide), if_neg (show ¬ (3073 : Int32) = 3110 by decide)]
    exact h.s7 rfl (Or.inr rfl)
  by_cases c3074 : w = 3074
  · subst c3074
    simp only [if_neg (show ¬ (3074 : Int32) - 3072 = 1 by decide), if_pos (show (3074 : Int32) - 3072 = 2 by decide), if_neg (show ¬ (3074 : Int32) - 3072 = 24 by decide), if_neg (show ¬ (3074 : Int32) - 3072 = 25 by decide), if_neg (show ¬ (3074 : Int32) - 3072 = 26 by decide), if_neg (show ¬ (3074 : Int32) - 3072 = 28 by decide), if_neg (show ¬ (3074 : Int32) - 3072 = 30 by decide), if_neg (show ¬ (3074 : Int32) - 3072 = 33 by decide), if_neg (show ¬ (3074 : Int32) - 3072 = 34 by decide), if_neg (show ¬ (3074 : Int32) - 3072 = 36 by decide), if_neg (show ¬ (3074 : Int32) - 3072 = 38 by decide), if_neg (show ¬ (3074 : Int32) = 3073 by decide), if_pos (show (3074 : Int32) = 3074 by decide), if_neg (show ¬ (3074 : Int32) = 3096 by decide), if_neg (show ¬ (3074 : Int32) = 3097 by decide), if_neg (show ¬ (3074 : Int32) = 3098 by decide), if_neg (show ¬ (3074 : Int32) = 3100 by decide), if_neg (show ¬ (3074 : Int32) = 3102 by decide), if_neg (show ¬ (3074 : Int32) = 3105 by decide), if_neg (show ¬ (3074 : Int32) = 3106 by decide), if_neg (show ¬ (3074 : Int32) = 3108 by decide), if_neg (show ¬ (3074 : Int32) = 3110 by decide)]
    exact (h.s6 rfl (Or.inl rfl)).s7 rfl (Or.inl rfl)
  by_cases c3096 : w = 3096
  · subst c3096
    simp only [if_neg (show ¬ (3096 : Int32) - 3072 = 1 by decide), if_neg (show ¬ (3096 : Int32) - 3072 = 2 by decide), if_pos (show (3096 : Int32) - 3072 = 24 by decide), if_neg (show ¬ (3096 : Int32) - 3072 = 25 by decide), if_neg (show ¬ (3096 : Int32) - 3072 = 26 by decide), if_neg (show ¬ (3096 : Int32) - 3072 = 28 by decide), if_neg (show ¬ (3096 : Int32) - 3072 = 30 by decide), if_neg (show ¬ (3096 : Int32) - 3072 = 33 by decide), if_neg (show ¬ (3096 : Int32) - 3072 = 34 by decide), if_neg (show ¬ (3096 : Int32) - 3072 = 36 by decide), if_neg (show ¬ (3096 : Int32) - 3072 = 38 by decide), if_neg (show ¬ (3096 : Int32) = 3073 by decide), if_neg (show ¬ (3096 : Int32) = 3074 by decide), if_pos (show (3096 : Int32) = 3096 by decide), if_neg (show ¬ (3096 : Int32) = 3097 by decide), if_neg (show ¬ (3096 : Int32) = 3098 by decide), if_neg (show ¬ (3096 : Int32) = 3100 by decide), if_neg (show ¬ (3096 : Int32) = 3102 by decide), if_neg (show ¬ (3096 : Int32) = 3105 by decide), if_neg (show ¬ (3096 : Int32) = 3106 by decide), if_neg (show ¬ (3096 : Int32) = 3108 by decide), if_neg (show ¬ (3096 : Int32) = 3110 by decide)]
    exact h.s14 rfl (Or.inl rfl)
  by_cases c3097 : w = 3097
  · subst c3097
    simp only [if_neg (show ¬ (3097 : Int32) - 3072 = 1 by decide), if_neg (show ¬ (3097 : Int32) - 3072 = 2 by decide), if_neg (show ¬ (3097 : Int32) - 3072 = 24 by decide), if_pos (show (3097 : Int32) - 3072 = 25 by decide), if_neg (show ¬ (3097 : Int32) - 3072 = 26 by decide), if_neg (show ¬ (3097 : Int32) - 3072 = 28 by decide), if_neg (show ¬ (3097 : Int32) - 3072 = 30 by decide), if_neg (show ¬ (3097 : Int32) - 3072 = 33 by decide), if_neg (show ¬ (3097 : Int32) - 3072 = 34 by decide), if_neg (show ¬ (3097 : Int32) - 3072 = 36 by decide), if_neg (show ¬ (3097 : Int32) - 3072 = 38 by decide), if_neg (show ¬ (3097 : Int32) = 3073 by decide), if_neg (show ¬ (3097 : Int32) = 3074 by decide), if_neg (show ¬ (3097 : Int32) = 3096 by decide), if_pos (show (3097 : Int32) = 3097 by decide), if_neg (show ¬ (3097 : Int32) = 3098 by decide), if_neg (show ¬ (3097 : Int32) = 3100 by decide), if_neg (show ¬ (3097 : Int32) = 3102 by decide), if_neg (show ¬ (3097 : Int32) = 3105 by decide), if_neg (show ¬ (3097 : Int32) = 3106 by decide), if_neg (show ¬ (3097 : Int32) = 3108 by decide), if_neg (show ¬ (3097 : Int32) = 3110 by decide)]
    by_cases cc : n 1 7 = 1
    · simp only [if_pos cc]
      exact sim_skip h (by rw [h.e14, cc]; decide)
    · simp only [if_neg cc]
      rw [skip_0 (h.e14.trans (h.v7.resolve_right cc))]
      exact h
  by_cases c3098 : w = 3098
  · subst c3098
    simp only [if_neg (show ¬ (3098 : Int32) - 3072 = 1 by decide), if_neg (show ¬ (3098 : Int32) - 3072 = 2 by decide), if_neg (show ¬ (3098 : Int32) - 3072 = 24 by decide), if_neg (show ¬ (3098 : Int32) - 3072 = 25 by decide), if_pos (show (3098 : Int32) - 3072 = 26 by decide), if_neg (show ¬ (3098 : Int32) - 3072 = 28 by decide), if_neg (show ¬ (3098 : Int32) - 3072 = 30 by decide), if_neg (show ¬ (3098 : Int32) - 3072 = 33 by decide), if_neg (show ¬ (3098 : Int32) - 3072 = 34 by decide), if_neg (show ¬ (3098 : Int32) - 3072 = 36 by decide), if_neg (show ¬ (3098 : Int32) - 3072 = 38 by decide), if_neg (show ¬ (3098 : Int32) = 3073 by decide), if_neg (show ¬ (3098 : Int32) = 3074 by decide), if_neg (show ¬ (3098 : Int32) = 3096 by decide), if_neg (show ¬ (3098 : Int32) = 3097 by decide), if_pos (show (3098 : Int32) = 3098 by decide), if_neg (show ¬ (3098 : Int32) = 3100 by decide), if_neg (show ¬ (3098 : Int32) = 3102 by decide), if_neg (show ¬ (3098 : Int32) = 3105 by decide), if_neg (show ¬ (3098 : Int32) = 3106 by decide), if_neg (show ¬ (3098 : Int32) = 3108 by decide), if_neg (show ¬ (3098 : Int32) = 3110 by decide)]
    exact sim_adv (h.s0 (v := 0) rfl w12_0)
  by_cases c3100 : w = 3100
  · subst c3100
    simp only [if_neg (show ¬ (3100 : Int32) - 3072 = 1 by decide), if_neg (show ¬ (3100 : Int32) - 3072 = 2 by decide), if_neg (show ¬ (3100 : Int32) - 3072 = 24 by decide), if_neg (show ¬ (3100 : Int32) - 3072 = 25 by decide), if_neg (show ¬ (3100 : Int32) - 3072 = 26 by decide), if_pos (show (3100 : Int32) - 3072 = 28 by decide), if_neg (show ¬ (3100 : Int32) - 3072 = 30 by decide), if_neg (show ¬ (3100 : Int32) - 3072 = 33 by decide), if_neg (show ¬ (3100 : Int32) - 3072 = 34 by decide), if_neg (show ¬ (3100 : Int32) - 3072 = 36 by decide), if_neg (show ¬ (3100 : Int32) - 3072 = 38 by decide), if_neg (show ¬ (3100 : Int32) = 3073 by decide), if_neg (show ¬ (3100 : Int32) = 3074 by decide), if_neg (show ¬ (3100 : Int32) = 3096 by decide), if_neg (show ¬ (3100 : Int32) = 3097 by decide), if_neg (show ¬ (3100 : Int32) = 3098 by decide), if_pos (show (3100 : Int32) = 3100 by decide), if_neg (show ¬ (3100 : Int32) = 3102 by decide), if_neg (show ¬ (3100 : Int32) = 3105 by decide), if_neg (show ¬ (3100 : Int32) = 3106 by decide), if_neg (show ¬ (3100 : Int32) = 3108 by decide), if_neg (show ¬ (3100 : Int32) = 3110 by decide)]
    exact h.s0 (by rw [h.e0, h.e13]) (h.v0.or h.v8.w)
  by_cases c3102 : w = 3102
  · subst c3102
    simp only [if_neg (show ¬ (3102 : Int32) - 3072 = 1 by decide), if_neg (show ¬ (3102 : Int32) - 3072 = 2 by decide), if_neg (show ¬ (3102 : Int32) - 3072 = 24 by decide), if_neg (show ¬ (3102 : Int32) - 3072 = 25 by decide), if_neg (show ¬ (3102 : Int32) - 3072 = 26 by decide), if_neg (show ¬ (3102 : Int32) - 3072 = 28 by decide), if_pos (show (3102 : Int32) - 3072 = 30 by decide), if_neg (show ¬ (3102 : Int32) - 3072 = 33 by decide), if_neg (show ¬ (3102 : Int32) - 3072 = 34 by decide), if_neg (show ¬ (3102 : Int32) - 3072 = 36 by decide), if_neg (show ¬ (3102 : Int32) - 3072 = 38 by decide), if_neg (show ¬ (3102 : Int32) = 3073 by decide), if_neg (show ¬ (3102 : Int32) = 3074 by decide), if_neg (show ¬ (3102 : Int32) = 3096 by decide), if_neg (show ¬ (3102 : Int32) = 3097 by decide), if_neg (show ¬ (3102 : Int32) = 3098 by decide), if_neg (show ¬ (3102 : Int32) = 3100 by decide), if_pos (show (3102 : Int32) = 3102 by decide), if_neg (show ¬ (3102 : Int32) = 3105 by decide), if_neg (show ¬ (3102 : Int32) = 3106 by decide), if_neg (show ¬ (3102 : Int32) = 3108 by decide), if_neg (show ¬ (3102 : Int32) = 3110 by decide)]
    exact sim_adv (h.s0 (v := g 13) h.e13 h.v8.w)
  by_cases c3105 : w = 3105
  · subst c3105
    simp only [if_neg (show ¬ (3105 : Int32) - 3072 = 1 by decide), if_neg (show ¬ (3105 : Int32) - 3072 = 2 by decide), if_neg (show ¬ (3105 : Int32) - 3072 = 24 by decide), if_neg (show ¬ (3105 : Int32) - 3072 = 25 by decide), if_neg (show ¬ (3105 : Int32) - 3072 = 26 by decide), if_neg (show ¬ (3105 : Int32) - 3072 = 28 by decide), if_neg (show ¬ (3105 : Int32) - 3072 = 30 by decide), if_pos (show (3105 : Int32) - 3072 = 33 by decide), if_neg (show ¬ (3105 : Int32) - 3072 = 34 by decide), if_neg (show ¬ (3105 : Int32) - 3072 = 36 by decide), if_neg (show ¬ (3105 : Int32) - 3072 = 38 by decide), if_neg (show ¬ (3105 : Int32) = 3073 by decide), if_neg (show ¬ (3105 : Int32) = 3074 by decide), if_neg (show ¬ (3105 : Int32) = 3096 by decide), if_neg (show ¬ (3105 : Int32) = 3097 by decide), if_neg (show ¬ (3105 : Int32) = 3098 by decide), if_neg (show ¬ (3105 : Int32) = 3100 by decide), if_neg (show ¬ (3105 : Int32) = 3102 by decide), if_pos (show (3105 : Int32) = 3105 by decide), if_neg (show ¬ (3105 : Int32) = 3106 by decide), if_neg (show ¬ (3105 : Int32) = 3108 by decide), if_neg (show ¬ (3105 : Int32) = 3110 by decide)]
    by_cases cc : n 1 9 = 1
    · simp only [if_pos cc]
      exact sim_skip h (by rw [h.e8, cc]; decide)
    · simp only [if_neg cc]
      rw [skip_0 (h.e8.trans (h.v9.resolve_right cc))]
      exact h
  by_cases c3106 : w = 3106
  · subst c3106
    simp only [if_neg (show ¬ (3106 : Int32) - 3072 = 1 by decide), if_neg (show ¬ (3106 : Int32) - 3072 = 2 by decide), if_neg (show ¬ (3106 : Int32) - 3072 = 24 by decide), if_neg (show ¬ (3106 : Int32) - 3072 = 25 by decide), if_neg (show ¬ (3106 : Int32) - 3072 = 26 by decide), if_neg (show ¬ (3106 : Int32) - 3072 = 28 by decide), if_neg (show ¬ (3106 : Int32) - 3072 = 30 by decide), if_neg (show ¬ (3106 : Int32) - 3072 = 33 by decide), if_pos (show (3106 : Int32) - 3072 = 34 by decide), if_neg (show ¬ (3106 : Int32) - 3072 = 36 by decide), if_neg (show ¬ (3106 : Int32) - 3072 = 38 by decide), if_neg (show ¬ (3106 : Int32) = 3073 by decide), if_neg (show ¬ (3106 : Int32) = 3074 by decide), if_neg (show ¬ (3106 : Int32) = 3096 by decide), if_neg (show ¬ (3106 : Int32) = 3097 by decide), if_neg (show ¬ (3106 : Int32) = 3098 by decide), if_neg (show ¬ (3106 : Int32) = 3100 by decide), if_neg (show ¬ (3106 : Int32) = 3102 by decide), if_neg (show ¬ (3106 : Int32) = 3105 by decide), if_pos (show (3106 : Int32) = 3106 by decide), if_neg (show ¬ (3106 : Int32) = 3108 by decide), if_neg (show ¬ (3106 : Int32) = 3110 by decide)]
    exact h.s8 rfl (Or.inl rfl)
  by_cases c3108 : w = 3108
  · subst c3108
    simp only [if_neg (show ¬ (3108 : Int32) - 3072 = 1 by decide), if_neg (show ¬ (3108 : Int32) - 3072 = 2 by decide), if_neg (show ¬ (3108 : Int32) - 3072 = 24 by decide), if_neg (show ¬ (3108 : Int32) - 3072 = 25 by decide), if_neg (show ¬ (3108 : Int32) - 3072 = 26 by decide), if_neg (show ¬ (3108 : Int32) - 3072 = 28 by decide), if_neg (show ¬ (3108 : Int32) - 3072 = 30 by decide), if_neg (show ¬ (3108 : Int32) - 3072 = 33 by decide), if_neg (show ¬ (3108 : Int32) - 3072 = 34 by decide), if_pos (show (3108 : Int32) - 3072 = 36 by decide), if_neg (show ¬ (3108 : Int32) - 3072 = 38 by decide), if_neg (show ¬ (3108 : Int32) = 3073 by decide), if_neg (show ¬ (3108 : Int32) = 3074 by decide), if_neg (show ¬ (3108 : Int32) = 3096 by decide), if_neg (show ¬ (3108 : Int32) = 3097 by decide), if_neg (show ¬ (3108 : Int32) = 3098 by decide), if_neg (show ¬ (3108 : Int32) = 3100 by decide), if_neg (show ¬ (3108 : Int32) = 3102 by decide), if_neg (show ¬ (3108 : Int32) = 3105 by decide), if_neg (show ¬ (3108 : Int32) = 3106 by decide), if_pos (show (3108 : Int32) = 3108 by decide), if_neg (show ¬ (3108 : Int32) = 3110 by decide)]
    obtain ⟨k, hk, ek⟩ := h.v0
    have ex : g 0 &&& 255 = n 1 0 - n 1 0 / 256 * 256 := by
      rw [h.e0, ek]
      exact prN k hk
    rw [bx_uu, ex]
    exact (h.pr (n 1 0 - n 1 0 / 256 * 256)).s8 rfl (Or.inr rfl)
  by_cases c3110 : w = 3110
  · subst c3110
    simp only [if_neg (show ¬ (3110 : Int32) - 3072 = 1 by decide), if_neg (show ¬ (3110 : Int32) - 3072 = 2 by decide), if_neg (show ¬ (3110 : Int32) - 3072 = 24 by decide), if_neg (show ¬ (3110 : Int32) - 3072 = 25 by decide), if_neg (show ¬ (3110 : Int32) - 3072 = 26 by decide), if_neg (show ¬ (3110 : Int32) - 3072 = 28 by decide), if_neg (show ¬ (3110 : Int32) - 3072 = 30 by decide), if_neg (show ¬ (3110 : Int32) - 3072 = 33 by decide), if_neg (show ¬ (3110 : Int32) - 3072 = 34 by decide), if_neg (show ¬ (3110 : Int32) - 3072 = 36 by decide), if_pos (show (3110 : Int32) - 3072 = 38 by decide), if_neg (show ¬ (3110 : Int32) = 3073 by decide), if_neg (show ¬ (3110 : Int32) = 3074 by decide), if_neg (show ¬ (3110 : Int32) = 3096 by decide), if_neg (show ¬ (3110 : Int32) = 3097 by decide), if_neg (show ¬ (3110 : Int32) = 3098 by decide), if_neg (show ¬ (3110 : Int32) = 3100 by decide), if_neg (show ¬ (3110 : Int32) = 3102 by decide), if_neg (show ¬ (3110 : Int32) = 3105 by decide), if_neg (show ¬ (3110 : Int32) = 3106 by decide), if_neg (show ¬ (3110 : Int32) = 3108 by decide), if_pos (show (3110 : Int32) = 3110 by decide)]
    obtain ⟨k, hk, ek⟩ := h.v0
    have ex : g 0 &&& 255 = n 1 0 - n 1 0 / 256 * 256 := by
      rw [h.e0, ek]
      exact prN k hk
    rw [bx_uu, ex]
    exact (h.pr (n 1 0 - n 1 0 / 256 * 256)).s8 rfl (Or.inr rfl)
  simp only [if_neg c3073, if_neg c3074, if_neg c3096, if_neg c3097, if_neg c3098, if_neg c3100, if_neg c3102, if_neg c3105, if_neg c3106, if_neg c3108, if_neg c3110, if_neg (dv_ne (d := 1) (v := 3073) (by decide) c3073), if_neg (dv_ne (d := 2) (v := 3074) (by decide) c3074), if_neg (dv_ne (d := 24) (v := 3096) (by decide) c3096), if_neg (dv_ne (d := 25) (v := 3097) (by decide) c3097), if_neg (dv_ne (d := 26) (v := 3098) (by decide) c3098), if_neg (dv_ne (d := 28) (v := 3100) (by decide) c3100), if_neg (dv_ne (d := 30) (v := 3102) (by decide) c3102), if_neg (dv_ne (d := 33) (v := 3105) (by decide) c3105), if_neg (dv_ne (d := 34) (v := 3106) (by decide) c3106), if_neg (dv_ne (d := 36) (v := 3108) (by decide) c3108), if_neg (dv_ne (d := 38) (v := 3110) (by decide) c3110)]
  exact h
end SIMB
end
section
/-! one step, any number of steps, and the calls -/
section SIMC
variable {g f : Nat → Int32} {mm n : Nat → Nat → Int32}
theorem sim_perform {w e : Int32} (h : RR g mm f n) (hw : w12 w) (he : w12 e) : RR (gX2_perform g mm w e) (mX2_perform g mm w e) (uX3_step_j241_g f n e w) (uX3_step_j241_mm f n e w) := by
  show RR (uX2_perform_j78_g g mm w e) (uX2_perform_j78_mm g mm w e) _ _
  unfold uX2_perform_j78_g uX2_perform_j78_mm uX3_step_j241_g uX3_step_j241_mm
  rw [has_256 hw, has_1 hw]
  have hw2 := hw
  obtain ⟨k, hk, ek⟩ := hw2
  have e1 : w >>> ((9 : Int32) &&& 31) = nI (k / 512) := by rw [ek, (cdN k hk).1]; exact (cdN k hk).2
  have e2 : w / 512 = nI (k / 512) := by rw [ek]; exact (cdN k hk).2
  rw [e1, e2]
  by_cases c6 : (6 : Int32) ≤ nI (k / 512)
  · simp only [if_pos c6]
    by_cases c7 : nI (k / 512) = 6
    · simp only [if_pos c7]
      exact sim_device h
    · simp only [if_neg c7]
      by_cases c8 : rX3_has w 256 = 0
      · simp only [if_pos c8]
        exact sim_first h hw
      · simp only [if_neg c8]
        by_cases c9 : rX3_has w 1 = 0
        · simp only [if_pos c9]
          exact sim_second h hw
        · simp only [if_neg c9]
          exact sim_third h hw
  · simp only [if_neg c6]
    obtain ⟨h1, h2, h3⟩ := sim_place h hw he
    rw [h2]
    refine sim_ref h1 h3 ?_
    rcases Nat.lt_or_ge (k / 512) 6 with q | q
    · exact q
    · exact absurd (nI_le (a := 6) q (by omega)) c6
theorem sim_int (h : RR g mm f n) : RR (gX2_interrupt g mm) (mX2_interrupt g mm) (upd f 4 ((f 4) + 1)) (va_up (va_up (va_up n 0 (upd (n 0) 0 (n 1 2))) 1 (upd ((va_up n 0 (upd (n 0) 0 (n 1 2))) 1) 2 1)) 1 (upd ((va_up (va_up n 0 (upd (n 0) 0 (n 1 2))) 1 (upd ((va_up n 0 (upd (n 0) 0 (n 1 2))) 1) 2 1)) 1) 5 0)) := by
  have e : mX2_interrupt g mm = va_up mm 0 (upd (mm 0) 0 (g 2)) := by
    show mX2_putWord g mm 0 (g 2) = _
    rw [put_eq w12_0 (by rw [h.e2]; exact h.v2)]
    rfl
  rw [e]
  have h1 := h.core (i := 0) (v := g 2) h.e2 h.v2
  have h2 := (h1.s2 (v := 1) rfl ⟨1, by decide, rfl⟩).s6 (v := 0) rfl (Or.inl rfl)
  exact h2.i9 (v := ((upd (upd g 2 1) 6 0) 9) + 1) (by show g 9 + 1 = f 4 + 1; rw [h.e9])
theorem sim_s1 (h : RR g mm f n) : RR (uX2_step_j28_g g mm) (uX2_step_j28_mm g mm) (uX3_step_j64_g f n) (uX3_step_j64_mm n) := by
  unfold uX2_step_j28_g uX2_step_j28_mm uX3_step_j64_g uX3_step_j64_mm
  rw [h.e6, h.e14, h.e8]
  have z1 : ¬ (1 : Int32) = 0 := by decide
  have z2 : ¬ (0 : Int32) = 1 := by decide
  rcases h.v5 with c5 | c5
  · rw [c5]
    simp only [if_pos, if_neg z2]
    exact h
  · rcases h.v7 with c7 | c7
    · rcases h.v9 with c9 | c9
      · rw [c5, c7, c9]
        simp only [if_pos, if_neg z1, if_pos (show (0 : Int32) + 0 ≤ 0 by decide)]
        exact h
      · rw [c5, c7, c9]
        simp only [if_pos, if_neg z1, if_neg (show ¬ (0 : Int32) + 1 ≤ 0 by decide)]
        exact sim_int h
    · have c0 : ¬ n 1 7 + n 1 9 ≤ 0 := by
        rcases h.v9 with c9 | c9
        · rw [c7, c9]; decide
        · rw [c7, c9]; decide
      rw [if_neg c0, if_neg c0, c5, c7]
      simp only [if_pos, if_neg z1]
      exact sim_int h
theorem sim_s2 (h : RR g mm f n) : RR (uX2_step_j45_g g) mm f (uX3_step_j90_mm n) := by
  unfold uX2_step_j45_g uX3_step_j90_mm
  rw [h.e7]
  rcases h.v6 with c | c
  · rw [c, if_pos rfl, if_neg (by decide)]
    exact h
  · rw [c, if_neg (by decide), if_pos rfl]
    exact (h.s7 (v := 0) rfl (Or.inl rfl)).s6 (v := 1) rfl (Or.inr rfl)
theorem upd_comm {j k : Nat} {x y : Int32} (h : j ≠ k) : upd (upd g j x) k y = upd (upd g k y) j x := by
  funext i
  unfold upd
  by_cases h1 : i = j
  · rw [if_neg (by omega), if_pos h1, if_pos h1]
  · by_cases h2 : i = k
    · rw [if_pos h2, if_neg h1, if_pos h2]
    · rw [if_neg h2, if_neg h1, if_neg h1, if_neg h2]
theorem sim_s3 (h : RR g mm f n) : RR (upd (upd g 16 (ctX1_add (g 16) (mm 3) (g 2))) 2 (rX2_next (g 2))) (va_up mm 3 (rwX1_add (g 16) (mm 3) (g 2))) (uX3_step_n158_g f) (uX3_step_n158_mm n) := by
  unfold uX3_step_n158_g uX3_step_n158_mm
  rw [bx_uu, upd_comm (j := 16) (k := 2) (by decide), h.e2, nx_eq h.v2]
  exact (h.s2 (v := rX3_after (n 1 2)) rfl (after_w h.v2)).tr (n 1 2)
theorem sim_step (h : RR g mm f n) : RR (gX2_step g mm) (mX2_step g mm) (gX3_step f n) (mX3_step f n) ∧ SOK f n ∧ Cq g := by
  have h2 := sim_s2 (sim_s1 h)
  have h3 := sim_s3 h2
  have ew : rX2_wordAt (uX2_step_j45_g (uX2_step_j28_g g mm)) (uX2_step_j28_mm g mm) (uX2_step_j45_g (uX2_step_j28_g g mm) 2) = sW n := by
    rw [h2.e2, word_eq h2 h2.v2]
    rfl
  have eh : uX2_step_j45_g (uX2_step_j28_g g mm) 2 = sH n := h2.e2
  have hH : w12 (sH n) := h2.v2
  have hW : w12 (sW n) := h2.cw _
  refine ⟨?_, ⟨hH.vin, (addr_eq hW hH).2.vin, (sim_place (g := _) (mm := _) h3 hW hH).2.2.vin, ?_⟩, ?_⟩
  · have h4 := sim_perform h3 hW hH
    have e1 : gX2_step g mm = gX2_perform (upd (upd (uX2_step_j45_g (uX2_step_j28_g g mm)) 16 (ctX1_add (uX2_step_j45_g (uX2_step_j28_g g mm) 16) (uX2_step_j28_mm g mm 3) (uX2_step_j45_g (uX2_step_j28_g g mm) 2))) 2 (rX2_next (uX2_step_j45_g (uX2_step_j28_g g mm) 2))) (va_up (uX2_step_j28_mm g mm) 3 (rwX1_add (uX2_step_j45_g (uX2_step_j28_g g mm) 16) (uX2_step_j28_mm g mm 3) (uX2_step_j45_g (uX2_step_j28_g g mm) 2))) (sW n) (sH n) := by
      rw [← ew, ← eh]
      rfl
    have e2 : mX2_step g mm = mX2_perform (upd (upd (uX2_step_j45_g (uX2_step_j28_g g mm)) 16 (ctX1_add (uX2_step_j45_g (uX2_step_j28_g g mm) 16) (uX2_step_j28_mm g mm 3) (uX2_step_j45_g (uX2_step_j28_g g mm) 2))) 2 (rX2_next (uX2_step_j45_g (uX2_step_j28_g g mm) 2))) (va_up (uX2_step_j28_mm g mm) 3 (rwX1_add (uX2_step_j45_g (uX2_step_j28_g g mm) 16) (uX2_step_j28_mm g mm 3) (uX2_step_j45_g (uX2_step_j28_g g mm) 2))) (sW n) (sH n) := by
      rw [← ew, ← eh]
      rfl
    rw [e1, e2]
    exact h4
  · obtain ⟨a, b, hab, hb, ea, eb⟩ := h3.rt
    intro hne
    have ea' : sG f n 1 = nI a := ea
    have eb' : sG f n 0 = nI b := eb
    rw [ea', eb'] at hne
    rw [ea']
    exact vp_in_nI (by rcases Nat.lt_or_ge a b with q | q; · omega
                       · exact absurd (by rw [show a = b by omega]) hne) (by decide)
  · obtain ⟨a, b, hab, hb, ea, eb⟩ := h.rt
    intro hne
    rw [h.e11, h.e12, ea, eb] at hne
    rw [h.e12, ea]
    exact vp_in_nI (by rcases Nat.lt_or_ge a b with q | q; · omega
                       · exact absurd (nI_le q (by omega)) hne) (by decide)
theorem sim_ok : ∀ (d : Nat) (g : Nat → Int32) (mm : Nat → Nat → Int32) (f : Nat → Int32) (n : Nat → Nat → Int32), RR g mm f n → cOK d g mm ∧ mOK d f n := by
  intro d
  induction d with
  | zero => intro g mm f n _; exact ⟨trivial, trivial⟩
  | succ d ih =>
    intro g mm f n h
    obtain ⟨h1, h2, h3⟩ := sim_step h
    obtain ⟨i1, i2⟩ := ih _ _ _ _ h1
    exact ⟨⟨h3, i1⟩, ⟨h2, i2⟩⟩
theorem sim_runs : ∀ (d : Nat) (g : Nat → Int32) (mm : Nat → Nat → Int32) (f : Nat → Int32) (n : Nat → Nat → Int32), RR g mm f n → (cRun d g mm).1 = (mRun d f n).1 ∧ RR (cRun d g mm).2.1 (cRun d g mm).2.2 (mRun d f n).2.1 (mRun d f n).2.2 := by
  intro d
  induction d with
  | zero => intro g mm f n h; exact ⟨rfl, h⟩
  | succ d ih =>
    intro g mm f n h
    obtain ⟨i1, i2⟩ := ih _ _ _ _ (sim_step h).1
    by_cases c : n 1 10 = 0
    · have e1 : cRun (d + 1) g mm = ((cRun d (gX2_step g mm) (mX2_step g mm)).1 + 1, (cRun d (gX2_step g mm) (mX2_step g mm)).2) := if_pos (h.e5.trans c)
      have e2 : mRun (d + 1) f n = ((mRun d (gX3_step f n) (mX3_step f n)).1 + 1, (mRun d (gX3_step f n) (mX3_step f n)).2) := if_pos c
      rw [e1, e2]
      exact ⟨by show _ + 1 = _ + 1; rw [i1], i2⟩
    · have e1 : cRun (d + 1) g mm = (0, g, mm) := if_neg (fun q => c (h.e5.symm.trans q))
      have e2 : mRun (d + 1) f n = (0, f, n) := if_neg c
      rw [e1, e2]
      exact ⟨rfl, h⟩
theorem sim_run (h : RR g mm f n) (a : Int32) : rX2_run g mm a = rX3_run f n a ∧ RR (gX2_run g mm a) (mX2_run g mm a) (gX3_run f n a) (mX3_run f n a) := by
  obtain ⟨h1, h2⟩ := sim_runs a.toNatClampNeg _ _ _ _ h
  unfold rX2_run rX3_run gX2_run mX2_run gX3_run mX3_run
  by_cases c1 : a < 0
  · simp only [if_pos c1]
    exact ⟨trivial, h⟩
  · by_cases c2 : a ≤ 2000
    · simp only [if_neg c1, if_pos c2]
      exact ⟨by rw [h1], h2⟩
    · simp only [if_neg c1, if_neg c2]
      exact ⟨trivial, h⟩
theorem va_id {k : Nat} {x : Nat → Int32} (h : x = mm k) : va_up mm k x = mm := by
  funext j
  unfold va_up
  split
  · rename_i e
    rw [e, h]
  · rfl
theorem sim_feed (h : RR g mm f n) (a : Int32) : rX2_feed g mm a = rX3_feed f n a ∧ RR (gX2_feed g mm a) (mX2_feed g mm a) (gX3_feed f n a) (mX3_feed f n a) ∧ ¬ g 11 < 0 ∧ (¬ f 0 = 400 → vp_in (f 0) 400) := by
  obtain ⟨p, b, hab, hb, ea, eb⟩ := h.rt
  have e11 : g 11 = nI b := h.e11.trans eb
  have hq : ¬ f 0 = 400 → b < 400 := fun q => by
    rcases Nat.lt_or_ge b 400 with z | z
    · exact z
    · exact absurd (by rw [eb, show b = 400 by omega]; rfl) q
  refine ⟨?_, ?_, by rw [e11]; exact nI_pos (by omega), fun q => by rw [eb]; exact vp_in_nI (hq q) (by decide)⟩
  · unfold rX2_feed rX0_append rX3_feed
    by_cases c1 : a < 0
    · simp only [if_pos c1]
    · by_cases c2 : 255 < a
      · simp only [if_neg c1, if_pos c2]
      · simp only [if_neg c1, if_neg c2]
        by_cases c3 : f 0 = 400
        · rw [if_pos c3, if_neg (by rw [h.e11, c3]; decide)]
        · rw [if_neg c3, if_pos (by rw [e11]; exact nI_lt (b := 400) (hq c3) (by decide))]
  · unfold gX2_feed mX2_feed fdX0_append tpX0_append gX3_feed mX3_feed
    by_cases c1 : a < 0
    · simp only [if_pos c1]
      rw [upd_id (k := 11) rfl, va_id (k := 1) rfl]
      exact h
    · by_cases c2 : 255 < a
      · simp only [if_neg c1, if_pos c2]
        rw [upd_id (k := 11) rfl, va_id (k := 1) rfl]
        exact h
      · simp only [if_neg c1, if_neg c2]
        by_cases c3 : f 0 = 400
        · have c4 : ¬ g 11 < 400 := by rw [h.e11, c3]; decide
          simp only [if_pos c3, if_neg c4]
          rw [upd_id (k := 11) rfl, va_id (k := 1) rfl]
          exact h
        · have c4 : g 11 < 400 := by rw [e11]; exact nI_lt (b := 400) (hq c3) (by decide)
          simp only [if_neg c3, if_pos c4]
          have h1 := h.i11 (v := g 11 + 1) (vv := f 0 + 1) (by rw [h.e11]) ⟨p, b + 1, by omega, by have := hq c3; omega, ea, by show f 0 + 1 = _; rw [eb]; exact nI_1 b⟩
          obtain ⟨k, hk, ek⟩ := nI_of2 (M := 255) (n := 255) (by decide) c1 (Int32.not_lt.mp c2)
          rw [h.e11]
          rw [h.e11] at h1
          exact h1.tape ⟨k, by omega, ek⟩
theorem sim_waiting (h : RR g mm f n) : rX2_waiting g mm = rX3_waiting f n := by
  show g 11 - g 12 = f 0 - f 1
  rw [h.e11, h.e12]
theorem isA {a : Int32} : (¬ a < 0 ∧ a ≤ 4095 → rX2_isAddress a = 1 ∧ w12 a) ∧ (a < 0 ∨ ¬ a ≤ 4095 → rX2_isAddress a = 0) := by
  have e : rX2_isAddress a = if a < 0 then 0 else if 4096 ≤ a then 0 else 1 := rfl
  have q : (4096 : Int32) ≤ a ↔ ¬ a ≤ 4095 := by
    rw [Int32.le_iff_toInt_le, Int32.le_iff_toInt_le, show (4096 : Int32).toInt = 4096 from rfl, show (4095 : Int32).toInt = 4095 from rfl]
    omega
  refine ⟨fun ⟨h1, h2⟩ => ?_, fun h => ?_⟩
  · obtain ⟨k, hk, ek⟩ := nI_of2 (M := 4095) (n := 4095) (by decide) h1 h2
    exact ⟨by rw [e, if_neg h1, if_neg (fun z => q.mp z h2)], k, by omega, ek⟩
  · rw [e]
    by_cases c : a < 0
    · rw [if_pos c]
    · rw [if_neg c, if_pos (q.mpr (h.resolve_left c))]
theorem sim_poke (h : RR g mm f n) (a v : Int32) : rX2_poke g mm a v = rX3_poke f n a v ∧ RR g (mX2_poke g mm a v) f (mX3_poke f n a v) := by
  unfold rX2_poke rX3_poke mX2_poke mX3_poke
  by_cases c1 : a < 0
  · rw [isA.2 (Or.inl c1)]
    simp only [if_pos, if_pos c1]
    exact ⟨trivial, h⟩
  · by_cases c2 : a ≤ 4095
    · obtain ⟨e, w⟩ := isA.1 ⟨c1, c2⟩
      rw [e]
      simp only [if_neg c1, if_pos c2, if_neg (show ¬ (1 : Int32) = 0 by decide)]
      refine ⟨word_eq h w, ?_⟩
      unfold mX2_putWord
      rw [msk w]
      exact h.core rfl (msk_w v)
    · rw [isA.2 (Or.inr c2)]
      simp only [if_pos, if_neg c1, if_neg c2]
      exact ⟨trivial, h⟩
theorem sim_peek (h : RR g mm f n) (a : Int32) : rX2_peek g mm a = rX3_peek f n a := by
  show uX2_peek_j16_s0 g mm a = uX3_peek_j21_s0 n a
  unfold uX2_peek_j16_s0 uX3_peek_j21_s0
  by_cases c1 : a < 0
  · rw [isA.2 (Or.inl c1), if_pos rfl, if_pos c1]
  · by_cases c2 : a ≤ 4095
    · obtain ⟨e, w⟩ := isA.1 ⟨c1, c2⟩
      rw [e, if_neg (by decide), if_neg c1, if_pos c2]
      exact word_eq h w
    · rw [isA.2 (Or.inr c2), if_pos rfl, if_neg c1, if_neg c2]
theorem and1 (v : Int32) : b1 (v &&& 1) := by
  obtain ⟨j, hj, e⟩ := pk_andE v (m := 1) 1 (by decide)
  have : j = 0 ∨ j = 1 := by omega
  rcases this with rfl | rfl
  · exact Or.inl e
  · exact Or.inr e
theorem small {a M : Int32} {m : Nat} (hM : M.toInt = m) (h1 : ¬ a < 0) (h2 : a ≤ M) : ∃ j : Nat, j ≤ m ∧ a = nI j := nI_of2 hM h1 h2
theorem sim_set (h : RR g mm f n) (a v : Int32) : rX2_set g mm a v = rX3_set f n a v ∧ RR (gX2_set g mm a v) mm f (mX3_set f n a v) := by
  have em : mX3_set f n a v = if a < (0 : Int32) then n else (if a ≤ (4 : Int32) then va_up n 1 (upd (n 1) a.toNatClampNeg (uX3_set_j32_s0 a v)) else n) := rfl
  rw [em]
  unfold rX2_set rX3_set gX2_set uX3_set_j32_s0
  by_cases c1 : a < 0
  · have ne : ∀ k : Int32, 0 ≤ k → ¬ a = k := fun k hk q => absurd (q ▸ c1) (Int32.not_lt.mpr hk)
    simp only [if_pos c1, if_neg (ne 0 (by decide)), if_neg (ne 1 (by decide)), if_neg (ne 2 (by decide)), if_neg (ne 3 (by decide)), if_neg (ne 4 (by decide))]
    exact ⟨trivial, h⟩
  · by_cases c2 : a ≤ 4
    · obtain ⟨j, hj, rfl⟩ := small (M := 4) (m := 4) (by decide) c1 c2
      have : j = 0 ∨ j = 1 ∨ j = 2 ∨ j = 3 ∨ j = 4 := by omega
      rcases this with rfl | rfl | rfl | rfl | rfl
      · simp only [if_neg c1, if_pos c2, if_pos (show nI 0 = 0 by decide), if_neg (show ¬ nI 0 = 1 by decide)]
        exact ⟨trivial, h.s0 rfl (msk_w v)⟩
      · simp only [if_neg c1, if_pos c2, if_pos (show nI 1 = 1 by decide), if_neg (show ¬ nI 1 = 0 by decide)]
        exact ⟨trivial, h.s1 rfl (and1 v)⟩
      · simp only [if_neg c1, if_pos c2, if_pos (show nI 2 = 2 by decide), if_neg (show ¬ nI 2 = 0 by decide), if_neg (show ¬ nI 2 = 1 by decide)]
        exact ⟨trivial, h.s2 rfl (msk_w v)⟩
      · simp only [if_neg c1, if_pos c2, if_pos (show nI 3 = 3 by decide), if_neg (show ¬ nI 3 = 0 by decide), if_neg (show ¬ nI 3 = 1 by decide), if_neg (show ¬ nI 3 = 2 by decide)]
        exact ⟨trivial, h.s3 rfl (msk_w v)⟩
      · simp only [if_neg c1, if_pos c2, if_pos (show nI 4 = 4 by decide), if_neg (show ¬ nI 4 = 0 by decide), if_neg (show ¬ nI 4 = 1 by decide), if_neg (show ¬ nI 4 = 2 by decide), if_neg (show ¬ nI 4 = 3 by decide)]
        exact ⟨trivial, h.s4 rfl (msk_w v)⟩
    · have ne : ∀ k : Int32, k ≤ 4 → ¬ a = k := fun k hk q => c2 (q ▸ hk)
      simp only [if_neg c1, if_neg c2, if_neg (ne 0 (by decide)), if_neg (ne 1 (by decide)), if_neg (ne 2 (by decide)), if_neg (ne 3 (by decide)), if_neg (ne 4 (by decide))]
      exact ⟨trivial, h⟩
theorem bit_b {x : Int32} (h : b1 x) : rX2_bit x = x := by
  show (if x = 0 then (0 : Int32) else 1) = x
  rcases h with rfl | rfl <;> decide
theorem sim_register (h : RR g mm f n) (a : Int32) : rX2_register g mm a = rX3_register f n a := by
  show _ = uX3_register_j20_s0 n a
  unfold rX2_register uX3_register_j20_s0
  rw [h.e6, h.e7, h.e14, h.e8, h.e5, bit_b h.v5, bit_b h.v6, bit_b h.v7, bit_b h.v9, bit_b h.v10, h.e0, h.e1, h.e2, h.e3, h.e4, h.e13]
  by_cases c1 : a < 0
  · have ne : ∀ k : Int32, 0 ≤ k → ¬ a = k := fun k hk q => absurd (q ▸ c1) (Int32.not_lt.mpr hk)
    simp only [if_pos c1, if_neg (ne 0 (by decide)), if_neg (ne 1 (by decide)), if_neg (ne 2 (by decide)), if_neg (ne 3 (by decide)), if_neg (ne 4 (by decide)), if_neg (ne 5 (by decide)), if_neg (ne 6 (by decide)), if_neg (ne 7 (by decide)), if_neg (ne 8 (by decide)), if_neg (ne 9 (by decide)), if_neg (ne 10 (by decide))]
  · by_cases c2 : a ≤ 10
    · rw [if_neg c1, if_pos c2]
      obtain ⟨j, hj, rfl⟩ := small (M := 10) (m := 10) (by decide) c1 c2
      rw [nI_clamp (by omega)]
      have : j = 0 ∨ j = 1 ∨ j = 2 ∨ j = 3 ∨ j = 4 ∨ j = 5 ∨ j = 6 ∨ j = 7 ∨ j = 8 ∨ j = 9 ∨ j = 10 := by omega
      rcases this with rfl | rfl | rfl | rfl | rfl | rfl | rfl | rfl | rfl | rfl | rfl <;> rfl
    · have ne : ∀ k : Int32, k ≤ 10 → ¬ a = k := fun k hk q => c2 (q ▸ hk)
      simp only [if_neg c1, if_neg c2, if_neg (ne 0 (by decide)), if_neg (ne 1 (by decide)), if_neg (ne 2 (by decide)), if_neg (ne 3 (by decide)), if_neg (ne 4 (by decide)), if_neg (ne 5 (by decide)), if_neg (ne 6 (by decide)), if_neg (ne 7 (by decide)), if_neg (ne 8 (by decide)), if_neg (ne 9 (by decide)), if_neg (ne 10 (by decide))]
theorem sim_go (h : RR g mm f n) : rX2_go g mm = rX3_go f n ∧ RR (gX2_go g mm) mm f (mX3_go f n) ∧ narrow .boolean (.int (g 5)) = .int (g 5) := by
  refine ⟨?_, h.s5 rfl (Or.inl rfl), ?_⟩
  · show g 5 = if n 1 10 = 1 then 1 else 0
    rw [h.e5]
    rcases h.v10 with e | e <;> rw [e] <;> decide
  · rw [h.e5]
    rcases h.v10 with e | e <;> rw [e] <;> rfl
theorem sim_late {c a : Int32} {row out : Nat → Int32} (h : ring c row out) : rX1_fromLatest c row a = if a < (0 : Int32) then (-1) else (if (63 : Int32) < a then (-1) else (if a < c then out a.toNatClampNeg else (-1))) := by
  unfold rX1_fromLatest
  have q : (64 : Int32) ≤ a ↔ 63 < a := by
    rw [Int32.le_iff_toInt_le, Int32.lt_iff_toInt_lt, show (64 : Int32).toInt = 64 from rfl, show (63 : Int32).toInt = 63 from rfl]
    omega
  by_cases c1 : a < 0
  · rw [if_pos c1, if_pos c1]
  · rw [if_neg c1, if_neg c1]
    by_cases c2 : 63 < a
    · rw [if_pos c2, if_pos (q.mpr c2)]
    · rw [if_neg c2, if_neg (fun z => c2 (q.mp z))]
      by_cases c3 : a < c
      · rw [if_pos c3, if_pos c3]
        obtain ⟨k, hk, rfl⟩ := nI_of2 (M := 63) (n := 63) (by decide) c1 (Int32.not_lt.mp c2)
        rw [ixF c (by omega), nI_clamp (by omega)]
        exact (h k (by omega)).symm
      · rw [if_neg c3, if_neg c3]
theorem sim_printed (h : RR g mm f n) (a : Int32) : rX2_printed g mm a = rX3_printed f n a := by
  show (if a = (-1) then g 15 else rX1_fromLatest (g 15) (mm 2) a) = (if a = (-1) then f 2 else uX3_printed_j38_s0 f n a)
  rw [sim_late h.r15, h.e15]
  rfl
theorem sim_trace (h : RR g mm f n) (a : Int32) : rX2_trace g mm a = rX3_trace f n a := by
  show rX1_fromLatest (g 16) (mm 3) a = uX3_trace_j28_s0 f n a
  rw [sim_late h.r16, h.e16]
  rfl
theorem sim_0 : RR (fun _ => 0) (fun _ _ => 0) (fun _ => 0) (fun _ _ => 0) := by
  refine ⟨⟨rfl, rfl, rfl, rfl, rfl, rfl, rfl, rfl, rfl, rfl, rfl, rfl, rfl, rfl, rfl, rfl, rfl⟩, ⟨w12_0, Or.inl rfl, w12_0, w12_0, w12_0, Or.inl rfl, Or.inl rfl, Or.inl rfl, w8_0, Or.inl rfl, Or.inl rfl⟩, ⟨0, 0, by decide, by decide, rfl, rfl⟩, rfl, fun _ => w12_0, rfl, fun _ => w8_0, fun _ _ => rfl, fun _ _ => rfl⟩
end SIMC
end
section
/-! constructors: contracts with new cells -/
def QN (D : va_G) (cI : ClassId) (P : va_W → Prop) (A : Nat → Prop) : Array Value → State → Outcome → State → Prop := fun _ st oc t => oc = .returned none ∧ (∃ w, P w ∧ PB D cI w A t) ∧ va_F A st t
def MN (l : Launch) (D : va_G) (cI : ClassId) (y : MethodName) (k : Cond) (rm : Room) (As : List Value) (ws : va_W) (P : va_W → Prop) (mc ms : Nat) : Prop :=
  ∀ sz, Met l y (k :: TB) rm (va_Pc As (PRE D cI ws sz)) (QN D cI P (va_A ws sz)) mc ms (va_A ws sz)
section CTORA
variable {p : Program} {l : Launch} {e : Env} {R : Room} {s : State} {m : MethodId} {args : Array Value} {below : List Frame} {meth : Method} {c : Code} {H : Heap} {locs : List Loc} {cells slots : Nat} {Q : State → Prop}
variable {cc : ByteArray} {nL pc : Nat} {ls : Array Slot} {rest st0 : List Value} {D : va_G} {cI : ClassId} {A : Nat → Prop} {ws wc wr ws' : va_W} {Ts : List Cond} {own C : String} {mc ms : Nat} {P : va_W → Prop}
variable {y : MethodName} {bytes : ByteArray} {maxL index : Nat} {rm : Room} {As : List Value} {b ci : Nat} {fs : List Value} {host : String}
theorem callxN {a : Array Value} (Z : ZZ D cI ws A s H locs) (isC isR : List Nat) (hC : isC.map (fun i => ws[i]?) = wc.map some) (hR : isR.map (fun i => ws[i]?) = wr.map some) (hn : va_nd isR = true) (hdis : ∀ i ∈ isR, i ∉ isC)
    (hr : va_Run p l e R s m args below meth c H locs cells slots mc ms (F0 m pc ls st0) rest (QN D cI P (va_A wc H.size) a) (va_A wc H.size))
    (kk : ∀ (w1 : va_W) (H1 : Heap) (locs1 : List Loc), P w1 → ZZ D cI (wr ++ w1) A s H1 locs1 → W p l e R s m args below meth c H1 locs1 (cells + mc) (slots + ms) Q (F0 m (pc + 3) ls rest)) : W p l e R s m args below meth c H locs cells slots Q (F0 m pc ls st0) := by
  obtain ⟨hP, hD, hS, hK, hN, hA⟩ := Z
  have hF := va_free (wc := wc) hD hS hA isC hC
  intro T hT X
  obtain ⟨v, st₀, t, T', L, h0, X', hL, e1, e2, ⟨hv, ⟨w1, hw1, hP1, hK1, hD1⟩, hz, hk⟩, st⟩ := hr T hT X
  cases hv
  rw [h0] at hz hk
  rw [← e1] at hP1
  obtain ⟨hP2, hD2⟩ := va_join hP hD isC isR hC hR hn hdis (fun q h1 h2 => by rw [e1]; exact hk q h1 h2) hF hP1 hD1
  obtain ⟨t2, a1, b1⟩ := kk w1 T'.heap (locs ++ L) hw1 ⟨hP2, hD2, ⟨Nat.le_trans hS.1 (by rw [e1]; exact hz), fun q h1 h2 => by rw [e1, hk q (Nat.lt_of_lt_of_le h1 hS.1) (fun z => h2 (hF q z))]; exact hS.2.1 q h1 h2, fun q hq => by
      rcases List.mem_append.mp hq with h | h
      · exact hS.2.2 q h
      · exact hF _ (hL q h)⟩, hK, hN, hA⟩ T' rfl X'
  exact ⟨t2, st t2 a1, b1⟩
/-- a constructor of a nest mate -/
theorem call_IN (X : CallFix p m c cc nL s args Ts own) (hTs : ∀ w ∈ TB, w ∈ Ts) (Z : ZZ D cI ws A s H locs) (isC isR : List Nat) (hC : isC.map (fun i => ws[i]?) = wc.map some) (hR0 : isR.map (fun i => ws[i]?) = wr.map some) (hnC : va_nd isC = true) (hn : va_nd isR = true) (hdis : ∀ i ∈ isR, i ∉ isC) (hlk : Cond.methodLinkNest own index y host ∈ NL) (hins : Cond.instanceMethod y ∈ TB) (hini : Cond.initialized y.cls ∈ TB) (hco : Cond.code y bytes maxL none ∈ TB) (hy : y.name = "<init>") (hM : MN l D cI y (.code y bytes maxL none) rm (.ref b :: As) wc P mc ms)
    (hd : HD y As.length) (hR : rm.frames + 1 ≤ R.frames ∧ 8 + (maxL + 11) + rm.locals ≤ R.locals) (h0 : rm.cells = mc ∧ rm.slots = ms)
    (hsize : ls.size = nL) (hst : st0 = As.reverse ++ .ref b :: rest) (hrm : (rest.map fun v => v.category).sum ≤ 8) (hcs : cells + mc ≤ R.cells ∧ slots + ms ≤ R.slots) (hdg : decode cc pc = .ok (.invokespecial index, 3))
    (kk : ∀ (w1 : va_W) (H1 : Heap) (locs1 : List Loc), P w1 → ZZ D cI (wr ++ w1) A s H1 locs1 → W p l e R s m args below meth c H1 locs1 (cells + mc) (slots + ms) Q (F0 m (pc + 3) ls rest)) : W p l e R s m args below meth c H locs cells slots Q (F0 m pc ls st0) :=
  have ht := X.2.2.2.2
  callxN Z isC isR hC hR0 hn hdis
    (va_runIN (host := host) (As := As) (rest := rest) X (hM H.size) ⟨va_cnB As.length ht (good_k hTs hco) rfl h0.1 h0.2 (Z.2.2.2.2.1 _ hlk) (ht _ (hTs _ hini)) hd hR, hy, ht _ (hTs _ hins)⟩ ⟨pre_blind, pre_of Z isC hC hnC⟩ rfl rfl hsize hst (lv_room hrm) hdg hcs) kk
/-- a public constructor -/
theorem call_I (X : CallFix p m c cc nL s args Ts own) (hTs : ∀ w ∈ TB, w ∈ Ts) (Z : ZZ D cI ws A s H locs) (isC isR : List Nat) (hC : isC.map (fun i => ws[i]?) = wc.map some) (hR0 : isR.map (fun i => ws[i]?) = wr.map some) (hnC : va_nd isC = true) (hn : va_nd isR = true) (hdis : ∀ i ∈ isR, i ∉ isC) (hlk : Cond.methodLink own index y ∈ TB) (hins : Cond.instanceMethod y ∈ TB) (hini : Cond.initialized y.cls ∈ TB) (hco : Cond.code y bytes maxL none ∈ TB) (hy : y.name = "<init>") (hM : MN l D cI y (.code y bytes maxL none) rm (.ref b :: As) wc P mc ms)
    (hd : HD y As.length) (hR : rm.frames + 1 ≤ R.frames ∧ 8 + (maxL + 11) + rm.locals ≤ R.locals) (h0 : rm.cells = mc ∧ rm.slots = ms)
    (hsize : ls.size = nL) (hst : st0 = As.reverse ++ .ref b :: rest) (hrm : (rest.map fun v => v.category).sum ≤ 8) (hcs : cells + mc ≤ R.cells ∧ slots + ms ≤ R.slots) (hdg : decode cc pc = .ok (.invokespecial index, 3))
    (kk : ∀ (w1 : va_W) (H1 : Heap) (locs1 : List Loc), P w1 → ZZ D cI (wr ++ w1) A s H1 locs1 → W p l e R s m args below meth c H1 locs1 (cells + mc) (slots + ms) Q (F0 m (pc + 3) ls rest)) : W p l e R s m args below meth c H locs cells slots Q (F0 m pc ls st0) :=
  have ht := X.2.2.2.2
  callxN Z isC isR hC hR0 hn hdis
    (va_runI (As := As) (rest := rest) X (hM H.size) (cwI As.length ht (good_k hTs hco) rfl h0.1 h0.2 (ht _ (hTs _ hini)) (ht _ (hTs _ hlk)) (ht _ (hTs _ hins)) hy hd hR) ⟨pre_blind, pre_of Z isC hC hnC⟩ rfl rfl hsize hst (lv_room hrm) hdg hcs) kk
theorem MN.of (hy : plainName y.cls = true) (hyc : y.cls = own) (hyn : y.name = "<init>") (hlen : (lg_sl As).length ≤ nL)
    (body : ∀ (p : Program) (e : Env) (s : State) (m : MethodId) (args : Array Value) (below : List Frame) (meth : Method) (c : Code) (A : Nat → Prop) (ls : Array Slot) (Q : State → Prop), CallFix p m c cc nL s args (Cond.code y cc nL none :: TB) own → meth.name = "<init>" → ZZ D cI ws A s s.heap [] → lv_has ls nL (lv_args 0 As) →
      (∀ (w : va_W) (H : Heap) (locs : List Loc) (ls : Array Slot) (pc : Nat), ZZ D cI w A s H locs → P w → decode cc pc = .ok (.return_, 1) → W p l e rm s m args below meth c H locs mc ms Q (F0 m pc ls [])) →
      W p l e rm s m args below meth c s.heap [] 0 0 Q (F0 m 0 ls [])) : MN l D cI y (.code y cc nL none) rm As ws P mc ms := by
  intro sz
  refine Met.ofW (cc := cc) (maxL := nL) (ret := none) hy rfl ?_
  intro p e s m args below meth c s₁ B hml hv
  obtain ⟨rfl, hsz, hP, hK, hD0, hN⟩ := hv
  have hts := atoms_spec (ws := Cond.code y cc nL none :: TB) B.pre
  have hown : s.vm.findClass own = some m.cls := by rw [← hyc]; exact findClass_of_methodNamed B.named
  have hin : meth.name = "<init>" := (name_of_methodNamed B.named B.method).1.trans hyn
  have hlk := B.notSynchronized
  have hr := B.returns
  subst hsz
  have hD := hD0.self (sz := s.heap.size)
  have hA : ∀ q, s.heap.size ≤ q → va_A ws s.heap.size q := fun q h => Or.inr h
  rw [lg_entry_eq]
  refine body p e s m _ below meth c _ _ _ ⟨B.exec, B.bytes, hml, hown, hts⟩ hin ⟨hP, hD, va_S.rf, hK, hN, hA⟩ (lv_entry As hlen) ?_
  intro w H locs ls pc Z hPw hdg
  exact W.vret B.exec B.bytes hr (fun t ht hW => ⟨rfl, ⟨w, hPw, by rw [ht]; exact Z.1, va_K.moved hW.alike Z.2.2.2.1, Z.2.1⟩, Z.2.2.1.F ht⟩) Z.2.2.1.2.2 hdg hlk
theorem z_obj (X : CallFix p m c cc nL s args Ts own) (hTs : ∀ w ∈ TB, w ∈ Ts) (hlk : Cond.methodLink own index objectInit ∈ TB) (hls : ls.size = nL) {a : Nat} (hd : decode cc pc = .ok (.invokespecial index, 3)) (h1 : 1 ≤ R.frames) (h2 : (rest.map fun v => v.category).sum + 12 ≤ R.locals)
    (kk : W p l e R s m args below meth c H locs cells slots Q (F0 m (pc + 3) ls rest)) : W p l e R s m args below meth c H locs cells slots Q (F0 m pc ls (.ref a :: rest)) := by
  refine W.objInit X.1 X.2.1 X.2.2.2.1 (X.2.2.2.2 _ (hTs _ hlk)) (X.2.2.2.2 _ (hTs _ kw_40)) (X.2.2.2.2 _ (hTs _ kw_41)) rfl (by rw [X.2.2.1]; exact hls) rfl hd h1 ?_ ?_
  · show 2 * 0 + _ + 12 ≤ _
    omega
  · exact kk
theorem cI_eq {cA : ClassId} (h : va_K D vwCl [(cI, .int), (cA, .int)] s) : cA = cI := by
  have h1 : s.vm.findClass ("[" ++ FieldType.int.toString) = some cI := (h.2 0 _ rfl).2
  have h2 : s.vm.findClass ("[" ++ FieldType.int.toString) = some cA := (h.2 1 _ rfl).2
  exact Option.some.inj (h2.symm.trans h1)
theorem z_newa (X : CallFix p m c cc nL s args Ts own) (hTs : ∀ w ∈ TB, w ∈ Ts) (Z : ZZ D cI ws A s H locs) {v : Int32} {N : Nat} (hn : ¬ v < 0) (hN : v.toNatClampNeg = N) (hby : N * componentBytes FieldType.int ≤ 536870912) (hce : cells + 1 ≤ R.cells) (hsl : slots + N ≤ R.slots) (hdg : decode cc pc = .ok (.newarray .int, 2))
    (kk : ∀ (q : Nat) (H1 : Heap), ZZ D cI (ws ++ [(q, .inl (cI, N, .inl (fun _ => 0)))]) A s H1 locs → W p l e R s m args below meth c H1 locs (cells + 1) (slots + N) Q (F0 m (pc + 2) ls (.ref q :: rest))) : W p l e R s m args below meth c H locs cells slots Q (F0 m pc ls (.int v :: rest)) := by
  refine va_newa (atype := .int) (ty := .int) (a0 := (N, .inl (fun _ => 0))) X.1 X.2.1 (X.2.2.2.2 _ (hTs _ kw_66)) rfl Z.2.2.2.1 Z.1 Z.2.1 Z.2.2.1 Z.2.2.2.2.2 (fun _ => rfl) hn hN hby hce hsl hdg (fun q cA H1 hK hP hD hS => ?_)
  have e := cI_eq hK
  subst e
  exact kk q H1 ⟨hP, hD, hS, Z.2.2.2⟩
theorem z_putF {ref : String} {T : u_T} {N : Nat} {a : Nat} (X : CallFix p m c cc nL s args Ts own) (hTs : ∀ w ∈ TB, w ∈ Ts) (Z : ZZ D cI ws A s H locs) (hin : ∀ w ∈ u_ws C T N, w ∈ TB) (ty0 : Nat → FieldType) (hty : ∀ k, k < N → parseFieldDescriptor (T k).2.2.1 = some (ty0 k)) (hnm : ∀ a, a < N → ∀ b, b < N → a ≠ b → (T a).2.1 ≠ (T b).2.1) (q0 : Nat) (he : ws[q0]? = some (a, .inr (ci, fs))) (hc : vwCl[ci]? = some (C, T, N)) (k : Nat) (hk : k < N) (hl : Cond.fieldLink own index ref (T k).2.1 (T k).2.2.1 ∈ TB) (hrf : (T k).1 = ref) (hfin : (T k).2.2.2 = true) (hinit : meth.name = "<init>") (hdecl : (T k).1 = own) {ty : FieldType} {v : Value} (hd : parseFieldDescriptor (T k).2.2.1 = some ty) (hn : narrow ty v = v) (hfit : fits ty v = true) (hlen : k < fs.length) (hw : ws.set q0 (a, .inr (ci, fs.set k v)) = ws') (hdg : decode cc pc = .ok (.putfield index, 3))
    (kk : ∀ (H1 : Heap) (locs1 : List Loc), ZZ D cI ws' A s H1 locs1 → W p l e R s m args below meth c H1 locs1 cells slots Q (F0 m (pc + 3) ls rest)) : W p l e R s m args below meth c H locs cells slots Q (F0 m pc ls (v :: .ref a :: rest)) := by
  subst hrf; subst hw
  exact va_putF X.1 X.2.1 X.2.2.2.2 (fun w h => hTs w (hin w h)) ty0 hty hnm X.2.2.2.1 Z.2.2.2.1 Z.1 Z.2.1 Z.2.2.1 q0 he hc k hk (X.2.2.2.2 _ (hTs _ hl)) (fun _ h => h) hfin hinit hdecl hd hn hfit hlen hdg (fun H1 locs1 h1 h2 h3 => kk H1 locs1 ⟨h1, h2, h3, Z.2.2.2⟩)
theorem z_new {T : u_T} {N : Nat} (X : CallFix p m c cc nL s args Ts own) (hTs : ∀ w ∈ TB, w ∈ Ts) (Z : ZZ D cI ws A s H locs) (hin : ∀ w ∈ u_ws C T N, w ∈ TB) (ty0 : Nat → FieldType) (hty : ∀ k, k < N → parseFieldDescriptor (T k).2.2.1 = some (ty0 k)) (hcl : Cond.classLink own index C ∈ TB) (hins : Cond.instantiable C N ∈ TB) (hini : Cond.initialized C ∈ TB) (hc : vwCl[ci]? = some (C, T, N)) (hfs : ∀ j, j < N → defaultValue (ty0 j) = vp_V fs j) (hce : cells + 1 ≤ R.cells) (hsl : slots + N ≤ R.slots) (hdg : decode cc pc = .ok (.new index, 3))
    (kk : ∀ (q : Nat) (H1 : Heap), ZZ D cI (ws ++ [(q, .inr (ci, fs))]) A s H1 locs → W p l e R s m args below meth c H1 locs (cells + 1) (slots + N) Q (F0 m (pc + 3) ls (.ref q :: rest))) : W p l e R s m args below meth c H locs cells slots Q (F0 m pc ls rest) :=
  have ht := X.2.2.2.2
  va_new X.1 X.2.1 ht (fun w h => hTs w (hin w h)) ty0 hty X.2.2.2.1 (ht _ (hTs _ hcl)) (ht _ (hTs _ hins)) (ht _ (hTs _ hini)) Z.2.2.2.1 Z.1 Z.2.1 Z.2.2.1 Z.2.2.2.2.2 hc hfs hce hsl hdg (fun q H1 hP hD hS => kk q H1 ⟨hP, hD, hS, Z.2.2.2⟩)
end CTORA
def qf (a0 a1 a2 a3 a4 a5 a6 a7 : Nat) : Nat → Nat := fun k => match k with
  | 0 => a0
  | 1 => a1
  | 2 => a2
  | 3 => a3
  | 4 => a4
  | 5 => a5
  | 6 => a6
  | _ => a7
theorem fs_X0 : ∀ j, j < 5 → defaultValue (tyX0 j) = vp_V [.null, .int 0, .int 0, .int 0, .int 0] j := by
  intro j hj
  have : j = 0 ∨ j = 1 ∨ j = 2 ∨ j = 3 ∨ j = 4 := by omega
  rcases this with rfl | rfl | rfl | rfl | rfl <;> rfl
theorem fs_X1 : ∀ j, j < 2 → defaultValue (tyX1 j) = vp_V [.null, .int 0] j := by
  intro j hj
  have : j = 0 ∨ j = 1 := by omega
  rcases this with rfl | rfl <;> rfl
set_option maxRecDepth 20000 in
set_option maxHeartbeats 4000000 in
theorem c_X0_init (l : Launch) (D : va_G) (cI : ClassId) (a : Nat) : MN l D cI yX0_init (.code yX0_init cX0_init 1 none) ({ frames := 1, cells := 1, slots := 400, locals := 12 } : Room) [.ref a] [(a, .inr (0, [.null, .int 0, .int 0, .int 0, .int 0]))] (fun w => ∃ b, w = rdw a b cI 0 0 0 0 (fun _ => 0)) 1 400 := by
  refine MN.of (own := RX0) (by decide) rfl rfl (Nat.le_of_ble_eq_true rfl) ?_
  intro p e s m args below meth c A ls Q X hin Z hl hret
  have hT : ∀ w ∈ TB, w ∈ (Cond.code yX0_init cX0_init 1 none :: TB) := fun _ h => List.mem_cons_of_mem _ h
  have hl : lv_has ls 1 [(0, .ref a)] := hl
  refine lv_aload_n X.1 X.2.1 dX0_init_0 rfl (lv_at hl 0 rfl) ?_
  refine z_obj X hT kw_47 hl.1 dX0_init_1 (by decide) (Nat.le_of_ble_eq_true rfl) ?_
  refine lv_aload_n X.1 X.2.1 dX0_init_4 rfl (lv_at hl 0 rfl) ?_
  refine lv_sipush (v := 400) X.1 X.2.1 dX0_init_5 (by decide) ?_
  refine z_newa (N := 400) X hT Z (by decide) (by decide) (by decide) (by decide) (by decide) dX0_init_8 (fun b H Z => ?_)
  refine z_putF (ws' := rdw a b cI 0 0 0 0 (fun _ => 0)) X hT Z iX0 tyX0 tyX0_ok nmX0 0 rfl rfl 0 (by decide) kw_48 rfl rfl hin rfl (ty := .array .int) (by decide +kernel) rfl rfl (Nat.le_of_ble_eq_true rfl) rfl dX0_init_10 (fun H locs Z => ?_)
  exact hret _ _ _ _ _ Z ⟨b, rfl⟩ dX0_init_13
set_option maxRecDepth 20000 in
set_option maxHeartbeats 4000000 in
theorem c_X1_init (l : Launch) (D : va_G) (cI : ClassId) (a : Nat) : MN l D cI yX1_init (.code yX1_init cX1_init 1 none) ({ frames := 1, cells := 1, slots := 64, locals := 12 } : Room) [.ref a] [(a, .inr (1, [.null, .int 0]))] (fun w => ∃ b, w = rcw a b cI 0 (fun _ => 0)) 1 64 := by
  refine MN.of (own := RX1) (by decide) rfl rfl (Nat.le_of_ble_eq_true rfl) ?_
  intro p e s m args below meth c A ls Q X hin Z hl hret
  have hT : ∀ w ∈ TB, w ∈ (Cond.code yX1_init cX1_init 1 none :: TB) := fun _ h => List.mem_cons_of_mem _ h
  have hl : lv_has ls 1 [(0, .ref a)] := hl
  refine lv_aload_n X.1 X.2.1 dX1_init_0 rfl (lv_at hl 0 rfl) ?_
  refine z_obj X hT kw_72 hl.1 dX1_init_1 (by decide) (Nat.le_of_ble_eq_true rfl) ?_
  refine lv_aload_n X.1 X.2.1 dX1_init_4 rfl (lv_at hl 0 rfl) ?_
  refine lv_bipush (v := 64) X.1 X.2.1 dX1_init_5 (by decide) ?_
  refine z_newa (N := 64) X hT Z (by decide) (by decide) (by decide) (by decide) (by decide) dX1_init_7 (fun b H Z => ?_)
  refine z_putF (ws' := rcw a b cI 0 (fun _ => 0)) X hT Z iX1 tyX1 tyX1_ok nmX1 0 rfl rfl 0 (by decide) kw_73 rfl rfl hin rfl (ty := .array .int) (by decide +kernel) rfl rfl (Nat.le_of_ble_eq_true rfl) rfl dX1_init_9 (fun H locs Z => ?_)
  exact hret _ _ _ _ _ Z ⟨b, rfl⟩ dX1_init_12
end
section
set_option maxRecDepth 20000 in
set_option maxHeartbeats 4000000 in
theorem c_X2_init (l : Launch) (D : va_G) (cI : ClassId) (a : Nat) : MN l D cI yX2_init (.code yX2_init cX2_init 1 none) ({ frames := 2, cells := 7, slots := 4633, locals := 32 } : Room) [.ref a] [(a, .inr (2, [.null, .null, .null, .null, .int 0, .int 0, .int 0, .int 0, .int 0, .int 0, .int 0, .int 0, .int 0, .int 0, .int 0]))] (fun w => ∃ q : Nat → Nat, q 0 = a ∧ w = cw q cI (fun _ => 0) (fun _ _ => 0)) 7 4633 := by
  refine MN.of (own := RX2) (by decide) rfl rfl (Nat.le_of_ble_eq_true rfl) ?_
  intro p e s m args below meth c A ls Q X hin Z hl hret
  have hT : ∀ w ∈ TB, w ∈ (Cond.code yX2_init cX2_init 1 none :: TB) := fun _ h => List.mem_cons_of_mem _ h
  have hl : lv_has ls 1 [(0, .ref a)] := hl
  refine lv_aload_n X.1 X.2.1 dX2_init_0 rfl (lv_at hl 0 rfl) ?_
  refine z_obj X hT kw_39 hl.1 dX2_init_1 (by decide) (Nat.le_of_ble_eq_true rfl) ?_
  refine lv_aload_n X.1 X.2.1 dX2_init_4 rfl (lv_at hl 0 rfl) ?_
  refine lv_sipush (v := 4096) X.1 X.2.1 dX2_init_5 (by decide) ?_
  refine z_newa (N := 4096) X hT Z (by decide) (by decide) (by decide) (by decide) (by decide) dX2_init_8 (fun k1 H Z => ?_)
  refine z_putF (ws' := [(a, .inr (2, [.ref k1, .null, .null, .null, .int 0, .int 0, .int 0, .int 0, .int 0, .int 0, .int 0, .int 0, .int 0, .int 0, .int 0])), (k1, .inl (cI, 4096, .inl (fun _ => 0)))]) X hT Z iX2 tyX2 tyX2_ok nmX2 0 rfl rfl 0 (by decide) kw_81 rfl rfl hin rfl (ty := .array .int) (by decide +kernel) rfl rfl (Nat.le_of_ble_eq_true rfl) rfl dX2_init_10 (fun H locs Z => ?_)
  refine lv_aload_n X.1 X.2.1 dX2_init_13 rfl (lv_at hl 0 rfl) ?_
  refine z_new (ci := 0) (fs := [.null, .int 0, .int 0, .int 0, .int 0]) X hT Z iX0 tyX0 tyX0_ok kw_42 kw_43 kw_31 rfl fs_X0 (by decide) (by decide) dX2_init_14 (fun k2 H Z => ?_)
  refine lv_dup X.1 X.2.1 dX2_init_17 rfl ?_
  refine call_IN (wc := [(k2, .inr (0, [.null, .int 0, .int 0, .int 0, .int 0]))]) (wr := [(a, .inr (2, [.ref k1, .null, .null, .null, .int 0, .int 0, .int 0, .int 0, .int 0, .int 0, .int 0, .int 0, .int 0, .int 0, .int 0])), (k1, .inl (cI, 4096, .inl (fun _ => 0)))]) X hT Z [2] [0, 1] rfl rfl rfl rfl (by decide) kw_44 kw_45 kw_31 kw_46 rfl (c_X0_init l D cI k2) hi_X0_init ⟨by decide, by decide⟩ ⟨rfl, rfl⟩ hl.1 (rest := [.ref k2, .ref a]) rfl (Nat.le_of_ble_eq_true rfl) ⟨by decide, by decide⟩ dX2_init_18 (fun w1 H locs hP Z => ?_)
  obtain ⟨k5, rfl⟩ := hP
  refine z_putF (ws' := [(a, .inr (2, [.ref k1, .ref k2, .null, .null, .int 0, .int 0, .int 0, .int 0, .int 0, .int 0, .int 0, .int 0, .int 0, .int 0, .int 0])), (k1, .inl (cI, 4096, .inl (fun _ => 0))), (k2, .inr (0, [.ref k5, .int 0, .int 0, .int 0, .int 0])), (k5, .inl (cI, 400, .inl (fun _ => 0)))]) X hT Z iX2 tyX2 tyX2_ok nmX2 0 rfl rfl 1 (by decide) kw_82 rfl rfl hin rfl (ty := .object "TapeMachine$Reader") (by decide +kernel) rfl rfl (Nat.le_of_ble_eq_true rfl) rfl dX2_init_21 (fun H locs Z => ?_)
  refine lv_aload_n X.1 X.2.1 dX2_init_24 rfl (lv_at hl 0 rfl) ?_
  refine z_new (ci := 1) (fs := [.null, .int 0]) X hT Z iX1 tyX1 tyX1_ok kw_67 kw_68 kw_32 rfl fs_X1 (by decide) (by decide) dX2_init_25 (fun k3 H Z => ?_)
  refine lv_dup X.1 X.2.1 dX2_init_28 rfl ?_
  refine call_IN (wc := [(k3, .inr (1, [.null, .int 0]))]) (wr := [(a, .inr (2, [.ref k1, .ref k2, .null, .null, .int 0, .int 0, .int 0, .int 0, .int 0, .int 0, .int 0, .int 0, .int 0, .int 0, .int 0])), (k1, .inl (cI, 4096, .inl (fun _ => 0))), (k2, .inr (0, [.ref k5, .int 0, .int 0, .int 0, .int 0])), (k5, .inl (cI, 400, .inl (fun _ => 0)))]) X hT Z [4] [0, 1, 2, 3] rfl rfl rfl rfl (by decide) kw_69 kw_70 kw_32 kw_71 rfl (c_X1_init l D cI k3) hi_X1_init ⟨by decide, by decide⟩ ⟨rfl, rfl⟩ hl.1 (rest := [.ref k3, .ref a]) rfl (Nat.le_of_ble_eq_true rfl) ⟨by decide, by decide⟩ dX2_init_29 (fun w1 H locs hP Z => ?_)
  obtain ⟨k6, rfl⟩ := hP
  refine z_putF (ws' := [(a, .inr (2, [.ref k1, .ref k2, .ref k3, .null, .int 0, .int 0, .int 0, .int 0, .int 0, .int 0, .int 0, .int 0, .int 0, .int 0, .int 0])), (k1, .inl (cI, 4096, .inl (fun _ => 0))), (k2, .inr (0, [.ref k5, .int 0, .int 0, .int 0, .int 0])), (k5, .inl (cI, 400, .inl (fun _ => 0))), (k3, .inr (1, [.ref k6, .int 0])), (k6, .inl (cI, 64, .inl (fun _ => 0)))]) X hT Z iX2 tyX2 tyX2_ok nmX2 0 rfl rfl 2 (by decide) kw_83 rfl rfl hin rfl (ty := .object "TapeMachine$Recent") (by decide +kernel) rfl rfl (Nat.le_of_ble_eq_true rfl) rfl dX2_init_32 (fun H locs Z => ?_)
  refine lv_aload_n X.1 X.2.1 dX2_init_35 rfl (lv_at hl 0 rfl) ?_
  refine z_new (ci := 1) (fs := [.null, .int 0]) X hT Z iX1 tyX1 tyX1_ok kw_67 kw_68 kw_32 rfl fs_X1 (by decide) (by decide) dX2_init_36 (fun k4 H Z => ?_)
  refine lv_dup X.1 X.2.1 dX2_init_39 rfl ?_
  refine call_IN (wc := [(k4, .inr (1, [.null, .int 0]))]) (wr := [(a, .inr (2, [.ref k1, .ref k2, .ref k3, .null, .int 0, .int 0, .int 0, .int 0, .int 0, .int 0, .int 0, .int 0, .int 0, .int 0, .int 0])), (k1, .inl (cI, 4096, .inl (fun _ => 0))), (k2, .inr (0, [.ref k5, .int 0, .int 0, .int 0, .int 0])), (k5, .inl (cI, 400, .inl (fun _ => 0))), (k3, .inr (1, [.ref k6, .int 0])), (k6, .inl (cI, 64, .inl (fun _ => 0)))]) X hT Z [6] [0, 1, 2, 3, 4, 5] rfl rfl rfl rfl (by decide) kw_69 kw_70 kw_32 kw_71 rfl (c_X1_init l D cI k4) hi_X1_init ⟨by decide, by decide⟩ ⟨rfl, rfl⟩ hl.1 (rest := [.ref k4, .ref a]) rfl (Nat.le_of_ble_eq_true rfl) ⟨by decide, by decide⟩ dX2_init_40 (fun w1 H locs hP Z => ?_)
  obtain ⟨k7, rfl⟩ := hP
  refine z_putF (ws' := [(a, .inr (2, [.ref k1, .ref k2, .ref k3, .ref k4, .int 0, .int 0, .int 0, .int 0, .int 0, .int 0, .int 0, .int 0, .int 0, .int 0, .int 0])), (k1, .inl (cI, 4096, .inl (fun _ => 0))), (k2, .inr (0, [.ref k5, .int 0, .int 0, .int 0, .int 0])), (k5, .inl (cI, 400, .inl (fun _ => 0))), (k3, .inr (1, [.ref k6, .int 0])), (k6, .inl (cI, 64, .inl (fun _ => 0))), (k4, .inr (1, [.ref k7, .int 0])), (k7, .inl (cI, 64, .inl (fun _ => 0)))]) X hT Z iX2 tyX2 tyX2_ok nmX2 0 rfl rfl 3 (by decide) kw_84 rfl rfl hin rfl (ty := .object "TapeMachine$Recent") (by decide +kernel) rfl rfl (Nat.le_of_ble_eq_true rfl) rfl dX2_init_43 (fun H locs Z => ?_)
  exact hret _ _ _ _ _ Z ⟨qf a k1 k2 k3 k4 k5 k6 k7, rfl, rfl⟩ dX2_init_46
set_option maxRecDepth 20000 in
set_option maxHeartbeats 4000000 in
theorem c_X3_init (l : Launch) (D : va_G) (cI : ClassId) (a : Nat) : MN l D cI yX3_init (.code yX3_init cX3_init 1 none) ({ frames := 1, cells := 5, slots := 4635, locals := 12 } : Room) [.ref a] [(a, .inr (3, [.null, .null, .null, .null, .null, .int 0, .int 0, .int 0, .int 0, .int 0, .int 0]))] (fun w => ∃ q : Nat → Nat, q 0 = a ∧ w = mw q cI (fun _ => 0) (fun _ _ => 0)) 5 4635 := by
  refine MN.of (own := RX3) (by decide) rfl rfl (Nat.le_of_ble_eq_true rfl) ?_
  intro p e s m args below meth c A ls Q X hin Z hl hret
  have hT : ∀ w ∈ TB, w ∈ (Cond.code yX3_init cX3_init 1 none :: TB) := fun _ h => List.mem_cons_of_mem _ h
  have hl : lv_has ls 1 [(0, .ref a)] := hl
  refine lv_aload_n X.1 X.2.1 dX3_init_0 rfl (lv_at hl 0 rfl) ?_
  refine z_obj X hT kw_268 hl.1 dX3_init_1 (by decide) (Nat.le_of_ble_eq_true rfl) ?_
  refine lv_aload_n X.1 X.2.1 dX3_init_4 rfl (lv_at hl 0 rfl) ?_
  refine lv_sipush (v := 4096) X.1 X.2.1 dX3_init_5 (by decide) ?_
  refine z_newa (N := 4096) X hT Z (by decide) (by decide) (by decide) (by decide) (by decide) dX3_init_8 (fun k1 H Z => ?_)
  refine z_putF (ws' := [(a, .inr (3, [.ref k1, .null, .null, .null, .null, .int 0, .int 0, .int 0, .int 0, .int 0, .int 0])), (k1, .inl (cI, 4096, .inl (fun _ => 0)))]) X hT Z iX3 tyX3 tyX3_ok nmX3 0 rfl rfl 0 (by decide) kw_269 rfl rfl hin rfl (ty := .array .int) (by decide +kernel) rfl rfl (Nat.le_of_ble_eq_true rfl) rfl dX3_init_10 (fun H locs Z => ?_)
  refine lv_aload_n X.1 X.2.1 dX3_init_13 rfl (lv_at hl 0 rfl) ?_
  refine lv_bipush (v := 11) X.1 X.2.1 dX3_init_14 (by decide) ?_
  refine z_newa (N := 11) X hT Z (by decide) (by decide) (by decide) (by decide) (by decide) dX3_init_16 (fun k2 H Z => ?_)
  refine z_putF (ws' := [(a, .inr (3, [.ref k1, .ref k2, .null, .null, .null, .int 0, .int 0, .int 0, .int 0, .int 0, .int 0])), (k1, .inl (cI, 4096, .inl (fun _ => 0))), (k2, .inl (cI, 11, .inl (fun _ => 0)))]) X hT Z iX3 tyX3 tyX3_ok nmX3 0 rfl rfl 1 (by decide) kw_270 rfl rfl hin rfl (ty := .array .int) (by decide +kernel) rfl rfl (Nat.le_of_ble_eq_true rfl) rfl dX3_init_18 (fun H locs Z => ?_)
  refine lv_aload_n X.1 X.2.1 dX3_init_21 rfl (lv_at hl 0 rfl) ?_
  refine lv_sipush (v := 400) X.1 X.2.1 dX3_init_22 (by decide) ?_
  refine z_newa (N := 400) X hT Z (by decide) (by decide) (by decide) (by decide) (by decide) dX3_init_25 (fun k3 H Z => ?_)
  refine z_putF (ws' := [(a, .inr (3, [.ref k1, .ref k2, .ref k3, .null, .null, .int 0, .int 0, .int 0, .int 0, .int 0, .int 0])), (k1, .inl (cI, 4096, .inl (fun _ => 0))), (k2, .inl (cI, 11, .inl (fun _ => 0))), (k3, .inl (cI, 400, .inl (fun _ => 0)))]) X hT Z iX3 tyX3 tyX3_ok nmX3 0 rfl rfl 2 (by decide) kw_271 rfl rfl hin rfl (ty := .array .int) (by decide +kernel) rfl rfl (Nat.le_of_ble_eq_true rfl) rfl dX3_init_27 (fun H locs Z => ?_)
  refine lv_aload_n X.1 X.2.1 dX3_init_30 rfl (lv_at hl 0 rfl) ?_
  refine lv_bipush (v := 64) X.1 X.2.1 dX3_init_31 (by decide) ?_
  refine z_newa (N := 64) X hT Z (by decide) (by decide) (by decide) (by decide) (by decide) dX3_init_33 (fun k4 H Z => ?_)
  refine z_putF (ws' := [(a, .inr (3, [.ref k1, .ref k2, .ref k3, .ref k4, .null, .int 0, .int 0, .int 0, .int 0, .int 0, .int 0])), (k1, .inl (cI, 4096, .inl (fun _ => 0))), (k2, .inl (cI, 11, .inl (fun _ => 0))), (k3, .inl (cI, 400, .inl (fun _ => 0))), (k4, .inl (cI, 64, .inl (fun _ => 0)))]) X hT Z iX3 tyX3 tyX3_ok nmX3 0 rfl rfl 3 (by decide) kw_272 rfl rfl hin rfl (ty := .array .int) (by decide +kernel) rfl rfl (Nat.le_of_ble_eq_true rfl) rfl dX3_init_35 (fun H locs Z => ?_)
  refine lv_aload_n X.1 X.2.1 dX3_init_38 rfl (lv_at hl 0 rfl) ?_
  refine lv_bipush (v := 64) X.1 X.2.1 dX3_init_39 (by decide) ?_
  refine z_newa (N := 64) X hT Z (by decide) (by decide) (by decide) (by decide) (by decide) dX3_init_41 (fun k5 H Z => ?_)
  refine z_putF (ws' := [(a, .inr (3, [.ref k1, .ref k2, .ref k3, .ref k4, .ref k5, .int 0, .int 0, .int 0, .int 0, .int 0, .int 0])), (k1, .inl (cI, 4096, .inl (fun _ => 0))), (k2, .inl (cI, 11, .inl (fun _ => 0))), (k3, .inl (cI, 400, .inl (fun _ => 0))), (k4, .inl (cI, 64, .inl (fun _ => 0))), (k5, .inl (cI, 64, .inl (fun _ => 0)))]) X hT Z iX3 tyX3 tyX3_ok nmX3 0 rfl rfl 4 (by decide) kw_273 rfl rfl hin rfl (ty := .array .int) (by decide +kernel) rfl rfl (Nat.le_of_ble_eq_true rfl) rfl dX3_init_43 (fun H locs Z => ?_)
  refine lv_aload_n X.1 X.2.1 dX3_init_46 rfl (lv_at hl 0 rfl) ?_
  refine lv_iconst (v := 0) X.1 X.2.1 dX3_init_47 (by decide) ?_
  refine P_X3_fed (q := qf a k1 k2 k3 k4 k5 0 0) (g := fun _ => 0) (mm := fun _ _ => 0) X hT Z dX3_init_48 (fun H locs Z => ?_)
  exact hret _ _ _ _ _ Z ⟨qf a k1 k2 k3 k4 k5 0 0, rfl, rfl⟩ dX3_init_51
end
section
/-! THE CLAIM OUT OF ONE WALK OF THE LAW'S BODY. Your part is whole_start (and what it stands on); all else here is the same for every law, but numbers. -/
def R_law : String := "TapeMachineLaw"
def lw_P (b : Addr) (xs : List Int32) (args : Array Value) (s : State) : Prop := args = #[.ref b] ∧ s.IntsAt b xs ∧ xs.length ≤ 1536 ∧ (Jvm.Cond.and given_1 narrow_1).before args s = true
def lw_Q (_ : Array Value) (s : State) (o : Outcome) (t : State) : Prop := o = .returned (some (.int 1)) ∧ Framed s o t [] 14 9294
def lw_Z (below : List Frame) (a : Array Value) (s : State) : State → Prop := fun t => ∃ o, t.status = .running ∧ Ended t below o ∧ lw_Q a s o t
/-- the law's own end, with 1 on the stack, nothing written that was there before, its room as the claim has it -/
theorem lw_ret {p : Program} {l : Launch} {e : Env} {s : State} {m : MethodId} {below : List Frame} {meth : Method} {c : Code} {b : Nat} (hx : p.tables.exec = Jvm.exec) (hb : c.code = code) (hr : meth.sig.returnType = ret) (hlocks : meth.locks = false) {pc : Nat} {H : Heap} {ls : Array Slot} (hdg : decode code pc = .ok (.ireturn, 1)) : W p l e room_1 s m #[Value.ref b] below meth c H [] 14 9294 (lw_Z below #[Value.ref b] s) (F0 m pc ls [.int 1]) := by
  intro T hT X
  obtain ⟨fs, hret, hrun, hended, hW, hframe⟩ := X.leave (v := some (.int 1)) (hlocks := hlocks) (fun h => by rw [hr] at h; cases h)
  have hmeth' : T.vm.method? m = some meth := X.method'
  refine ⟨T.setFrames fs, ?_, .returned (some (.int 1)), hrun, hended, rfl, ⟨_, rfl⟩, hW, hframe⟩
  jvm_step X.here [X.here.top, hx, hb, hdg, hmeth', hr, ret, narrow_b1]
  (try refine ⟨rfl, ?_⟩); (try refine ⟨rfl, ?_⟩)
  first | (intro acts; rw [hret _ acts rfl rfl rfl]) | rw [hret _ _ rfl rfl rfl]
  exact Steps.refl _
/-- what holds at the law's entry: the machine, the code, the tables' words (any of lw_tbl by 'hts w (by decide +kernel)'), the script of L ints xs at the cell b, what the Statement gives of the start (any of its parts by flat_of_before) -/
def lw_At (p : Program) (s : State) (m : MethodId) (meth : Method) (c : Code) (b L : Nat) (xs : Nat → Int32) : Prop :=
  p.tables.exec = Jvm.exec ∧ c.code = code ∧ meth.sig.returnType = ret ∧ c.maxLocals = 4 ∧ s.vm.findClass R_law = some m.cls ∧ (∀ w ∈ lw_tbl, w.before #[Value.ref b] s = true) ∧ va_X b L xs s s.heap ∧ b < s.heap.size ∧ meth.locks = false ∧ (Jvm.Cond.and given_1 narrow_1).before #[Value.ref b] s = true
end
section
theorem NW_of {args : Array Value} {s : State} (h : ∀ w ∈ lw_tbl, w.before args s = true) : NW s := by
  intro w hw
  have hn := (List.mem_filter.mp hw).2
  refine va_Nw.of ?_ (h w (List.mem_filter.mp hw).1)
  cases w <;> first | rfl | (exact absurd hn (by simp [isNest]))
theorem lw_gt {L j : Nat} (hL : L ≤ 1536) (hj : j ≤ 1539) : nI L - 3 < nI j ↔ L < j + 3 := by
  rw [Int32.lt_iff_toInt_lt, nI_toInt (by omega), show nI L - 3 = nI L - nI 3 from rfl, pk_sub_toInt (by omega) (by omega)]
  omega
theorem lw_ix {L j k : Nat} (hL : L ≤ 1536) (h : j + k < L) : vp_in (nI j + nI k) L := by
  rw [nI_add]
  exact vp_in_nI h (by omega)
theorem lw_15 (x : Int32) : ∃ k : Nat, k < 16 ∧ x &&& 15 = nI k := pk_andE x (m := 15) 4 (by decide)
set_option maxRecDepth 20000 in
set_option maxHeartbeats 8000000 in
theorem law_loop {p : Program} {l : Launch} {e : Env} {s : State} {m : MethodId} {below : List Frame} {meth : Method} {c : Code} {b L : Nat} {xs : Nat → Int32} (D : va_G) (cI : ClassId) (qc qm : Nat → Nat) (X : CallFix p m c cL_law 4 s #[Value.ref b] lw_tbl RL) (hr : meth.sig.returnType = ret) (hlocks : meth.locks = false) (hL : L ≤ 1536) (hX : va_X b L xs s s.heap) (hbl : b < s.heap.size) :
    ∀ (d j : Nat) (g f : Nat → Int32) (mm n : Nat → Nat → Int32), RR g mm f n → L + 1 ≤ j + d → j ≤ 1539 → ∀ (ls : Array Slot) (H : Heap) (locs : List Loc), lv_has ls 4 [(3, .int (nI j)), (2, .ref (qm 0)), (1, .ref (qc 0)), (0, .ref b)] → ZZ D cI (cw qc cI g mm ++ mw qm cI f n) (fun q => s.heap.size ≤ q) s H locs →
    W p l e room_1 s m #[Value.ref b] below meth c H locs 14 9294 (lw_Z below #[Value.ref b] s) (F0 m 18 ls []) := by
  have hT : ∀ w ∈ TB, w ∈ lw_tbl := fun _ h => tb_in h
  have hbA : ¬ (fun q : Nat => s.heap.size ≤ q) b := Nat.not_le.mpr hbl
  intro d
  induction d with
  | zero =>
    intro j g f mm n h hd hj ls H locs hl Z
    refine lv_iload_n X.1 X.2.1 dL_law_18 rfl (lv_at hl 0 rfl) ?_
    refine lv_aload_n X.1 X.2.1 dL_law_19 rfl (lv_at hl 3 rfl) ?_
    refine va_slen X.1 X.2.1 hX hbl hbA Z.2.2.1 dL_law_20 ?_
    refine lv_iconst (v := 3) X.1 X.2.1 dL_law_21 (by decide) ?_
    refine lv_isub X.1 X.2.1 dL_law_22 ?_
    refine lv_icmp_gt (tgt := 358) X.1 X.2.1 dL_law_23 (by decide) (fun _ => ?_) (fun c_1 => absurd ((lw_gt hL hj).mpr (by omega)) c_1)
    refine lv_iconst (v := 1) X.1 X.2.1 dL_law_358 (by decide) ?_
    refine va_forget Z.2.2.1.2.2 ?_
    exact lw_ret X.1 X.2.1 hr hlocks dL_law_359
  | succ d ih =>
    intro j g f mm n h hd hj ls H locs hl Z
    refine lv_iload_n X.1 X.2.1 dL_law_18 rfl (lv_at hl 0 rfl) ?_
    refine lv_aload_n X.1 X.2.1 dL_law_19 rfl (lv_at hl 3 rfl) ?_
    refine va_slen X.1 X.2.1 hX hbl hbA Z.2.2.1 dL_law_20 ?_
    refine lv_iconst (v := 3) X.1 X.2.1 dL_law_21 (by decide) ?_
    refine lv_isub X.1 X.2.1 dL_law_22 ?_
    refine lv_icmp_gt (tgt := 358) X.1 X.2.1 dL_law_23 (by decide) (fun _ => ?_) (fun c_1 => ?_)
    · refine lv_iconst (v := 1) X.1 X.2.1 dL_law_358 (by decide) ?_
      refine va_forget Z.2.2.1.2.2 ?_
      exact lw_ret X.1 X.2.1 hr hlocks dL_law_359
    have hj3 : j + 3 ≤ L := by
      rcases Nat.lt_or_ge L (j + 3) with q | q
      · exact absurd ((lw_gt hL hj).mpr q) c_1
      · exact q
    have i0 : vp_in (nI j) L := vp_in_nI (by omega) (by omega)
    have i1 : vp_in (nI j + 1) L := lw_ix (k := 1) hL (by omega)
    have i2 : vp_in (nI j + 2) L := lw_ix (k := 2) hL (by omega)
    have K : ∀ (g f : Nat → Int32) (mm n : Nat → Nat → Int32), RR g mm f n → ∀ (H : Heap) (locs : List Loc), ZZ D cI (cw qc cI g mm ++ mw qm cI f n) (fun q => s.heap.size ≤ q) s H locs → W p l e room_1 s m #[Value.ref b] below meth c H locs 14 9294 (lw_Z below #[Value.ref b] s) (F0 m 352 ls []) := by
      intro g f mm n h H locs Z
      refine lv_iinc (v := nI (j + 3)) (lv' := [(3, .int (nI (j + 3))), (2, .ref (qm 0)), (1, .ref (qc 0)), (0, .ref b)]) X.1 X.2.1 dL_law_352 hl (k := 0) rfl (nI_add j 3) (by decide) rfl (fun ls hl => ?_)
      refine lv_goto (tgt := 18) X.1 X.2.1 dL_law_355 (by decide) ?_
      exact ih (j + 3) g f mm n h (by omega) (by omega) ls H locs hl Z
    refine lv_aload_n X.1 X.2.1 dL_law_26 rfl (lv_at hl 3 rfl) ?_
    refine lv_iload_n X.1 X.2.1 dL_law_27 rfl (lv_at hl 0 rfl) ?_
    refine va_sld X.1 X.2.1 hX hbl hbA Z.2.2.1 i0 dL_law_28 ?_
    refine lv_bipush (v := 15) X.1 X.2.1 dL_law_29 (by decide) ?_
    refine lv_iand X.1 X.2.1 dL_law_31 ?_
    obtain ⟨k, hk, ek⟩ := lw_15 (xs (nI j).toNatClampNeg)
    rw [ek]
    have hk16 : k = 0 ∨ k = 1 ∨ k = 2 ∨ k = 3 ∨ k = 4 ∨ k = 5 ∨ k = 6 ∨ k = 7 ∨ k = 8 ∨ k = 9 ∨ k = 10 ∨ k = 11 ∨ 12 ≤ k := by omega
    rcases hk16 with rfl | rfl | rfl | rfl | rfl | rfl | rfl | rfl | rfl | rfl | rfl | rfl | hk12
    · refine lv_tableIn (tgt := 96) (off := 64) X.1 X.2.1 dL_law_32 (by decide) (by decide) (by decide) (by decide) ?_
      refine lv_aload_n X.1 X.2.1 dL_law_96 rfl (lv_at hl 2 rfl) ?_
      refine lv_aload_n X.1 X.2.1 dL_law_97 rfl (lv_at hl 3 rfl) ?_
      refine lv_iload_n X.1 X.2.1 dL_law_98 rfl (lv_at hl 0 rfl) ?_
      refine lv_iconst (v := 1) X.1 X.2.1 dL_law_99 (by decide) ?_
      refine lv_iadd X.1 X.2.1 dL_law_100 ?_
      refine va_sld X.1 X.2.1 hX hbl hbA Z.2.2.1 i1 dL_law_101 ?_
      refine call_VPi X hT Z (wc := cw qc cI g mm) (wr := mw qm cI f n) [0, 1, 2, 3, 4, 5, 6, 7] [8, 9, 10, 11, 12, 13] rfl rfl rfl rfl (by decide) (qq := (RX2, TX2, 15)) k_L_13 (c_X2_feed l D cI qc g mm (xs (nI j + 1).toNatClampNeg) (sim_feed h (xs (nI j + 1).toNatClampNeg)).2.2.1) rfl rfl hd_X2_feed ⟨by decide, by decide⟩ ⟨rfl, rfl⟩ hl.1 (rest := []) rfl (Nat.le_of_ble_eq_true rfl) ⟨by decide, by decide⟩ dL_law_102 (fun H locs Z => ?_)
      refine lv_aload_n X.1 X.2.1 dL_law_105 rfl (lv_at hl 1 rfl) ?_
      refine lv_aload_n X.1 X.2.1 dL_law_106 rfl (lv_at hl 3 rfl) ?_
      refine lv_iload_n X.1 X.2.1 dL_law_107 rfl (lv_at hl 0 rfl) ?_
      refine lv_iconst (v := 1) X.1 X.2.1 dL_law_108 (by decide) ?_
      refine lv_iadd X.1 X.2.1 dL_law_109 ?_
      refine va_sld X.1 X.2.1 hX hbl hbA Z.2.2.1 i1 dL_law_110 ?_
      refine call_VPi X hT Z (wc := mw qm cI f n) (wr := cw qc cI (gX2_feed g mm (xs (nI j + 1).toNatClampNeg)) (mX2_feed g mm (xs (nI j + 1).toNatClampNeg))) [0, 1, 2, 3, 4, 5] [6, 7, 8, 9, 10, 11, 12, 13] rfl rfl rfl rfl (by decide) (qq := (RX3, TX3, 11)) k_L_17 (c_X3_feed l D cI qm f n (xs (nI j + 1).toNatClampNeg) (sim_feed h (xs (nI j + 1).toNatClampNeg)).2.2.2) rfl rfl hd_X3_feed ⟨by decide, by decide⟩ ⟨rfl, rfl⟩ hl.1 (rest := [.int (rX2_feed g mm (xs (nI j + 1).toNatClampNeg))]) rfl (Nat.le_of_ble_eq_true rfl) ⟨by decide, by decide⟩ dL_law_111 (fun H locs Z => ?_)
      refine lv_icmp_eq (tgt := 352) X.1 X.2.1 dL_law_114 (by decide) (fun _ => ?_) (fun c_2 => absurd ((sim_feed h (xs (nI j + 1).toNatClampNeg)).1) c_2)
      exact K (gX2_feed g mm (xs (nI j + 1).toNatClampNeg)) (gX3_feed f n (xs (nI j + 1).toNatClampNeg)) (mX2_feed g mm (xs (nI j + 1).toNatClampNeg)) (mX3_feed f n (xs (nI j + 1).toNatClampNeg)) ((sim_feed h (xs (nI j + 1).toNatClampNeg)).2.1) H locs Z
    · refine lv_tableIn (tgt := 119) (off := 87) X.1 X.2.1 dL_law_32 (by decide) (by decide) (by decide) (by decide) ?_
      refine lv_aload_n X.1 X.2.1 dL_law_119 rfl (lv_at hl 2 rfl) ?_
      refine call_VPi X hT Z (wc := cw qc cI g mm) (wr := mw qm cI f n) [0, 1, 2, 3, 4, 5, 6, 7] [8, 9, 10, 11, 12, 13] rfl rfl rfl rfl (by decide) (qq := (RX2, TX2, 15)) k_L_18 (c_X2_waiting l D cI qc g mm ) rfl rfl hd_X2_waiting ⟨by decide, by decide⟩ ⟨rfl, rfl⟩ hl.1 (rest := []) rfl (Nat.le_of_ble_eq_true rfl) ⟨by decide, by decide⟩ dL_law_120 (fun H locs Z => ?_)
      refine lv_aload_n X.1 X.2.1 dL_law_123 rfl (lv_at hl 1 rfl) ?_
      refine call_VPi X hT Z (wc := mw qm cI f n) (wr := cw qc cI g mm) [0, 1, 2, 3, 4, 5] [6, 7, 8, 9, 10, 11, 12, 13] rfl rfl rfl rfl (by decide) (qq := (RX3, TX3, 11)) k_L_22 (c_X3_waiting l D cI qm f n ) rfl rfl hd_X3_waiting ⟨by decide, by decide⟩ ⟨rfl, rfl⟩ hl.1 (rest := [.int (rX2_waiting g mm)]) rfl (Nat.le_of_ble_eq_true rfl) ⟨by decide, by decide⟩ dL_law_124 (fun H locs Z => ?_)
      refine lv_icmp_eq (tgt := 352) X.1 X.2.1 dL_law_127 (by decide) (fun _ => ?_) (fun c_2 => absurd (sim_waiting h) c_2)
      exact K g f mm n (h) H locs Z
    · refine lv_tableIn (tgt := 132) (off := 100) X.1 X.2.1 dL_law_32 (by decide) (by decide) (by decide) (by decide) ?_
      refine lv_aload_n X.1 X.2.1 dL_law_132 rfl (lv_at hl 2 rfl) ?_
      refine lv_aload_n X.1 X.2.1 dL_law_133 rfl (lv_at hl 3 rfl) ?_
      refine lv_iload_n X.1 X.2.1 dL_law_134 rfl (lv_at hl 0 rfl) ?_
      refine lv_iconst (v := 1) X.1 X.2.1 dL_law_135 (by decide) ?_
      refine lv_iadd X.1 X.2.1 dL_law_136 ?_
      refine va_sld X.1 X.2.1 hX hbl hbA Z.2.2.1 i1 dL_law_137 ?_
      refine lv_aload_n X.1 X.2.1 dL_law_138 rfl (lv_at hl 3 rfl) ?_
      refine lv_iload_n X.1 X.2.1 dL_law_139 rfl (lv_at hl 0 rfl) ?_
      refine lv_iconst (v := 2) X.1 X.2.1 dL_law_140 (by decide) ?_
      refine lv_iadd X.1 X.2.1 dL_law_141 ?_
      refine va_sld X.1 X.2.1 hX hbl hbA Z.2.2.1 i2 dL_law_142 ?_
      refine call_VPi X hT Z (wc := cw qc cI g mm) (wr := mw qm cI f n) [0, 1, 2, 3, 4, 5, 6, 7] [8, 9, 10, 11, 12, 13] rfl rfl rfl rfl (by decide) (qq := (RX2, TX2, 15)) k_L_23 (c_X2_poke l D cI qc g mm (xs (nI j + 1).toNatClampNeg) (xs (nI j + 2).toNatClampNeg) ) rfl rfl hd_X2_poke ⟨by decide, by decide⟩ ⟨rfl, rfl⟩ hl.1 (rest := []) rfl (Nat.le_of_ble_eq_true rfl) ⟨by decide, by decide⟩ dL_law_143 (fun H locs Z => ?_)
      refine lv_aload_n X.1 X.2.1 dL_law_146 rfl (lv_at hl 1 rfl) ?_
      refine lv_aload_n X.1 X.2.1 dL_law_147 rfl (lv_at hl 3 rfl) ?_
      refine lv_iload_n X.1 X.2.1 dL_law_148 rfl (lv_at hl 0 rfl) ?_
      refine lv_iconst (v := 1) X.1 X.2.1 dL_law_149 (by decide) ?_
      refine lv_iadd X.1 X.2.1 dL_law_150 ?_
      refine va_sld X.1 X.2.1 hX hbl hbA Z.2.2.1 i1 dL_law_151 ?_
      refine lv_aload_n X.1 X.2.1 dL_law_152 rfl (lv_at hl 3 rfl) ?_
      refine lv_iload_n X.1 X.2.1 dL_law_153 rfl (lv_at hl 0 rfl) ?_
      refine lv_iconst (v := 2) X.1 X.2.1 dL_law_154 (by decide) ?_
      refine lv_iadd X.1 X.2.1 dL_law_155 ?_
      refine va_sld X.1 X.2.1 hX hbl hbA Z.2.2.1 i2 dL_law_156 ?_
      refine call_VPi X hT Z (wc := mw qm cI f n) (wr := cw qc cI g (mX2_poke g mm (xs (nI j + 1).toNatClampNeg) (xs (nI j + 2).toNatClampNeg))) [0, 1, 2, 3, 4, 5] [6, 7, 8, 9, 10, 11, 12, 13] rfl rfl rfl rfl (by decide) (qq := (RX3, TX3, 11)) k_L_27 (c_X3_poke l D cI qm f n (xs (nI j + 1).toNatClampNeg) (xs (nI j + 2).toNatClampNeg) ) rfl rfl hd_X3_poke ⟨by decide, by decide⟩ ⟨rfl, rfl⟩ hl.1 (rest := [.int (rX2_poke g mm (xs (nI j + 1).toNatClampNeg) (xs (nI j + 2).toNatClampNeg))]) rfl (Nat.le_of_ble_eq_true rfl) ⟨by decide, by decide⟩ dL_law_157 (fun H locs Z => ?_)
      refine lv_icmp_eq (tgt := 352) X.1 X.2.1 dL_law_160 (by decide) (fun _ => ?_) (fun c_2 => absurd ((sim_poke h (xs (nI j + 1).toNatClampNeg) (xs (nI j + 2).toNatClampNeg)).1) c_2)
      exact K g f (mX2_poke g mm (xs (nI j + 1).toNatClampNeg) (xs (nI j + 2).toNatClampNeg)) (mX3_poke f n (xs (nI j + 1).toNatClampNeg) (xs (nI j + 2).toNatClampNeg)) ((sim_poke h (xs (nI j + 1).toNatClampNeg) (xs (nI j + 2).toNatClampNeg)).2) H locs Z
    · refine lv_tableIn (tgt := 165) (off := 133) X.1 X.2.1 dL_law_32 (by decide) (by decide) (by decide) (by decide) ?_
      refine lv_aload_n X.1 X.2.1 dL_law_165 rfl (lv_at hl 2 rfl) ?_
      refine lv_aload_n X.1 X.2.1 dL_law_166 rfl (lv_at hl 3 rfl) ?_
      refine lv_iload_n X.1 X.2.1 dL_law_167 rfl (lv_at hl 0 rfl) ?_
      refine lv_iconst (v := 1) X.1 X.2.1 dL_law_168 (by decide) ?_
      refine lv_iadd X.1 X.2.1 dL_law_169 ?_
      refine va_sld X.1 X.2.1 hX hbl hbA Z.2.2.1 i1 dL_law_170 ?_
      refine call_VPi X hT Z (wc := cw qc cI g mm) (wr := mw qm cI f n) [0, 1, 2, 3, 4, 5, 6, 7] [8, 9, 10, 11, 12, 13] rfl rfl rfl rfl (by decide) (qq := (RX2, TX2, 15)) k_L_28 (c_X2_peek l D cI qc g mm (xs (nI j + 1).toNatClampNeg) ) rfl rfl hd_X2_peek ⟨by decide, by decide⟩ ⟨rfl, rfl⟩ hl.1 (rest := []) rfl (Nat.le_of_ble_eq_true rfl) ⟨by decide, by decide⟩ dL_law_171 (fun H locs Z => ?_)
      refine lv_aload_n X.1 X.2.1 dL_law_174 rfl (lv_at hl 1 rfl) ?_
      refine lv_aload_n X.1 X.2.1 dL_law_175 rfl (lv_at hl 3 rfl) ?_
      refine lv_iload_n X.1 X.2.1 dL_law_176 rfl (lv_at hl 0 rfl) ?_
      refine lv_iconst (v := 1) X.1 X.2.1 dL_law_177 (by decide) ?_
      refine lv_iadd X.1 X.2.1 dL_law_178 ?_
      refine va_sld X.1 X.2.1 hX hbl hbA Z.2.2.1 i1 dL_law_179 ?_
      refine call_VPi X hT Z (wc := mw qm cI f n) (wr := cw qc cI g mm) [0, 1, 2, 3, 4, 5] [6, 7, 8, 9, 10, 11, 12, 13] rfl rfl rfl rfl (by decide) (qq := (RX3, TX3, 11)) k_L_32 (c_X3_peek l D cI qm f n (xs (nI j + 1).toNatClampNeg) ) rfl rfl hd_X3_peek ⟨by decide, by decide⟩ ⟨rfl, rfl⟩ hl.1 (rest := [.int (rX2_peek g mm (xs (nI j + 1).toNatClampNeg))]) rfl (Nat.le_of_ble_eq_true rfl) ⟨by decide, by decide⟩ dL_law_180 (fun H locs Z => ?_)
      refine lv_icmp_eq (tgt := 352) X.1 X.2.1 dL_law_183 (by decide) (fun _ => ?_) (fun c_2 => absurd (sim_peek h (xs (nI j + 1).toNatClampNeg)) c_2)
      exact K g f mm n (h) H locs Z
    · refine lv_tableIn (tgt := 188) (off := 156) X.1 X.2.1 dL_law_32 (by decide) (by decide) (by decide) (by decide) ?_
      refine lv_aload_n X.1 X.2.1 dL_law_188 rfl (lv_at hl 2 rfl) ?_
      refine lv_aload_n X.1 X.2.1 dL_law_189 rfl (lv_at hl 3 rfl) ?_
      refine lv_iload_n X.1 X.2.1 dL_law_190 rfl (lv_at hl 0 rfl) ?_
      refine lv_iconst (v := 1) X.1 X.2.1 dL_law_191 (by decide) ?_
      refine lv_iadd X.1 X.2.1 dL_law_192 ?_
      refine va_sld X.1 X.2.1 hX hbl hbA Z.2.2.1 i1 dL_law_193 ?_
      refine lv_aload_n X.1 X.2.1 dL_law_194 rfl (lv_at hl 3 rfl) ?_
      refine lv_iload_n X.1 X.2.1 dL_law_195 rfl (lv_at hl 0 rfl) ?_
      refine lv_iconst (v := 2) X.1 X.2.1 dL_law_196 (by decide) ?_
      refine lv_iadd X.1 X.2.1 dL_law_197 ?_
      refine va_sld X.1 X.2.1 hX hbl hbA Z.2.2.1 i2 dL_law_198 ?_
      refine call_VPi X hT Z (wc := cw qc cI g mm) (wr := mw qm cI f n) [0, 1, 2, 3, 4, 5, 6, 7] [8, 9, 10, 11, 12, 13] rfl rfl rfl rfl (by decide) (qq := (RX2, TX2, 15)) k_L_33 (c_X2_set l D cI qc g mm (xs (nI j + 1).toNatClampNeg) (xs (nI j + 2).toNatClampNeg) ) rfl rfl hd_X2_set ⟨by decide, by decide⟩ ⟨rfl, rfl⟩ hl.1 (rest := []) rfl (Nat.le_of_ble_eq_true rfl) ⟨by decide, by decide⟩ dL_law_199 (fun H locs Z => ?_)
      refine lv_aload_n X.1 X.2.1 dL_law_202 rfl (lv_at hl 1 rfl) ?_
      refine lv_aload_n X.1 X.2.1 dL_law_203 rfl (lv_at hl 3 rfl) ?_
      refine lv_iload_n X.1 X.2.1 dL_law_204 rfl (lv_at hl 0 rfl) ?_
      refine lv_iconst (v := 1) X.1 X.2.1 dL_law_205 (by decide) ?_
      refine lv_iadd X.1 X.2.1 dL_law_206 ?_
      refine va_sld X.1 X.2.1 hX hbl hbA Z.2.2.1 i1 dL_law_207 ?_
      refine lv_aload_n X.1 X.2.1 dL_law_208 rfl (lv_at hl 3 rfl) ?_
      refine lv_iload_n X.1 X.2.1 dL_law_209 rfl (lv_at hl 0 rfl) ?_
      refine lv_iconst (v := 2) X.1 X.2.1 dL_law_210 (by decide) ?_
      refine lv_iadd X.1 X.2.1 dL_law_211 ?_
      refine va_sld X.1 X.2.1 hX hbl hbA Z.2.2.1 i2 dL_law_212 ?_
      refine call_VPi X hT Z (wc := mw qm cI f n) (wr := cw qc cI (gX2_set g mm (xs (nI j + 1).toNatClampNeg) (xs (nI j + 2).toNatClampNeg)) mm) [0, 1, 2, 3, 4, 5] [6, 7, 8, 9, 10, 11, 12, 13] rfl rfl rfl rfl (by decide) (qq := (RX3, TX3, 11)) k_L_37 (c_X3_set l D cI qm f n (xs (nI j + 1).toNatClampNeg) (xs (nI j + 2).toNatClampNeg) ) rfl rfl hd_X3_set ⟨by decide, by decide⟩ ⟨rfl, rfl⟩ hl.1 (rest := [.int (rX2_set g mm (xs (nI j + 1).toNatClampNeg) (xs (nI j + 2).toNatClampNeg))]) rfl (Nat.le_of_ble_eq_true rfl) ⟨by decide, by decide⟩ dL_law_213 (fun H locs Z => ?_)
      refine lv_icmp_eq (tgt := 352) X.1 X.2.1 dL_law_216 (by decide) (fun _ => ?_) (fun c_2 => absurd ((sim_set h (xs (nI j + 1).toNatClampNeg) (xs (nI j + 2).toNatClampNeg)).1) c_2)
      exact K (gX2_set g mm (xs (nI j + 1).toNatClampNeg) (xs (nI j + 2).toNatClampNeg)) f mm (mX3_set f n (xs (nI j + 1).toNatClampNeg) (xs (nI j + 2).toNatClampNeg)) ((sim_set h (xs (nI j + 1).toNatClampNeg) (xs (nI j + 2).toNatClampNeg)).2) H locs Z
    · refine lv_tableIn (tgt := 221) (off := 189) X.1 X.2.1 dL_law_32 (by decide) (by decide) (by decide) (by decide) ?_
      refine lv_aload_n X.1 X.2.1 dL_law_221 rfl (lv_at hl 2 rfl) ?_
      refine lv_aload_n X.1 X.2.1 dL_law_222 rfl (lv_at hl 3 rfl) ?_
      refine lv_iload_n X.1 X.2.1 dL_law_223 rfl (lv_at hl 0 rfl) ?_
      refine lv_iconst (v := 1) X.1 X.2.1 dL_law_224 (by decide) ?_
      refine lv_iadd X.1 X.2.1 dL_law_225 ?_
      refine va_sld X.1 X.2.1 hX hbl hbA Z.2.2.1 i1 dL_law_226 ?_
      refine call_VPi X hT Z (wc := cw qc cI g mm) (wr := mw qm cI f n) [0, 1, 2, 3, 4, 5, 6, 7] [8, 9, 10, 11, 12, 13] rfl rfl rfl rfl (by decide) (qq := (RX2, TX2, 15)) k_L_38 (c_X2_register l D cI qc g mm (xs (nI j + 1).toNatClampNeg) ) rfl rfl hd_X2_register ⟨by decide, by decide⟩ ⟨rfl, rfl⟩ hl.1 (rest := []) rfl (Nat.le_of_ble_eq_true rfl) ⟨by decide, by decide⟩ dL_law_227 (fun H locs Z => ?_)
      refine lv_aload_n X.1 X.2.1 dL_law_230 rfl (lv_at hl 1 rfl) ?_
      refine lv_aload_n X.1 X.2.1 dL_law_231 rfl (lv_at hl 3 rfl) ?_
      refine lv_iload_n X.1 X.2.1 dL_law_232 rfl (lv_at hl 0 rfl) ?_
      refine lv_iconst (v := 1) X.1 X.2.1 dL_law_233 (by decide) ?_
      refine lv_iadd X.1 X.2.1 dL_law_234 ?_
      refine va_sld X.1 X.2.1 hX hbl hbA Z.2.2.1 i1 dL_law_235 ?_
      refine call_VPi X hT Z (wc := mw qm cI f n) (wr := cw qc cI g mm) [0, 1, 2, 3, 4, 5] [6, 7, 8, 9, 10, 11, 12, 13] rfl rfl rfl rfl (by decide) (qq := (RX3, TX3, 11)) k_L_41 (c_X3_register l D cI qm f n (xs (nI j + 1).toNatClampNeg) ) rfl rfl hd_X3_register ⟨by decide, by decide⟩ ⟨rfl, rfl⟩ hl.1 (rest := [.int (rX2_register g mm (xs (nI j + 1).toNatClampNeg))]) rfl (Nat.le_of_ble_eq_true rfl) ⟨by decide, by decide⟩ dL_law_236 (fun H locs Z => ?_)
      refine lv_icmp_eq (tgt := 352) X.1 X.2.1 dL_law_239 (by decide) (fun _ => ?_) (fun c_2 => absurd (sim_register h (xs (nI j + 1).toNatClampNeg)) c_2)
      exact K g f mm n (h) H locs Z
    · refine lv_tableIn (tgt := 244) (off := 212) X.1 X.2.1 dL_law_32 (by decide) (by decide) (by decide) (by decide) ?_
      refine lv_aload_n X.1 X.2.1 dL_law_244 rfl (lv_at hl 2 rfl) ?_
      refine call_VPi X hT Z (wc := cw qc cI g mm) (wr := mw qm cI f n) [0, 1, 2, 3, 4, 5, 6, 7] [8, 9, 10, 11, 12, 13] rfl rfl rfl rfl (by decide) (qq := (RX2, TX2, 15)) k_L_42 (c_X2_go l D cI qc g mm (sim_go h).2.2) rfl rfl hd_X2_go ⟨by decide, by decide⟩ ⟨rfl, rfl⟩ hl.1 (rest := []) rfl (Nat.le_of_ble_eq_true rfl) ⟨by decide, by decide⟩ dL_law_245 (fun H locs Z => ?_)
      refine lv_aload_n X.1 X.2.1 dL_law_248 rfl (lv_at hl 1 rfl) ?_
      refine call_VPi X hT Z (wc := mw qm cI f n) (wr := cw qc cI (gX2_go g mm) mm) [0, 1, 2, 3, 4, 5] [6, 7, 8, 9, 10, 11, 12, 13] rfl rfl rfl rfl (by decide) (qq := (RX3, TX3, 11)) k_L_46 (c_X3_go l D cI qm f n ) rfl rfl hd_X3_go ⟨by decide, by decide⟩ ⟨rfl, rfl⟩ hl.1 (rest := [.int (rX2_go g mm)]) rfl (Nat.le_of_ble_eq_true rfl) ⟨by decide, by decide⟩ dL_law_249 (fun H locs Z => ?_)
      refine lv_icmp_eq (tgt := 352) X.1 X.2.1 dL_law_252 (by decide) (fun _ => ?_) (fun c_2 => absurd ((sim_go h).1) c_2)
      exact K (gX2_go g mm) f mm (mX3_go f n) ((sim_go h).2.1) H locs Z
    · refine lv_tableIn (tgt := 257) (off := 225) X.1 X.2.1 dL_law_32 (by decide) (by decide) (by decide) (by decide) ?_
      refine lv_aload_n X.1 X.2.1 dL_law_257 rfl (lv_at hl 2 rfl) ?_
      refine lv_aload_n X.1 X.2.1 dL_law_258 rfl (lv_at hl 3 rfl) ?_
      refine lv_iload_n X.1 X.2.1 dL_law_259 rfl (lv_at hl 0 rfl) ?_
      refine lv_iconst (v := 1) X.1 X.2.1 dL_law_260 (by decide) ?_
      refine lv_iadd X.1 X.2.1 dL_law_261 ?_
      refine va_sld X.1 X.2.1 hX hbl hbA Z.2.2.1 i1 dL_law_262 ?_
      refine call_VPi X hT Z (wc := cw qc cI g mm) (wr := mw qm cI f n) [0, 1, 2, 3, 4, 5, 6, 7] [8, 9, 10, 11, 12, 13] rfl rfl rfl rfl (by decide) (qq := (RX2, TX2, 15)) k_L_47 (c_X2_run l D cI qc g mm (xs (nI j + 1).toNatClampNeg) (fun d => (sim_ok d _ _ _ _ h).1)) rfl rfl hd_X2_run ⟨by decide, by decide⟩ ⟨rfl, rfl⟩ hl.1 (rest := []) rfl (Nat.le_of_ble_eq_true rfl) ⟨by decide, by decide⟩ dL_law_263 (fun H locs Z => ?_)
      refine lv_aload_n X.1 X.2.1 dL_law_266 rfl (lv_at hl 1 rfl) ?_
      refine lv_aload_n X.1 X.2.1 dL_law_267 rfl (lv_at hl 3 rfl) ?_
      refine lv_iload_n X.1 X.2.1 dL_law_268 rfl (lv_at hl 0 rfl) ?_
      refine lv_iconst (v := 1) X.1 X.2.1 dL_law_269 (by decide) ?_
      refine lv_iadd X.1 X.2.1 dL_law_270 ?_
      refine va_sld X.1 X.2.1 hX hbl hbA Z.2.2.1 i1 dL_law_271 ?_
      refine call_VPi X hT Z (wc := mw qm cI f n) (wr := cw qc cI (gX2_run g mm (xs (nI j + 1).toNatClampNeg)) (mX2_run g mm (xs (nI j + 1).toNatClampNeg))) [0, 1, 2, 3, 4, 5] [6, 7, 8, 9, 10, 11, 12, 13] rfl rfl rfl rfl (by decide) (qq := (RX3, TX3, 11)) k_L_50 (c_X3_run l D cI qm f n (xs (nI j + 1).toNatClampNeg) (fun d => (sim_ok d _ _ _ _ h).2)) rfl rfl hd_X3_run ⟨by decide, by decide⟩ ⟨rfl, rfl⟩ hl.1 (rest := [.int (rX2_run g mm (xs (nI j + 1).toNatClampNeg))]) rfl (Nat.le_of_ble_eq_true rfl) ⟨by decide, by decide⟩ dL_law_272 (fun H locs Z => ?_)
      refine lv_icmp_eq (tgt := 352) X.1 X.2.1 dL_law_275 (by decide) (fun _ => ?_) (fun c_2 => absurd ((sim_run h (xs (nI j + 1).toNatClampNeg)).1) c_2)
      exact K (gX2_run g mm (xs (nI j + 1).toNatClampNeg)) (gX3_run f n (xs (nI j + 1).toNatClampNeg)) (mX2_run g mm (xs (nI j + 1).toNatClampNeg)) (mX3_run f n (xs (nI j + 1).toNatClampNeg)) ((sim_run h (xs (nI j + 1).toNatClampNeg)).2) H locs Z
    · refine lv_tableIn (tgt := 280) (off := 248) X.1 X.2.1 dL_law_32 (by decide) (by decide) (by decide) (by decide) ?_
      refine lv_aload_n X.1 X.2.1 dL_law_280 rfl (lv_at hl 2 rfl) ?_
      refine lv_aload_n X.1 X.2.1 dL_law_281 rfl (lv_at hl 3 rfl) ?_
      refine lv_iload_n X.1 X.2.1 dL_law_282 rfl (lv_at hl 0 rfl) ?_
      refine lv_iconst (v := 1) X.1 X.2.1 dL_law_283 (by decide) ?_
      refine lv_iadd X.1 X.2.1 dL_law_284 ?_
      refine va_sld X.1 X.2.1 hX hbl hbA Z.2.2.1 i1 dL_law_285 ?_
      refine call_VPi X hT Z (wc := cw qc cI g mm) (wr := mw qm cI f n) [0, 1, 2, 3, 4, 5, 6, 7] [8, 9, 10, 11, 12, 13] rfl rfl rfl rfl (by decide) (qq := (RX2, TX2, 15)) k_L_51 (c_X2_printed l D cI qc g mm (xs (nI j + 1).toNatClampNeg) ) rfl rfl hd_X2_printed ⟨by decide, by decide⟩ ⟨rfl, rfl⟩ hl.1 (rest := []) rfl (Nat.le_of_ble_eq_true rfl) ⟨by decide, by decide⟩ dL_law_286 (fun H locs Z => ?_)
      refine lv_aload_n X.1 X.2.1 dL_law_289 rfl (lv_at hl 1 rfl) ?_
      refine lv_aload_n X.1 X.2.1 dL_law_290 rfl (lv_at hl 3 rfl) ?_
      refine lv_iload_n X.1 X.2.1 dL_law_291 rfl (lv_at hl 0 rfl) ?_
      refine lv_iconst (v := 1) X.1 X.2.1 dL_law_292 (by decide) ?_
      refine lv_iadd X.1 X.2.1 dL_law_293 ?_
      refine va_sld X.1 X.2.1 hX hbl hbA Z.2.2.1 i1 dL_law_294 ?_
      refine call_VPi X hT Z (wc := mw qm cI f n) (wr := cw qc cI g mm) [0, 1, 2, 3, 4, 5] [6, 7, 8, 9, 10, 11, 12, 13] rfl rfl rfl rfl (by decide) (qq := (RX3, TX3, 11)) k_L_54 (c_X3_printed l D cI qm f n (xs (nI j + 1).toNatClampNeg) ) rfl rfl hd_X3_printed ⟨by decide, by decide⟩ ⟨rfl, rfl⟩ hl.1 (rest := [.int (rX2_printed g mm (xs (nI j + 1).toNatClampNeg))]) rfl (Nat.le_of_ble_eq_true rfl) ⟨by decide, by decide⟩ dL_law_295 (fun H locs Z => ?_)
      refine lv_icmp_eq (tgt := 352) X.1 X.2.1 dL_law_298 (by decide) (fun _ => ?_) (fun c_2 => absurd (sim_printed h (xs (nI j + 1).toNatClampNeg)) c_2)
      exact K g f mm n (h) H locs Z
    · refine lv_tableIn (tgt := 303) (off := 271) X.1 X.2.1 dL_law_32 (by decide) (by decide) (by decide) (by decide) ?_
      refine lv_aload_n X.1 X.2.1 dL_law_303 rfl (lv_at hl 2 rfl) ?_
      refine lv_aload_n X.1 X.2.1 dL_law_304 rfl (lv_at hl 3 rfl) ?_
      refine lv_iload_n X.1 X.2.1 dL_law_305 rfl (lv_at hl 0 rfl) ?_
      refine lv_iconst (v := 1) X.1 X.2.1 dL_law_306 (by decide) ?_
      refine lv_iadd X.1 X.2.1 dL_law_307 ?_
      refine va_sld X.1 X.2.1 hX hbl hbA Z.2.2.1 i1 dL_law_308 ?_
      refine call_VPi X hT Z (wc := cw qc cI g mm) (wr := mw qm cI f n) [0, 1, 2, 3, 4, 5, 6, 7] [8, 9, 10, 11, 12, 13] rfl rfl rfl rfl (by decide) (qq := (RX2, TX2, 15)) k_L_55 (c_X2_trace l D cI qc g mm (xs (nI j + 1).toNatClampNeg) ) rfl rfl hd_X2_trace ⟨by decide, by decide⟩ ⟨rfl, rfl⟩ hl.1 (rest := []) rfl (Nat.le_of_ble_eq_true rfl) ⟨by decide, by decide⟩ dL_law_309 (fun H locs Z => ?_)
      refine lv_aload_n X.1 X.2.1 dL_law_312 rfl (lv_at hl 1 rfl) ?_
      refine lv_aload_n X.1 X.2.1 dL_law_313 rfl (lv_at hl 3 rfl) ?_
      refine lv_iload_n X.1 X.2.1 dL_law_314 rfl (lv_at hl 0 rfl) ?_
      refine lv_iconst (v := 1) X.1 X.2.1 dL_law_315 (by decide) ?_
      refine lv_iadd X.1 X.2.1 dL_law_316 ?_
      refine va_sld X.1 X.2.1 hX hbl hbA Z.2.2.1 i1 dL_law_317 ?_
      refine call_VPi X hT Z (wc := mw qm cI f n) (wr := cw qc cI g mm) [0, 1, 2, 3, 4, 5] [6, 7, 8, 9, 10, 11, 12, 13] rfl rfl rfl rfl (by decide) (qq := (RX3, TX3, 11)) k_L_58 (c_X3_trace l D cI qm f n (xs (nI j + 1).toNatClampNeg) ) rfl rfl hd_X3_trace ⟨by decide, by decide⟩ ⟨rfl, rfl⟩ hl.1 (rest := [.int (rX2_trace g mm (xs (nI j + 1).toNatClampNeg))]) rfl (Nat.le_of_ble_eq_true rfl) ⟨by decide, by decide⟩ dL_law_318 (fun H locs Z => ?_)
      refine lv_icmp_eq (tgt := 352) X.1 X.2.1 dL_law_321 (by decide) (fun _ => ?_) (fun c_2 => absurd (sim_trace h (xs (nI j + 1).toNatClampNeg)) c_2)
      exact K g f mm n (h) H locs Z
    · refine lv_tableIn (tgt := 326) (off := 294) X.1 X.2.1 dL_law_32 (by decide) (by decide) (by decide) (by decide) ?_
      refine lv_aload_n X.1 X.2.1 dL_law_326 rfl (lv_at hl 2 rfl) ?_
      refine call_VPi X hT Z (wc := cw qc cI g mm) (wr := mw qm cI f n) [0, 1, 2, 3, 4, 5, 6, 7] [8, 9, 10, 11, 12, 13] rfl rfl rfl rfl (by decide) (qq := (RX2, TX2, 15)) k_L_59 (c_X2_interrupts l D cI qc g mm ) rfl rfl hd_X2_interrupts ⟨by decide, by decide⟩ ⟨rfl, rfl⟩ hl.1 (rest := []) rfl (Nat.le_of_ble_eq_true rfl) ⟨by decide, by decide⟩ dL_law_327 (fun H locs Z => ?_)
      refine lv_aload_n X.1 X.2.1 dL_law_330 rfl (lv_at hl 1 rfl) ?_
      refine call_VPi X hT Z (wc := mw qm cI f n) (wr := cw qc cI g mm) [0, 1, 2, 3, 4, 5] [6, 7, 8, 9, 10, 11, 12, 13] rfl rfl rfl rfl (by decide) (qq := (RX3, TX3, 11)) k_L_62 (c_X3_interrupts l D cI qm f n ) rfl rfl hd_X3_interrupts ⟨by decide, by decide⟩ ⟨rfl, rfl⟩ hl.1 (rest := [.int (rX2_interrupts g mm)]) rfl (Nat.le_of_ble_eq_true rfl) ⟨by decide, by decide⟩ dL_law_331 (fun H locs Z => ?_)
      refine lv_icmp_eq (tgt := 352) X.1 X.2.1 dL_law_334 (by decide) (fun _ => ?_) (fun c_2 => absurd (h.e9) c_2)
      exact K g f mm n (h) H locs Z
    · refine lv_tableIn (tgt := 339) (off := 307) X.1 X.2.1 dL_law_32 (by decide) (by decide) (by decide) (by decide) ?_
      refine lv_aload_n X.1 X.2.1 dL_law_339 rfl (lv_at hl 2 rfl) ?_
      refine call_VPi X hT Z (wc := cw qc cI g mm) (wr := mw qm cI f n) [0, 1, 2, 3, 4, 5, 6, 7] [8, 9, 10, 11, 12, 13] rfl rfl rfl rfl (by decide) (qq := (RX2, TX2, 15)) k_L_63 (c_X2_skips l D cI qc g mm ) rfl rfl hd_X2_skips ⟨by decide, by decide⟩ ⟨rfl, rfl⟩ hl.1 (rest := []) rfl (Nat.le_of_ble_eq_true rfl) ⟨by decide, by decide⟩ dL_law_340 (fun H locs Z => ?_)
      refine lv_aload_n X.1 X.2.1 dL_law_343 rfl (lv_at hl 1 rfl) ?_
      refine call_VPi X hT Z (wc := mw qm cI f n) (wr := cw qc cI g mm) [0, 1, 2, 3, 4, 5] [6, 7, 8, 9, 10, 11, 12, 13] rfl rfl rfl rfl (by decide) (qq := (RX3, TX3, 11)) k_L_66 (c_X3_skips l D cI qm f n ) rfl rfl hd_X3_skips ⟨by decide, by decide⟩ ⟨rfl, rfl⟩ hl.1 (rest := [.int (rX2_skips g mm)]) rfl (Nat.le_of_ble_eq_true rfl) ⟨by decide, by decide⟩ dL_law_344 (fun H locs Z => ?_)
      refine lv_icmp_eq (tgt := 352) X.1 X.2.1 dL_law_347 (by decide) (fun _ => ?_) (fun c_2 => absurd (h.e10) c_2)
      exact K g f mm n (h) H locs Z
    · refine lv_tableOut (tgt := 352) X.1 X.2.1 dL_law_32 (Or.inr (by rw [nI_toInt (by omega)]; omega)) (by decide) ?_
      exact K g f mm n h H locs Z
theorem fs_X2 : ∀ j, j < 15 → defaultValue (tyX2 j) = vp_V [.null, .null, .null, .null, .int 0, .int 0, .int 0, .int 0, .int 0, .int 0, .int 0, .int 0, .int 0, .int 0, .int 0] j := by
  intro j hj
  have : j = 0 ∨ j = 1 ∨ j = 2 ∨ j = 3 ∨ j = 4 ∨ j = 5 ∨ j = 6 ∨ j = 7 ∨ j = 8 ∨ j = 9 ∨ j = 10 ∨ j = 11 ∨ j = 12 ∨ j = 13 ∨ j = 14 := by omega
  rcases this with rfl | rfl | rfl | rfl | rfl | rfl | rfl | rfl | rfl | rfl | rfl | rfl | rfl | rfl | rfl <;> rfl
theorem fs_X3 : ∀ j, j < 11 → defaultValue (tyX3 j) = vp_V [.null, .null, .null, .null, .null, .int 0, .int 0, .int 0, .int 0, .int 0, .int 0] j := by
  intro j hj
  have : j = 0 ∨ j = 1 ∨ j = 2 ∨ j = 3 ∨ j = 4 ∨ j = 5 ∨ j = 6 ∨ j = 7 ∨ j = 8 ∨ j = 9 ∨ j = 10 := by omega
  rcases this with rfl | rfl | rfl | rfl | rfl | rfl | rfl | rfl | rfl | rfl | rfl <;> rfl
set_option maxRecDepth 20000 in
set_option maxHeartbeats 8000000 in
/-- THE LAW, from its entry -/
theorem whole_start {p : Program} {e : Env} {s : State} {m : MethodId} {below : List Frame} {meth : Method} {c : Code} (l : Launch) {b L : Nat} {xs : Nat → Int32} (hL : L ≤ 1536) (C0 : lw_At p s m meth c b L xs) : W p l e room_1 s m #[Value.ref b] below meth c s.heap [] 0 0 (lw_Z below #[Value.ref b] s) (entryFrame m ([Value.ref b] : List Value).toArray 4) := by
  obtain ⟨hx, hb, hr, hml, hown, hts, hX, hbl, hlocks, hgv⟩ := id C0
  have hT : ∀ w ∈ TB, w ∈ lw_tbl := fun _ h => tb_in h
  have X : CallFix p m c cL_law 4 s #[Value.ref b] lw_tbl RL := ⟨hx, hb, hml, hown, hts⟩
  have hA : ∀ q : Nat, s.heap.size ≤ q → (fun q : Nat => s.heap.size ≤ q) q := fun _ h => h
  obtain ⟨c0, iS0, hKn0⟩ := u_known (C := RX0) (T := TX0) (N := 5) (n := 5) hts (fun w h => tb_in (iX0 w h)) (hts _ (tb_in kw_43))
  obtain ⟨c1, iS1, hKn1⟩ := u_known (C := RX1) (T := TX1) (N := 2) (n := 2) hts (fun w h => tb_in (iX1 w h)) (hts _ (tb_in kw_68))
  obtain ⟨c2, iS2, hKn2⟩ := u_known (C := RX2) (T := TX2) (N := 15) (n := 15) hts (fun w h => tb_in (iX2 w h)) (hts _ (tb_in kw_35))
  obtain ⟨c3, iS3, hKn3⟩ := u_known (C := RX3) (T := TX3) (N := 11) (n := 11) hts (fun w h => tb_in (iX3 w h)) (hts _ (tb_in kw_264))
  obtain ⟨dC, dI, hKc⟩ : ∃ (dC : Nat → ClassId) (dI : Nat → Nat → Nat), ∀ (k : Nat) (q : vw_C), vwCl[k]? = some q → u_Kn s q.1 q.2.1 q.2.2 (dC k) (dI k) := by
    refine ⟨fun k => if k = 0 then c0 else if k = 1 then c1 else if k = 2 then c2 else c3, fun k => if k = 0 then iS0 else if k = 1 then iS1 else if k = 2 then iS2 else iS3, ?_⟩
    intro k q hq
    match k, hq with
    | 0, hq => cases hq; exact hKn0
    | 1, hq => cases hq; exact hKn1
    | 2, hq => cases hq; exact hKn2
    | 3, hq => cases hq; exact hKn3
    | k + 4, hq => simp [vwCl] at hq
  obtain ⟨cI, kA, comp, a1, a2, a3⟩ := Cond.arrayClass_spec (hts _ (tb_in kw_66))
  have hK : va_K (dC, dI) vwCl [(cI, .int)] s := by
    refine ⟨hKc, fun k q h => ?_⟩
    match k, h with
    | 0, h => cases h; exact ⟨fun n z => ⟨fun k h => (by cases h), kA, a2, comp, a3⟩, a1⟩
    | k + 1, h => simp at h
  have Z : ZZ (dC, dI) cI [] (fun q : Nat => s.heap.size ≤ q) s s.heap [] := ⟨fun k q h => by simp at h, ⟨fun i j p q h => by simp at h, fun k q h => by simp at h⟩, va_S.rf, hK, NW_of hts, hA⟩
  have hl := lv_entry ([.ref b]) (n := 4) (Nat.le_of_ble_eq_true rfl)
  rw [lg_entry_eq]
  generalize (lg_sl ([.ref b]) ++ List.replicate (4 - (lg_sl ([.ref b])).length) Slot.unset).toArray = ls at hl ⊢
  have hl : lv_has ls 4 [(0, .ref b)] := hl
  refine z_new (ci := 2) (fs := [.null, .null, .null, .null, .int 0, .int 0, .int 0, .int 0, .int 0, .int 0, .int 0, .int 0, .int 0, .int 0, .int 0]) X hT Z iX2 tyX2 tyX2_ok kw_34 kw_35 kw_30 rfl fs_X2 (by decide) (by decide) dL_law_0 (fun k1 H Z => ?_)
  refine lv_dup X.1 X.2.1 dL_law_3 rfl ?_
  refine call_I (wc := [(k1, .inr (2, [.null, .null, .null, .null, .int 0, .int 0, .int 0, .int 0, .int 0, .int 0, .int 0, .int 0, .int 0, .int 0, .int 0]))]) (wr := []) X hT Z [0] [] rfl rfl rfl rfl (by decide) kw_36 kw_37 kw_30 kw_38 rfl (c_X2_init l (dC, dI) cI k1) hi_X2_init ⟨by decide, by decide⟩ ⟨rfl, rfl⟩ hl.1 (rest := [.ref k1]) rfl (Nat.le_of_ble_eq_true rfl) ⟨by decide, by decide⟩ dL_law_4 (fun w1 H locs hP Z => ?_)
  obtain ⟨qc, rfl, rfl⟩ := hP
  refine lv_astore_n (lv' := [(1, .ref (qc 0)), (0, .ref b)]) X.1 X.2.1 dL_law_7 rfl hl (by decide) rfl (fun ls hl => ?_)
  refine z_new (ci := 3) (fs := [.null, .null, .null, .null, .null, .int 0, .int 0, .int 0, .int 0, .int 0, .int 0]) X hT Z iX3 tyX3 tyX3_ok kw_263 kw_264 kw_33 rfl fs_X3 (by decide) (by decide) dL_law_8 (fun k2 H Z => ?_)
  refine lv_dup X.1 X.2.1 dL_law_11 rfl ?_
  refine call_I (wc := [(k2, .inr (3, [.null, .null, .null, .null, .null, .int 0, .int 0, .int 0, .int 0, .int 0, .int 0]))]) (wr := cw qc cI (fun _ => 0) (fun _ _ => 0)) X hT Z [8] [0, 1, 2, 3, 4, 5, 6, 7] rfl rfl rfl rfl (by decide) kw_265 kw_266 kw_33 kw_267 rfl (c_X3_init l (dC, dI) cI k2) hi_X3_init ⟨by decide, by decide⟩ ⟨rfl, rfl⟩ hl.1 (rest := [.ref k2]) rfl (Nat.le_of_ble_eq_true rfl) ⟨by decide, by decide⟩ dL_law_12 (fun w1 H locs hP Z => ?_)
  obtain ⟨qm, rfl, rfl⟩ := hP
  refine lv_astore_n (lv' := [(2, .ref (qm 0)), (1, .ref (qc 0)), (0, .ref b)]) X.1 X.2.1 dL_law_15 rfl hl (by decide) rfl (fun ls hl => ?_)
  refine lv_iconst (v := 0) X.1 X.2.1 dL_law_16 (by decide) ?_
  refine lv_istore_n (lv' := [(3, .int 0), (2, .ref (qm 0)), (1, .ref (qc 0)), (0, .ref b)]) X.1 X.2.1 dL_law_17 rfl hl (by decide) rfl (fun ls hl => ?_)
  exact law_loop (dC, dI) cI qc qm X hr hlocks hL hX hbl (L + 1) 0 (fun _ => 0) (fun _ => 0) (fun _ _ => 0) (fun _ _ => 0) sim_0 (by omega) (by omega) ls _ _ hl Z
end
section
set_option maxHeartbeats 4000000 in
theorem lw_walk (l : Launch) (b : Addr) (xs : List Int32) : MetFree l x (headSpec (Jvm.Cond.code x code maxLocals ret :: tables_1) room_1) (lw_P b xs) (fun _ _ _ _ _ => True) lw_Q := by
  refine MetFree.of_bodyS (code := code) (maxLocals := maxLocals) (ret := ret) (by decide) ?_ ?_
  · intro args s m h hn
    obtain ⟨meth, c, h1, h2, h3, h4, h5, h6, -, -⟩ := Cond.code_spec hn (atoms_spec (ws := Jvm.Cond.code x code maxLocals ret :: tables_1) h _ List.mem_cons_self)
    exact ⟨meth, c, h1, h2, h3, h4, h5, h6⟩
  · intro p e s m args below meth c s₁ B hml0 hP _
    obtain ⟨rfl, hx, hbd, hgv⟩ := hP
    obtain ⟨scr, harrAt, hlist, hof, hsmall⟩ := hx
    obtain ⟨hcb, hkn, -, -⟩ := State.arrayAt?_spec harrAt
    have hown : s.vm.findClass R_law = some m.cls := findClass_of_methodNamed B.named
    have hts0 : ∀ c ∈ (Jvm.Cond.code x code maxLocals ret :: tables_1), c.before #[Value.ref b] s = true := atoms_spec (ws := Jvm.Cond.code x code maxLocals ret :: tables_1) B.pre
    have hts : ∀ w ∈ lw_tbl, w.before #[Value.ref b] s = true := k2_hts_sels lw_privs (fun w hw => hts0 w (List.mem_cons_of_mem _ hw)) lw_privs_ok
    have hml : c.maxLocals = 4 := B.maxLocals_eq (hts0 _ List.mem_cons_self)
    have X₀ : Stand p l e room_1 s m #[Value.ref b] below meth c s₁ [] 0 0 := Stand.of_body B
    have hh0 : s₁.heap = s.heap := by rw [B.state]; rfl
    have hsz : scr.slots.size = xs.length := by rw [← Array.length_toList, hlist, List.length_map]
    have hval : ∀ j : Nat, j < xs.length → scr.slots[j]? = some (.int (xs.getD j 0)) := fun j hj => by
      rw [← Array.getElem?_toList, hlist]
      simp [hj]
    have hbl : b < s.heap.size := (Array.getElem?_eq_some_iff.mp hcb).1
    have hX : va_X b xs.length (fun j => xs.getD j 0) s s.heap := ⟨scr, hcb, hof, hkn, hsz, hval⟩
    have K : W p l e room_1 s m #[Value.ref b] below meth c s₁.heap [] 0 0 (lw_Z below #[Value.ref b] s) (entryFrame m ([Value.ref b] : List Value).toArray 4) := by
      rw [hh0]
      exact whole_start l hbd ⟨B.exec, B.bytes, B.returns, hml, hown, hts, hX, hbl, B.notSynchronized, hgv⟩
    obtain ⟨t, a1, o, b1, b2, b3⟩ := K s₁ rfl X₀
    exact ⟨t, o, a1, b1, b2, b3⟩
theorem lw_pre_spec {args : Array Value} {s : State} (h : (Jvm.Cond.and given_1 narrow_1).before args s = true) (hr : rest_1_c.before args s = true) : ∃ (b : Addr) (xs : List Int32), lw_P b xs args s := by
  have hs := flat_of_before _ h
  have hq := flat_of_before _ hr
  have hc : (Cond.count 1).before args s = true := hs _ (by decide +kernel)
  have harr : (Cond.arrayOf (.arg 0) .int).before args s = true := hs _ (by decide +kernel)
  have hle : (Cond.le (.length (.arg 0)) (.int 1536)).before args s = true := hs _ (by decide +kernel)
  have hlen : (Cond.isInt (.length (.arg 0))).before args s = true := hq _ (by decide +kernel)
  have hall : (Cond.all (.arg 0) (.isInt (.elem (.arg 0) (.index 0)))).before args s = true := hq _ (by decide +kernel)
  obtain ⟨b, xs, hb, hx⟩ := State.ints_of_pre rfl harr hlen hall
  have hsm : xs.length < 2 ^ 31 := hx.choose_spec.2.2.2
  have hev : (Term.length (.arg 0)).eval args s none [] s = some (.int xs.length.toInt32) := hx.length_eval hb
  have hv := Cond.le_ints hev (show (Term.int 1536).eval args s none [] s = some (.int 1536) from rfl)
  have hd : xs.length.toInt32 ≤ 1536 := by
    simpa [Cond.before, Cond.holds, hv] using hle
  have hN : xs.length ≤ 1536 := (Int32.ofNat_le_ofNat hsm (by decide)).mp (show Int32.ofNat xs.length ≤ Int32.ofNat 1536 from hd)
  exact ⟨b, xs, Cond.one_arg hc (show args[0]? = some (.ref b) from hb), hx, hN, h⟩
theorem lw_comes (l : Launch) : Comes l x (Jvm.Cond.code x code maxLocals ret :: tables_1) room_1 (fun tb e args s => Calls_1 tb e args s ∧ rest_1 tb e args s ∧ Pre_1 tb e args s)
    (fun _ _ args s o t => lw_Q args s o t) := by
  intro p e ha hc hk s m args below hf hfit hheap happ hpre
  obtain ⟨b, xs, hP⟩ := lw_pre_spec hpre.2.2 hpre.2.1
  obtain ⟨k, o, h1, h2, h3, hQ⟩ := lw_walk l b xs p e ha hc hk s m args below hf ((Spec.applies_iff_loose hf).mp happ).1 hP trivial
  exact ⟨k, o, h1, h2, h3, hQ⟩
theorem lw_frame {s t : State} {o : Outcome} {args : Array Value} (h : Framed s o t [] 14 9294) :
    Framed s o t (fieldLocs frame_1_writes args s ++ arrayLocs frame_1_arrays args s ++ staticLocs frame_1_statics s) 14 9294 := h
theorem lw_limb (L : Cond) (hL : ∀ (args : Array Value) (s t : State), L.after args s (.returned (some (.int 1))) t = true) :
    ArmFor flags0 classFile x code maxLocals ret World_1 tables_1 room_1 Calls_1 rest_1 Pre_1
      (fun tb e a s o t => postC L tb e a s o t ∧ Framed s o t (fieldLocs frame_1_writes a s ++ arrayLocs frame_1_arrays a s ++ staticLocs frame_1_statics s) 14 9294) := by
  intro l _ _ _ p e ha hc hk s m args below hf hfit hheap happ hpre
  obtain ⟨k, o, h1, h2, h3, rfl, hF⟩ := lw_comes l p e ha hc hk s m args below hf hfit hheap happ hpre
  exact ⟨k, _, h1, h2, h3, hL args s _, lw_frame hF⟩
theorem i_vc : Claimed_1_1 ∧ Claimed_1_2 := ⟨lw_limb limb_1_1 (fun args s t => by simp [limb_1_1, Cond.after, Cond.holds, Cond.value]), lw_limb limb_1_2 (fun args s t => Cond.after_iff.mpr (by
  first | (rw [show limb_1_2 = Cond.eq .result (.int 1) from rfl, Cond.eq_ints (x := 1) (y := 1) rfl rfl]; simp; done) | (simp [limb_1_2, Cond.value, Term.eval]; done)))⟩
end
