-- ===== PART A: goes FIRST, ahead of the names: the tables' words, and 'selects' of the private methods out of them =====
/-- a private method of a class that the tables say can be made, by its rows of tables_1 -/
def lw_okq (q : MethodName × Nat) : Prop := (q.1.cls ≠ "java/lang/invoke/MethodHandle" ∧ q.1.cls ≠ "java/lang/invoke/VarHandle") ∧ Cond.instantiable q.1.cls q.2 ∈ tables_1 ∧ Cond.privateMethod q.1 ∈ tables_1 ∧ Cond.instanceMethod q.1 ∈ tables_1
theorem lw_p0 : lw_okq (⟨"ReplayGroup$NumberedRow", "slot", "(I)I"⟩, 4) := ⟨⟨by decide +kernel, by decide +kernel⟩, List.mem_of_getElem? (i := 79) (by decide +kernel), List.mem_of_getElem? (i := 183) (by decide +kernel), List.mem_of_getElem? (i := 184) (by decide +kernel)⟩
theorem lw_p1 : lw_okq (⟨"ReplayGroup", "channelBetween", "(II)LReplayGroup$NumberedRow;"⟩, 3) := ⟨⟨by decide +kernel, by decide +kernel⟩, List.mem_of_getElem? (i := 10) (by decide +kernel), List.mem_of_getElem? (i := 194) (by decide +kernel), List.mem_of_getElem? (i := 195) (by decide +kernel)⟩
theorem lw_p2 : lw_okq (⟨"ReplayGroup", "doNext", "(I)I"⟩, 3) := ⟨⟨by decide +kernel, by decide +kernel⟩, List.mem_of_getElem? (i := 10) (by decide +kernel), List.mem_of_getElem? (i := 211) (by decide +kernel), List.mem_of_getElem? (i := 212) (by decide +kernel)⟩
theorem lw_p3 : lw_okq (⟨"ReplayGroup", "perform", "(IIII)Z"⟩, 3) := ⟨⟨by decide +kernel, by decide +kernel⟩, List.mem_of_getElem? (i := 10) (by decide +kernel), List.mem_of_getElem? (i := 222) (by decide +kernel), List.mem_of_getElem? (i := 223) (by decide +kernel)⟩
theorem lw_p4 : lw_okq (⟨"ReplayGroup", "trySend", "(III)Z"⟩, 3) := ⟨⟨by decide +kernel, by decide +kernel⟩, List.mem_of_getElem? (i := 10) (by decide +kernel), List.mem_of_getElem? (i := 226) (by decide +kernel), List.mem_of_getElem? (i := 227) (by decide +kernel)⟩
theorem lw_p5 : lw_okq (⟨"ReplayGroup", "tryReceive", "(III)Z"⟩, 3) := ⟨⟨by decide +kernel, by decide +kernel⟩, List.mem_of_getElem? (i := 10) (by decide +kernel), List.mem_of_getElem? (i := 230) (by decide +kernel), List.mem_of_getElem? (i := 231) (by decide +kernel)⟩
theorem lw_p6 : lw_okq (⟨"ReplayGroup", "tryPut", "(II)Z"⟩, 3) := ⟨⟨by decide +kernel, by decide +kernel⟩, List.mem_of_getElem? (i := 10) (by decide +kernel), List.mem_of_getElem? (i := 242) (by decide +kernel), List.mem_of_getElem? (i := 243) (by decide +kernel)⟩
theorem lw_p7 : lw_okq (⟨"ReplayGroupModel", "kept0", "(I)I"⟩, 26) := ⟨⟨by decide +kernel, by decide +kernel⟩, List.mem_of_getElem? (i := 312) (by decide +kernel), List.mem_of_getElem? (i := 418) (by decide +kernel), List.mem_of_getElem? (i := 419) (by decide +kernel)⟩
theorem lw_p8 : lw_okq (⟨"ReplayGroupModel", "append", "(III)I"⟩, 26) := ⟨⟨by decide +kernel, by decide +kernel⟩, List.mem_of_getElem? (i := 312) (by decide +kernel), List.mem_of_getElem? (i := 422) (by decide +kernel), List.mem_of_getElem? (i := 423) (by decide +kernel)⟩
theorem lw_p9 : lw_okq (⟨"ReplayGroupModel", "load", "(I)V"⟩, 26) := ⟨⟨by decide +kernel, by decide +kernel⟩, List.mem_of_getElem? (i := 312) (by decide +kernel), List.mem_of_getElem? (i := 434) (by decide +kernel), List.mem_of_getElem? (i := 435) (by decide +kernel)⟩
theorem lw_p10 : lw_okq (⟨"ReplayGroupModel", "go", "(IZ)I"⟩, 26) := ⟨⟨by decide +kernel, by decide +kernel⟩, List.mem_of_getElem? (i := 312) (by decide +kernel), List.mem_of_getElem? (i := 438) (by decide +kernel), List.mem_of_getElem? (i := 439) (by decide +kernel)⟩
theorem lw_p11 : lw_okq (⟨"ReplayGroupModel", "sends", "(III)Z"⟩, 26) := ⟨⟨by decide +kernel, by decide +kernel⟩, List.mem_of_getElem? (i := 312) (by decide +kernel), List.mem_of_getElem? (i := 442) (by decide +kernel), List.mem_of_getElem? (i := 443) (by decide +kernel)⟩
theorem lw_p12 : lw_okq (⟨"ReplayGroupModel", "puts", "(II)Z"⟩, 26) := ⟨⟨by decide +kernel, by decide +kernel⟩, List.mem_of_getElem? (i := 312) (by decide +kernel), List.mem_of_getElem? (i := 446) (by decide +kernel), List.mem_of_getElem? (i := 447) (by decide +kernel)⟩
def lw_privs_1 : List (MethodName × Nat) := [(⟨"ReplayGroup$NumberedRow", "slot", "(I)I"⟩, 4), (⟨"ReplayGroup", "channelBetween", "(II)LReplayGroup$NumberedRow;"⟩, 3), (⟨"ReplayGroup", "doNext", "(I)I"⟩, 3), (⟨"ReplayGroup", "perform", "(IIII)Z"⟩, 3), (⟨"ReplayGroup", "trySend", "(III)Z"⟩, 3), (⟨"ReplayGroup", "tryReceive", "(III)Z"⟩, 3), (⟨"ReplayGroup", "tryPut", "(II)Z"⟩, 3), (⟨"ReplayGroupModel", "kept0", "(I)I"⟩, 26), (⟨"ReplayGroupModel", "append", "(III)I"⟩, 26), (⟨"ReplayGroupModel", "load", "(I)V"⟩, 26), (⟨"ReplayGroupModel", "go", "(IZ)I"⟩, 26), (⟨"ReplayGroupModel", "sends", "(III)Z"⟩, 26), (⟨"ReplayGroupModel", "puts", "(II)Z"⟩, 26)]
theorem lw_r1 : ∀ q ∈ lw_privs_1, lw_okq q := List.forall_mem_cons.mpr ⟨lw_p0, List.forall_mem_cons.mpr ⟨lw_p1, List.forall_mem_cons.mpr ⟨lw_p2, List.forall_mem_cons.mpr ⟨lw_p3, List.forall_mem_cons.mpr ⟨lw_p4, List.forall_mem_cons.mpr ⟨lw_p5, List.forall_mem_cons.mpr ⟨lw_p6, List.forall_mem_cons.mpr ⟨lw_p7, List.forall_mem_cons.mpr ⟨lw_p8, List.forall_mem_cons.mpr ⟨lw_p9, List.forall_mem_cons.mpr ⟨lw_p10, List.forall_mem_cons.mpr ⟨lw_p11, List.forall_mem_cons.mpr ⟨lw_p12, fun _ h => absurd h List.not_mem_nil⟩⟩⟩⟩⟩⟩⟩⟩⟩⟩⟩⟩⟩
def lw_privs : List (MethodName × Nat) := lw_privs_1
def lw_tbl : List Cond := k2_sels lw_privs ++ tables_1
theorem lw_privs_ok : ∀ q ∈ lw_privs, lw_okq q := lw_r1

def RL : String := "ReplayGroupLaw"
def RJ : String := "java/lang/Math"
def RY : String := "java/lang/System"
def RX0 : String := "ReplayGroup$Member"
def RX1 : String := "ReplayGroup$NumberedRow"
def RX2 : String := "ReplayGroup$Program"
def RX3 : String := "ReplayGroup$State"
def RX4 : String := "ReplayGroup"
def RX5 : String := "ReplayGroupModel"
def TX0 : u_T := fun k => match k with
  | 0 => ("ReplayGroup$Member", "program", "LReplayGroup$Program;", true)
  | 1 => ("ReplayGroup$Member", "current", "LReplayGroup$State;", true)
  | 2 => ("ReplayGroup$Member", "saved", "LReplayGroup$State;", true)
  | 3 => ("ReplayGroup$Member", "log", "LReplayGroup$NumberedRow;", true)
  | 4 => ("ReplayGroup$Member", "up", "Z", false)
  | 5 => ("ReplayGroup$Member", "began", "Z", false)
  | 6 => ("ReplayGroup$Member", "everPutOut", "I", false)
  | _ => ("ReplayGroup$Member", "heldBack", "I", false)
def tyX0 : Nat → FieldType := fun k => match k with
  | 0 => .object "ReplayGroup$Program"
  | 1 => .object "ReplayGroup$State"
  | 2 => .object "ReplayGroup$State"
  | 3 => .object "ReplayGroup$NumberedRow"
  | 4 => .boolean
  | 5 => .boolean
  | 6 => .int
  | _ => .int
theorem nmX0 : ∀ a, a < 8 → ∀ b, b < 8 → a ≠ b → (TX0 a).2.1 ≠ (TX0 b).2.1 := by decide +kernel
theorem tyX0_ok : ∀ k, k < 8 → parseFieldDescriptor (TX0 k).2.2.1 = some (tyX0 k) := by decide +kernel
def TX1 : u_T := fun k => match k with
  | 0 => ("ReplayGroup$NumberedRow", "values", "[I", true)
  | 1 => ("ReplayGroup$NumberedRow", "origins", "[I", true)
  | 2 => ("ReplayGroup$NumberedRow", "gone", "I", false)
  | _ => ("ReplayGroup$NumberedRow", "last", "I", false)
def tyX1 : Nat → FieldType := fun k => match k with
  | 0 => .array .int
  | 1 => .array .int
  | 2 => .int
  | _ => .int
theorem nmX1 : ∀ a, a < 4 → ∀ b, b < 4 → a ≠ b → (TX1 a).2.1 ≠ (TX1 b).2.1 := by decide +kernel
theorem tyX1_ok : ∀ k, k < 4 → parseFieldDescriptor (TX1 k).2.2.1 = some (tyX1 k) := by decide +kernel
def TX2 : u_T := fun k => match k with
  | 0 => ("ReplayGroup$Program", "ops", "[I", true)
  | 1 => ("ReplayGroup$Program", "firsts", "[I", true)
  | 2 => ("ReplayGroup$Program", "seconds", "[I", true)
  | _ => ("ReplayGroup$Program", "length", "I", false)
def tyX2 : Nat → FieldType := fun k => match k with
  | 0 => .array .int
  | 1 => .array .int
  | 2 => .array .int
  | _ => .int
theorem nmX2 : ∀ a, a < 4 → ∀ b, b < 4 → a ≠ b → (TX2 a).2.1 ≠ (TX2 b).2.1 := by decide +kernel
theorem tyX2_ok : ∀ k, k < 4 → parseFieldDescriptor (TX2 k).2.2.1 = some (tyX2 k) := by decide +kernel
def TX3 : u_T := fun k => match k with
  | 0 => ("ReplayGroup$State", "registers", "[I", true)
  | 1 => ("ReplayGroup$State", "sentTo", "[I", true)
  | 2 => ("ReplayGroup$State", "place", "I", false)
  | 3 => ("ReplayGroup$State", "age", "I", false)
  | 4 => ("ReplayGroup$State", "took", "I", false)
  | _ => ("ReplayGroup$State", "putOut", "I", false)
def tyX3 : Nat → FieldType := fun k => match k with
  | 0 => .array .int
  | 1 => .array .int
  | 2 => .int
  | 3 => .int
  | 4 => .int
  | _ => .int
theorem nmX3 : ∀ a, a < 6 → ∀ b, b < 6 → a ≠ b → (TX3 a).2.1 ≠ (TX3 b).2.1 := by decide +kernel
theorem tyX3_ok : ∀ k, k < 6 → parseFieldDescriptor (TX3 k).2.2.1 = some (tyX3 k) := by decide +kernel
def TX4 : u_T := fun k => match k with
  | 0 => ("ReplayGroup", "members", "[LReplayGroup$Member;", true)
  | 1 => ("ReplayGroup", "channels", "[LReplayGroup$NumberedRow;", true)
  | _ => ("ReplayGroup", "shown", "LReplayGroup$NumberedRow;", true)
def tyX4 : Nat → FieldType := fun k => match k with
  | 0 => .array (.object "ReplayGroup$Member")
  | 1 => .array (.object "ReplayGroup$NumberedRow")
  | _ => .object "ReplayGroup$NumberedRow"
theorem nmX4 : ∀ a, a < 3 → ∀ b, b < 3 → a ≠ b → (TX4 a).2.1 ≠ (TX4 b).2.1 := by decide +kernel
theorem tyX4_ok : ∀ k, k < 3 → parseFieldDescriptor (TX4 k).2.2.1 = some (tyX4 k) := by decide +kernel
def TX5 : u_T := fun k => match k with
  | 0 => ("ReplayGroupModel", "length", "[I", true)
  | 1 => ("ReplayGroupModel", "ops", "[I", true)
  | 2 => ("ReplayGroupModel", "as", "[I", true)
  | 3 => ("ReplayGroupModel", "bs", "[I", true)
  | 4 => ("ReplayGroupModel", "down", "[Z", true)
  | 5 => ("ReplayGroupModel", "age", "[I", true)
  | 6 => ("ReplayGroupModel", "savedAge", "[I", true)
  | 7 => ("ReplayGroupModel", "savedTook", "[I", true)
  | 8 => ("ReplayGroupModel", "began", "[Z", true)
  | 9 => ("ReplayGroupModel", "heldBack", "[I", true)
  | 10 => ("ReplayGroupModel", "total", "[I", true)
  | 11 => ("ReplayGroupModel", "log", "[I", true)
  | 12 => ("ReplayGroupModel", "origin", "[I", true)
  | 13 => ("ReplayGroupModel", "sentEver", "[I", true)
  | 14 => ("ReplayGroupModel", "delivered", "[I", true)
  | 15 => ("ReplayGroupModel", "inChannel", "[I", true)
  | 16 => ("ReplayGroupModel", "outputs", "I", false)
  | 17 => ("ReplayGroupModel", "outputOf", "[I", true)
  | 18 => ("ReplayGroupModel", "outputValue", "[I", true)
  | 19 => ("ReplayGroupModel", "putEver", "[I", true)
  | 20 => ("ReplayGroupModel", "reg", "[I", true)
  | 21 => ("ReplayGroupModel", "sent", "[I", true)
  | 22 => ("ReplayGroupModel", "place", "I", false)
  | 23 => ("ReplayGroupModel", "took", "I", false)
  | 24 => ("ReplayGroupModel", "put", "I", false)
  | _ => ("ReplayGroupModel", "done", "I", false)
def tyX5 : Nat → FieldType := fun k => match k with
  | 0 => .array .int
  | 1 => .array .int
  | 2 => .array .int
  | 3 => .array .int
  | 4 => .array .boolean
  | 5 => .array .int
  | 6 => .array .int
  | 7 => .array .int
  | 8 => .array .boolean
  | 9 => .array .int
  | 10 => .array .int
  | 11 => .array .int
  | 12 => .array .int
  | 13 => .array .int
  | 14 => .array .int
  | 15 => .array .int
  | 16 => .int
  | 17 => .array .int
  | 18 => .array .int
  | 19 => .array .int
  | 20 => .array .int
  | 21 => .array .int
  | 22 => .int
  | 23 => .int
  | 24 => .int
  | _ => .int
theorem nmX5 : ∀ a, a < 26 → ∀ b, b < 26 → a ≠ b → (TX5 a).2.1 ≠ (TX5 b).2.1 := by decide +kernel
theorem tyX5_ok : ∀ k, k < 26 → parseFieldDescriptor (TX5 k).2.2.1 = some (tyX5 k) := by decide +kernel
abbrev vwCl : List vw_C := [(RX0, TX0, 8), (RX1, TX1, 4), (RX2, TX2, 4), (RX3, TX3, 6), (RX4, TX4, 3), (RX5, TX5, 26)]
def yX4_init : MethodName := ⟨RX4, "<init>", "()V"⟩
def yX0_init : MethodName := ⟨RX0, "<init>", "()V"⟩
def yX2_init : MethodName := ⟨RX2, "<init>", "()V"⟩
def yX3_init : MethodName := ⟨RX3, "<init>", "()V"⟩
def yX1_init : MethodName := ⟨RX1, "<init>", "(I)V"⟩
def yX4_code : MethodName := ⟨RX4, "code", "(IIII)Z"⟩
def yX4_isProcess : MethodName := ⟨RX4, "isProcess", "(I)Z"⟩
def yX4_isInstruction : MethodName := ⟨RX4, "isInstruction", "(IIII)Z"⟩
def yX4_isRegister : MethodName := ⟨RX4, "isRegister", "(I)Z"⟩
def yX4_isChannel : MethodName := ⟨RX4, "isChannel", "(II)Z"⟩
def yX2_isFull : MethodName := ⟨RX2, "isFull", "()Z"⟩
def yX2_append : MethodName := ⟨RX2, "append", "(III)V"⟩
def yX4_input : MethodName := ⟨RX4, "input", "(II)I"⟩
def yX1_isFull : MethodName := ⟨RX1, "isFull", "()Z"⟩
def yX1_count : MethodName := ⟨RX1, "count", "()I"⟩
def yX1_append : MethodName := ⟨RX1, "append", "(II)I"⟩
def yX1_slot : MethodName := ⟨RX1, "slot", "(I)I"⟩
def yJ_floorMod : MethodName := ⟨RJ, "floorMod", "(II)I"⟩
def yX4_deliver : MethodName := ⟨RX4, "deliver", "(II)I"⟩
def yX4_channelBetween : MethodName := ⟨RX4, "channelBetween", "(II)LReplayGroup$NumberedRow;"⟩
def yX1_valueAt : MethodName := ⟨RX1, "valueAt", "(I)I"⟩
def yX1_dropThrough : MethodName := ⟨RX1, "dropThrough", "(I)I"⟩
def yX4_step : MethodName := ⟨RX4, "step", "(I)I"⟩
def yX4_doNext : MethodName := ⟨RX4, "doNext", "(I)I"⟩
def yX2_has : MethodName := ⟨RX2, "has", "(I)Z"⟩
def yX4_placeAfter : MethodName := ⟨RX4, "placeAfter", "(LReplayGroup$State;III)I"⟩
def yX4_perform : MethodName := ⟨RX4, "perform", "(IIII)Z"⟩
def yX4_trySend : MethodName := ⟨RX4, "trySend", "(III)Z"⟩
def yX4_tryReceive : MethodName := ⟨RX4, "tryReceive", "(III)Z"⟩
def yX1_has : MethodName := ⟨RX1, "has", "(I)Z"⟩
def yX1_originAt : MethodName := ⟨RX1, "originAt", "(I)I"⟩
def yX4_tryPut : MethodName := ⟨RX4, "tryPut", "(II)Z"⟩
def yX4_run : MethodName := ⟨RX4, "run", "(II)I"⟩
def yX4_checkpoint : MethodName := ⟨RX4, "checkpoint", "(I)I"⟩
def yX3_copyFrom : MethodName := ⟨RX3, "copyFrom", "(LReplayGroup$State;)V"⟩
def yX4_crash : MethodName := ⟨RX4, "crash", "(I)Z"⟩
def yX4_recover : MethodName := ⟨RX4, "recover", "(I)I"⟩
def yX4_register : MethodName := ⟨RX4, "register", "(II)I"⟩
def yX4_state : MethodName := ⟨RX4, "state", "(II)I"⟩
def yX4_sent : MethodName := ⟨RX4, "sent", "(II)I"⟩
def yX4_kept : MethodName := ⟨RX4, "kept", "(I)I"⟩
def yX4_source : MethodName := ⟨RX4, "source", "(II)I"⟩
def yX4_waiting : MethodName := ⟨RX4, "waiting", "(II)I"⟩
def yX4_held : MethodName := ⟨RX4, "held", "(I)I"⟩
def yX4_outputs : MethodName := ⟨RX4, "outputs", "()I"⟩
def yX4_author : MethodName := ⟨RX4, "author", "(I)I"⟩
def yX4_outputNumber : MethodName := ⟨RX4, "outputNumber", "(I)I"⟩
def yX4_output : MethodName := ⟨RX4, "output", "(I)I"⟩
def yX5_init : MethodName := ⟨RX5, "<init>", "()V"⟩
def yX5_code : MethodName := ⟨RX5, "code", "(IIII)Z"⟩
def yX5_isProcess : MethodName := ⟨RX5, "isProcess", "(I)Z"⟩
def yX5_isChannel : MethodName := ⟨RX5, "isChannel", "(II)Z"⟩
def yX5_isRegister : MethodName := ⟨RX5, "isRegister", "(I)Z"⟩
def yX5_usesB : MethodName := ⟨RX5, "usesB", "(I)Z"⟩
def yX5_input : MethodName := ⟨RX5, "input", "(II)I"⟩
def yX5_kept0 : MethodName := ⟨RX5, "kept0", "(I)I"⟩
def yX5_append : MethodName := ⟨RX5, "append", "(III)I"⟩
def yX5_deliver : MethodName := ⟨RX5, "deliver", "(II)I"⟩
def yX5_step : MethodName := ⟨RX5, "step", "(I)I"⟩
def yX5_load : MethodName := ⟨RX5, "load", "(I)V"⟩
def yX5_go : MethodName := ⟨RX5, "go", "(IZ)I"⟩
def yX5_sends : MethodName := ⟨RX5, "sends", "(III)Z"⟩
def yX5_puts : MethodName := ⟨RX5, "puts", "(II)Z"⟩
def yX5_run : MethodName := ⟨RX5, "run", "(II)I"⟩
def yX5_checkpoint : MethodName := ⟨RX5, "checkpoint", "(I)I"⟩
def yX5_crash : MethodName := ⟨RX5, "crash", "(I)Z"⟩
def yX5_recover : MethodName := ⟨RX5, "recover", "(I)I"⟩
def yX5_register : MethodName := ⟨RX5, "register", "(II)I"⟩
def yX5_state : MethodName := ⟨RX5, "state", "(II)I"⟩
def yX5_sent : MethodName := ⟨RX5, "sent", "(II)I"⟩
def yX5_kept : MethodName := ⟨RX5, "kept", "(I)I"⟩
def yX5_source : MethodName := ⟨RX5, "source", "(II)I"⟩
def yX5_waiting : MethodName := ⟨RX5, "waiting", "(II)I"⟩
def yX5_held : MethodName := ⟨RX5, "held", "(I)I"⟩
def yX5_outputs : MethodName := ⟨RX5, "outputs", "()I"⟩
def yX5_author : MethodName := ⟨RX5, "author", "(I)I"⟩
def yX5_output : MethodName := ⟨RX5, "output", "(I)I"⟩
abbrev cX4_init : ByteArray := prog_1_method_1_code
abbrev cX0_init : ByteArray := prog_2_method_1_code
abbrev cX2_init : ByteArray := prog_4_method_1_code
abbrev cX3_init : ByteArray := prog_5_method_1_code
abbrev cX1_init : ByteArray := prog_3_method_1_code
abbrev cX4_code : ByteArray := prog_1_method_2_code
abbrev cX4_isProcess : ByteArray := prog_1_method_20_code
abbrev cX4_isInstruction : ByteArray := prog_1_method_23_code
abbrev cX4_isRegister : ByteArray := prog_1_method_21_code
abbrev cX4_isChannel : ByteArray := prog_1_method_22_code
abbrev cX2_isFull : ByteArray := prog_4_method_2_code
abbrev cX2_append : ByteArray := prog_4_method_4_code
abbrev cX4_input : ByteArray := prog_1_method_3_code
abbrev cX1_isFull : ByteArray := prog_3_method_3_code
abbrev cX1_count : ByteArray := prog_3_method_2_code
abbrev cX1_append : ByteArray := prog_3_method_7_code
abbrev cX1_slot : ByteArray := prog_3_method_9_code
abbrev cJ_floorMod : ByteArray := prog_8_method_50_code
abbrev cX4_deliver : ByteArray := prog_1_method_4_code
abbrev cX4_channelBetween : ByteArray := prog_1_method_25_code
abbrev cX1_valueAt : ByteArray := prog_3_method_5_code
abbrev cX1_dropThrough : ByteArray := prog_3_method_8_code
abbrev cX4_step : ByteArray := prog_1_method_5_code
abbrev cX4_doNext : ByteArray := prog_1_method_26_code
abbrev cX2_has : ByteArray := prog_4_method_3_code
abbrev cX4_placeAfter : ByteArray := prog_1_method_27_code
abbrev cX4_perform : ByteArray := prog_1_method_28_code
abbrev cX4_trySend : ByteArray := prog_1_method_29_code
abbrev cX4_tryReceive : ByteArray := prog_1_method_30_code
abbrev cX1_has : ByteArray := prog_3_method_4_code
abbrev cX1_originAt : ByteArray := prog_3_method_6_code
abbrev cX4_tryPut : ByteArray := prog_1_method_31_code
abbrev cX4_run : ByteArray := prog_1_method_6_code
abbrev cX4_checkpoint : ByteArray := prog_1_method_7_code
abbrev cX3_copyFrom : ByteArray := prog_5_method_2_code
abbrev cX4_crash : ByteArray := prog_1_method_8_code
abbrev cX4_recover : ByteArray := prog_1_method_9_code
abbrev cX4_register : ByteArray := prog_1_method_10_code
abbrev cX4_state : ByteArray := prog_1_method_11_code
abbrev cX4_sent : ByteArray := prog_1_method_12_code
abbrev cX4_kept : ByteArray := prog_1_method_13_code
abbrev cX4_source : ByteArray := prog_1_method_14_code
abbrev cX4_waiting : ByteArray := prog_1_method_15_code
abbrev cX4_held : ByteArray := prog_1_method_16_code
abbrev cX4_outputs : ByteArray := prog_1_method_17_code
abbrev cX4_author : ByteArray := prog_1_method_18_code
abbrev cX4_outputNumber : ByteArray := prog_1_method_24_code
abbrev cX4_output : ByteArray := prog_1_method_19_code
abbrev cX5_init : ByteArray := prog_7_method_1_code
abbrev cX5_code : ByteArray := prog_7_method_6_code
abbrev cX5_isProcess : ByteArray := prog_7_method_2_code
abbrev cX5_isChannel : ByteArray := prog_7_method_3_code
abbrev cX5_isRegister : ByteArray := prog_7_method_4_code
abbrev cX5_usesB : ByteArray := prog_7_method_5_code
abbrev cX5_input : ByteArray := prog_7_method_13_code
abbrev cX5_kept0 : ByteArray := prog_7_method_11_code
abbrev cX5_append : ByteArray := prog_7_method_12_code
abbrev cX5_deliver : ByteArray := prog_7_method_14_code
abbrev cX5_step : ByteArray := prog_7_method_15_code
abbrev cX5_load : ByteArray := prog_7_method_10_code
abbrev cX5_go : ByteArray := prog_7_method_7_code
abbrev cX5_sends : ByteArray := prog_7_method_8_code
abbrev cX5_puts : ByteArray := prog_7_method_9_code
abbrev cX5_run : ByteArray := prog_7_method_16_code
abbrev cX5_checkpoint : ByteArray := prog_7_method_17_code
abbrev cX5_crash : ByteArray := prog_7_method_18_code
abbrev cX5_recover : ByteArray := prog_7_method_19_code
abbrev cX5_register : ByteArray := prog_7_method_20_code
abbrev cX5_state : ByteArray := prog_7_method_21_code
abbrev cX5_sent : ByteArray := prog_7_method_22_code
abbrev cX5_kept : ByteArray := prog_7_method_23_code
abbrev cX5_source : ByteArray := prog_7_method_24_code
abbrev cX5_waiting : ByteArray := prog_7_method_25_code
abbrev cX5_held : ByteArray := prog_7_method_26_code
abbrev cX5_outputs : ByteArray := prog_7_method_27_code
abbrev cX5_author : ByteArray := prog_7_method_28_code
abbrev cX5_output : ByteArray := prog_7_method_29_code
def gw0 : List Cond := [.initialized RL, .initialized RX4, .initialized RX0, .initialized RX2, .initialized RX3, .initialized RX1, .initialized RX5, .initialized RJ, .initialized RY, .classLink RL 7 RX4, .instantiable RX4 3, .methodLink RL 9 yX4_init, .instanceMethod yX4_init, .code yX4_init cX4_init 2 none, .methodLink RX4 1 objectInit, .instanceMethod objectInit, .code objectInit ⟨#[0xb1]⟩ 1 none, .classLink RX4 9 RX0, .instantiable RX0 8, .instanceMethod yX0_init, .code yX0_init cX0_init 1 none, .methodLink RX0 3 objectInit, .classLink RX0 9 RX2, .instantiable RX2 4, .instanceMethod yX2_init, .code yX2_init cX2_init 1 none, .methodLink RX2 3 objectInit, .fieldLink RX2 9 "ReplayGroup$Program" "ops" "[I", .fieldLink RX4 142 "ReplayGroup$Program" "ops" "[I", .fieldLink RX2 15 "ReplayGroup$Program" "firsts" "[I", .fieldLink RX4 145 "ReplayGroup$Program" "firsts" "[I", .fieldLink RX2 18 "ReplayGroup$Program" "seconds" "[I", .fieldLink RX4 148 "ReplayGroup$Program" "seconds" "[I", .fieldLink RX2 21 "ReplayGroup$Program" "length" "I", .laysFinal RX2 "ReplayGroup$Program" "ops" "[I", .laysFinal RX2 "ReplayGroup$Program" "firsts" "[I", .laysFinal RX2 "ReplayGroup$Program" "seconds" "[I", .lays RX2 "ReplayGroup$Program" "length" "I", .arrayClass .int, .classLink RX0 18 RX3, .instantiable RX3 6, .instanceMethod yX3_init, .code yX3_init cX3_init 1 none, .methodLink RX3 3 objectInit, .fieldLink RX3 9 "ReplayGroup$State" "registers" "[I", .fieldLink RX4 113 "ReplayGroup$State" "registers" "[I", .fieldLink RX3 15 "ReplayGroup$State" "sentTo" "[I", .fieldLink RX4 126 "ReplayGroup$State" "sentTo" "[I", .fieldLink RX3 24 "ReplayGroup$State" "place" "I", .fieldLink RX4 117 "ReplayGroup$State" "place" "I"]
def gw1 : List Cond := [.fieldLink RX3 28 "ReplayGroup$State" "age" "I", .fieldLink RX4 120 "ReplayGroup$State" "age" "I", .fieldLink RX3 31 "ReplayGroup$State" "took" "I", .fieldLink RX4 104 "ReplayGroup$State" "took" "I", .fieldLink RX3 34 "ReplayGroup$State" "putOut" "I", .fieldLink RX4 123 "ReplayGroup$State" "putOut" "I", .laysFinal RX3 "ReplayGroup$State" "registers" "[I", .laysFinal RX3 "ReplayGroup$State" "sentTo" "[I", .lays RX3 "ReplayGroup$State" "place" "I", .lays RX3 "ReplayGroup$State" "age" "I", .lays RX3 "ReplayGroup$State" "took" "I", .lays RX3 "ReplayGroup$State" "putOut" "I", .classLink RX0 28 RX1, .instantiable RX1 4, .methodLink RX0 30 yX1_init, .instanceMethod yX1_init, .code yX1_init cX1_init 2 none, .methodLink RX1 1 objectInit, .fieldLink RX1 7 "ReplayGroup$NumberedRow" "values" "[I", .fieldLink RX1 13 "ReplayGroup$NumberedRow" "origins" "[I", .fieldLink RX1 20 "ReplayGroup$NumberedRow" "gone" "I", .fieldLink RX4 77 "ReplayGroup$NumberedRow" "gone" "I", .fieldLink RX1 16 "ReplayGroup$NumberedRow" "last" "I", .fieldLink RX4 107 "ReplayGroup$NumberedRow" "last" "I", .laysFinal RX1 "ReplayGroup$NumberedRow" "values" "[I", .laysFinal RX1 "ReplayGroup$NumberedRow" "origins" "[I", .lays RX1 "ReplayGroup$NumberedRow" "gone" "I", .lays RX1 "ReplayGroup$NumberedRow" "last" "I", .fieldLink RX0 12 "ReplayGroup$Member" "program" "LReplayGroup$Program;", .fieldLink RX4 41 "ReplayGroup$Member" "program" "LReplayGroup$Program;", .fieldLink RX0 21 "ReplayGroup$Member" "current" "LReplayGroup$State;", .fieldLink RX4 95 "ReplayGroup$Member" "current" "LReplayGroup$State;", .fieldLink RX0 25 "ReplayGroup$Member" "saved" "LReplayGroup$State;", .fieldLink RX4 91 "ReplayGroup$Member" "saved" "LReplayGroup$State;", .fieldLink RX0 33 "ReplayGroup$Member" "log" "LReplayGroup$NumberedRow;", .fieldLink RX4 58 "ReplayGroup$Member" "log" "LReplayGroup$NumberedRow;", .fieldLink RX0 37 "ReplayGroup$Member" "up" "Z", .fieldLink RX4 55 "ReplayGroup$Member" "up" "Z", .fieldLink RX4 37 "ReplayGroup$Member" "began" "Z", .fieldLink RX4 168 "ReplayGroup$Member" "everPutOut" "I", .fieldLink RX4 135 "ReplayGroup$Member" "heldBack" "I", .laysFinal RX0 "ReplayGroup$Member" "program" "LReplayGroup$Program;", .laysFinal RX0 "ReplayGroup$Member" "current" "LReplayGroup$State;", .laysFinal RX0 "ReplayGroup$Member" "saved" "LReplayGroup$State;", .laysFinal RX0 "ReplayGroup$Member" "log" "LReplayGroup$NumberedRow;", .lays RX0 "ReplayGroup$Member" "up" "Z", .lays RX0 "ReplayGroup$Member" "began" "Z", .lays RX0 "ReplayGroup$Member" "everPutOut" "I", .lays RX0 "ReplayGroup$Member" "heldBack" "I", .classLink RX4 16 RX1]
def gw2 : List Cond := [.methodLink RX4 22 yX1_init, .fieldLink RX4 11 "ReplayGroup" "members" "[LReplayGroup$Member;", .fieldLink RX4 18 "ReplayGroup" "channels" "[LReplayGroup$NumberedRow;", .fieldLink RX4 25 "ReplayGroup" "shown" "LReplayGroup$NumberedRow;", .laysFinal RX4 "ReplayGroup" "members" "[LReplayGroup$Member;", .laysFinal RX4 "ReplayGroup" "channels" "[LReplayGroup$NumberedRow;", .laysFinal RX4 "ReplayGroup" "shown" "LReplayGroup$NumberedRow;", .methodLink RL 13 yX4_code, .instanceMethod yX4_code, .selects RX4 yX4_code yX4_code, .code yX4_code cX4_code 6 (some .boolean), .methodLink RX4 29 yX4_isProcess, .static yX4_isProcess, .code yX4_isProcess cX4_isProcess 1 (some .boolean), .methodLink RX4 33 yX4_isInstruction, .static yX4_isInstruction, .code yX4_isInstruction cX4_isInstruction 4 (some .boolean), .methodLink RX4 110 yX4_isRegister, .static yX4_isRegister, .code yX4_isRegister cX4_isRegister 1 (some .boolean), .methodLink RX4 65 yX4_isChannel, .static yX4_isChannel, .code yX4_isChannel cX4_isChannel 2 (some .boolean), .methodLink RX4 45 yX2_isFull, .instanceMethod yX2_isFull, .selects RX2 yX2_isFull yX2_isFull, .code yX2_isFull cX2_isFull 1 (some .boolean), .methodLink RX4 51 yX2_append, .instanceMethod yX2_append, .selects RX2 yX2_append yX2_append, .code yX2_append cX2_append 4 none, .methodLink RL 18 yX4_input, .instanceMethod yX4_input, .selects RX4 yX4_input yX4_input, .code yX4_input cX4_input 4 (some .int), .methodLink RX4 61 yX1_isFull, .instanceMethod yX1_isFull, .selects RX1 yX1_isFull yX1_isFull, .code yX1_isFull cX1_isFull 1 (some .boolean), .methodLink RX1 23 yX1_count, .instanceMethod yX1_count, .selects RX1 yX1_count yX1_count, .code yX1_count cX1_count 1 (some .int), .methodLink RX4 62 yX1_append, .instanceMethod yX1_append, .selects RX1 yX1_append yX1_append, .code yX1_append cX1_append 3 (some .int), .methodLink RX1 27 yX1_slot, .instanceMethod yX1_slot, .code yX1_slot cX1_slot 2 (some .int)]
def gw3 : List Cond := [.methodLink RX1 31 yJ_floorMod, .static yJ_floorMod, .code yJ_floorMod cJ_floorMod 3 (some .int), .methodLink RL 23 yX4_deliver, .instanceMethod yX4_deliver, .selects RX4 yX4_deliver yX4_deliver, .code yX4_deliver cX4_deliver 7 (some .int), .methodLink RX4 69 yX4_channelBetween, .instanceMethod yX4_channelBetween, .code yX4_channelBetween cX4_channelBetween 3 (some (.object "ReplayGroup$NumberedRow")), .methodLink RX4 73 yX1_count, .methodLink RX4 81 yX1_valueAt, .instanceMethod yX1_valueAt, .selects RX1 yX1_valueAt yX1_valueAt, .code yX1_valueAt cX1_valueAt 2 (some .int), .methodLink RX4 85 yX1_dropThrough, .instanceMethod yX1_dropThrough, .selects RX1 yX1_dropThrough yX1_dropThrough, .code yX1_dropThrough cX1_dropThrough 3 (some .int), .methodLink RL 27 yX4_step, .instanceMethod yX4_step, .selects RX4 yX4_step yX4_step, .code yX4_step cX4_step 2 (some .int), .methodLink RX4 88 yX4_doNext, .instanceMethod yX4_doNext, .code yX4_doNext cX4_doNext 9 (some .int), .methodLink RX4 141 yX2_has, .instanceMethod yX2_has, .selects RX2 yX2_has yX2_has, .code yX2_has cX2_has 2 (some .boolean), .methodLink RX4 151 yX4_placeAfter, .static yX4_placeAfter, .code yX4_placeAfter cX4_placeAfter 4 (some .int), .methodLink RX4 155 yX4_perform, .instanceMethod yX4_perform, .code yX4_perform cX4_perform 6 (some .boolean), .methodLink RX4 158 yX4_trySend, .instanceMethod yX4_trySend, .code yX4_trySend cX4_trySend 6 (some .boolean), .methodLink RX4 162 yX4_tryReceive, .instanceMethod yX4_tryReceive, .code yX4_tryReceive cX4_tryReceive 6 (some .boolean), .methodLink RX4 129 yX1_has, .instanceMethod yX1_has, .selects RX1 yX1_has yX1_has, .code yX1_has cX1_has 2 (some .boolean), .methodLink RX4 132 yX1_originAt, .instanceMethod yX1_originAt, .selects RX1 yX1_originAt yX1_originAt, .code yX1_originAt cX1_originAt 2 (some .int)]
def gw4 : List Cond := [.methodLink RX4 165 yX4_tryPut, .instanceMethod yX4_tryPut, .code yX4_tryPut cX4_tryPut 4 (some .boolean), .methodLink RL 32 yX4_run, .instanceMethod yX4_run, .selects RX4 yX4_run yX4_run, .code yX4_run cX4_run 4 (some .int), .methodLink RL 36 yX4_checkpoint, .instanceMethod yX4_checkpoint, .selects RX4 yX4_checkpoint yX4_checkpoint, .code yX4_checkpoint cX4_checkpoint 3 (some .int), .methodLink RX4 98 yX3_copyFrom, .instanceMethod yX3_copyFrom, .selects RX3 yX3_copyFrom yX3_copyFrom, .code yX3_copyFrom cX3_copyFrom 2 none, .methodLink RX3 18 arraycopyName, .static arraycopyName, .native arraycopyName, .methodLink RL 40 yX4_crash, .instanceMethod yX4_crash, .selects RX4 yX4_crash yX4_crash, .code yX4_crash cX4_crash 2 (some .boolean), .methodLink RL 45 yX4_recover, .instanceMethod yX4_recover, .selects RX4 yX4_recover yX4_recover, .code yX4_recover cX4_recover 3 (some .int), .methodLink RL 49 yX4_register, .instanceMethod yX4_register, .selects RX4 yX4_register yX4_register, .code yX4_register cX4_register 3 (some .int), .methodLink RL 53 yX4_state, .instanceMethod yX4_state, .selects RX4 yX4_state yX4_state, .code yX4_state cX4_state 4 (some .int), .methodLink RL 57 yX4_sent, .instanceMethod yX4_sent, .selects RX4 yX4_sent yX4_sent, .code yX4_sent cX4_sent 3 (some .int), .methodLink RL 61 yX4_kept, .instanceMethod yX4_kept, .selects RX4 yX4_kept yX4_kept, .code yX4_kept cX4_kept 2 (some .int), .methodLink RL 65 yX4_source, .instanceMethod yX4_source, .selects RX4 yX4_source yX4_source, .code yX4_source cX4_source 4 (some .int), .methodLink RL 69 yX4_waiting, .instanceMethod yX4_waiting, .selects RX4 yX4_waiting yX4_waiting, .code yX4_waiting cX4_waiting 3 (some .int)]
def gw5 : List Cond := [.methodLink RL 73 yX4_held, .instanceMethod yX4_held, .selects RX4 yX4_held yX4_held, .code yX4_held cX4_held 2 (some .int), .methodLink RL 77 yX4_outputs, .instanceMethod yX4_outputs, .selects RX4 yX4_outputs yX4_outputs, .code yX4_outputs cX4_outputs 1 (some .int), .methodLink RL 82 yX4_author, .instanceMethod yX4_author, .selects RX4 yX4_author yX4_author, .code yX4_author cX4_author 3 (some .int), .methodLink RX4 138 yX4_outputNumber, .static yX4_outputNumber, .code yX4_outputNumber cX4_outputNumber 1 (some .int), .methodLink RL 86 yX4_output, .instanceMethod yX4_output, .selects RX4 yX4_output yX4_output, .code yX4_output cX4_output 3 (some .int), .classLink RL 10 RX5, .instantiable RX5 26, .methodLink RL 12 yX5_init, .instanceMethod yX5_init, .code yX5_init cX5_init 1 none, .methodLink RX5 1 objectInit, .fieldLink RX5 7 "ReplayGroupModel" "length" "[I", .fieldLink RX5 13 "ReplayGroupModel" "ops" "[I", .fieldLink RX5 16 "ReplayGroupModel" "as" "[I", .fieldLink RX5 19 "ReplayGroupModel" "bs" "[I", .fieldLink RX5 22 "ReplayGroupModel" "down" "[Z", .fieldLink RX5 26 "ReplayGroupModel" "age" "[I", .fieldLink RX5 29 "ReplayGroupModel" "savedAge" "[I", .fieldLink RX5 32 "ReplayGroupModel" "savedTook" "[I", .fieldLink RX5 35 "ReplayGroupModel" "began" "[Z", .fieldLink RX5 38 "ReplayGroupModel" "heldBack" "[I", .fieldLink RX5 41 "ReplayGroupModel" "total" "[I", .fieldLink RX5 44 "ReplayGroupModel" "log" "[I", .fieldLink RX5 47 "ReplayGroupModel" "origin" "[I", .fieldLink RX5 50 "ReplayGroupModel" "sentEver" "[I", .fieldLink RX5 53 "ReplayGroupModel" "delivered" "[I", .fieldLink RX5 56 "ReplayGroupModel" "inChannel" "[I", .fieldLink RX5 108 "ReplayGroupModel" "outputs" "I", .fieldLink RX5 59 "ReplayGroupModel" "outputOf" "[I", .fieldLink RX5 62 "ReplayGroupModel" "outputValue" "[I", .fieldLink RX5 65 "ReplayGroupModel" "putEver" "[I", .fieldLink RX5 68 "ReplayGroupModel" "reg" "[I", .fieldLink RX5 71 "ReplayGroupModel" "sent" "[I", .fieldLink RX5 88 "ReplayGroupModel" "place" "I", .fieldLink RX5 96 "ReplayGroupModel" "took" "I", .fieldLink RX5 102 "ReplayGroupModel" "put" "I"]
def gw6 : List Cond := [.fieldLink RX5 105 "ReplayGroupModel" "done" "I", .laysFinal RX5 "ReplayGroupModel" "length" "[I", .laysFinal RX5 "ReplayGroupModel" "ops" "[I", .laysFinal RX5 "ReplayGroupModel" "as" "[I", .laysFinal RX5 "ReplayGroupModel" "bs" "[I", .laysFinal RX5 "ReplayGroupModel" "down" "[Z", .laysFinal RX5 "ReplayGroupModel" "age" "[I", .laysFinal RX5 "ReplayGroupModel" "savedAge" "[I", .laysFinal RX5 "ReplayGroupModel" "savedTook" "[I", .laysFinal RX5 "ReplayGroupModel" "began" "[Z", .laysFinal RX5 "ReplayGroupModel" "heldBack" "[I", .laysFinal RX5 "ReplayGroupModel" "total" "[I", .laysFinal RX5 "ReplayGroupModel" "log" "[I", .laysFinal RX5 "ReplayGroupModel" "origin" "[I", .laysFinal RX5 "ReplayGroupModel" "sentEver" "[I", .laysFinal RX5 "ReplayGroupModel" "delivered" "[I", .laysFinal RX5 "ReplayGroupModel" "inChannel" "[I", .lays RX5 "ReplayGroupModel" "outputs" "I", .laysFinal RX5 "ReplayGroupModel" "outputOf" "[I", .laysFinal RX5 "ReplayGroupModel" "outputValue" "[I", .laysFinal RX5 "ReplayGroupModel" "putEver" "[I", .laysFinal RX5 "ReplayGroupModel" "reg" "[I", .laysFinal RX5 "ReplayGroupModel" "sent" "[I", .lays RX5 "ReplayGroupModel" "place" "I", .lays RX5 "ReplayGroupModel" "took" "I", .lays RX5 "ReplayGroupModel" "put" "I", .lays RX5 "ReplayGroupModel" "done" "I", .arrayClass .boolean, .methodLink RL 17 yX5_code, .instanceMethod yX5_code, .selects RX5 yX5_code yX5_code, .code yX5_code cX5_code 7 (some .boolean), .methodLink RX5 74 yX5_isProcess, .static yX5_isProcess, .code yX5_isProcess cX5_isProcess 1 (some .boolean), .methodLink RX5 78 yX5_isChannel, .static yX5_isChannel, .code yX5_isChannel cX5_isChannel 2 (some .boolean), .methodLink RX5 82 yX5_isRegister, .static yX5_isRegister, .code yX5_isRegister cX5_isRegister 1 (some .boolean), .methodLink RX5 85 yX5_usesB, .static yX5_usesB, .code yX5_usesB cX5_usesB 1 (some .boolean), .methodLink RL 22 yX5_input, .instanceMethod yX5_input, .selects RX5 yX5_input yX5_input, .code yX5_input cX5_input 3 (some .int), .methodLink RX5 115 yX5_kept0, .instanceMethod yX5_kept0]
def gw7 : List Cond := [.code yX5_kept0 cX5_kept0 2 (some .int), .methodLink RX5 119 yX5_append, .instanceMethod yX5_append, .code yX5_append cX5_append 4 (some .int), .methodLink RL 26 yX5_deliver, .instanceMethod yX5_deliver, .selects RX5 yX5_deliver yX5_deliver, .code yX5_deliver cX5_deliver 5 (some .int), .methodLink RL 31 yX5_step, .instanceMethod yX5_step, .selects RX5 yX5_step yX5_step, .code yX5_step cX5_step 3 (some .int), .methodLink RX5 123 yX5_load, .instanceMethod yX5_load, .code yX5_load cX5_load 3 none, .methodLink RX5 111 yX5_go, .instanceMethod yX5_go, .code yX5_go cX5_go 7 (some .int), .methodLink RX5 92 yX5_sends, .instanceMethod yX5_sends, .code yX5_sends cX5_sends 5 (some .boolean), .methodLink RX5 99 yX5_puts, .instanceMethod yX5_puts, .code yX5_puts cX5_puts 3 (some .boolean), .methodLink RL 35 yX5_run, .instanceMethod yX5_run, .selects RX5 yX5_run yX5_run, .code yX5_run cX5_run 4 (some .int), .methodLink RL 39 yX5_checkpoint, .instanceMethod yX5_checkpoint, .selects RX5 yX5_checkpoint yX5_checkpoint, .code yX5_checkpoint cX5_checkpoint 3 (some .int), .methodLink RL 44 yX5_crash, .instanceMethod yX5_crash, .selects RX5 yX5_crash yX5_crash, .code yX5_crash cX5_crash 2 (some .boolean), .methodLink RL 48 yX5_recover, .instanceMethod yX5_recover, .selects RX5 yX5_recover yX5_recover, .code yX5_recover cX5_recover 2 (some .int), .methodLink RL 52 yX5_register, .instanceMethod yX5_register, .selects RX5 yX5_register yX5_register, .code yX5_register cX5_register 3 (some .int), .methodLink RL 56 yX5_state, .instanceMethod yX5_state, .selects RX5 yX5_state yX5_state, .code yX5_state cX5_state 3 (some .int), .methodLink RL 60 yX5_sent, .instanceMethod yX5_sent]
def gw8 : List Cond := [.selects RX5 yX5_sent yX5_sent, .code yX5_sent cX5_sent 3 (some .int), .methodLink RL 64 yX5_kept, .instanceMethod yX5_kept, .selects RX5 yX5_kept yX5_kept, .code yX5_kept cX5_kept 2 (some .int), .methodLink RL 68 yX5_source, .instanceMethod yX5_source, .selects RX5 yX5_source yX5_source, .code yX5_source cX5_source 3 (some .int), .methodLink RL 72 yX5_waiting, .instanceMethod yX5_waiting, .selects RX5 yX5_waiting yX5_waiting, .code yX5_waiting cX5_waiting 3 (some .int), .methodLink RL 76 yX5_held, .instanceMethod yX5_held, .selects RX5 yX5_held yX5_held, .code yX5_held cX5_held 2 (some .int), .methodLink RL 81 yX5_outputs, .instanceMethod yX5_outputs, .selects RX5 yX5_outputs yX5_outputs, .code yX5_outputs cX5_outputs 1 (some .int), .methodLink RL 85 yX5_author, .instanceMethod yX5_author, .selects RX5 yX5_author yX5_author, .code yX5_author cX5_author 2 (some .int), .methodLink RL 89 yX5_output, .instanceMethod yX5_output, .selects RX5 yX5_output yX5_output, .code yX5_output cX5_output 2 (some .int), .selects RX1 yX1_slot yX1_slot, .selects RX4 yX4_channelBetween yX4_channelBetween, .selects RX4 yX4_doNext yX4_doNext, .selects RX4 yX4_perform yX4_perform, .selects RX4 yX4_trySend yX4_trySend, .selects RX4 yX4_tryReceive yX4_tryReceive, .selects RX4 yX4_tryPut yX4_tryPut, .selects RX5 yX5_kept0 yX5_kept0, .selects RX5 yX5_append yX5_append, .selects RX5 yX5_load yX5_load, .selects RX5 yX5_go yX5_go, .selects RX5 yX5_sends yX5_sends, .selects RX5 yX5_puts yX5_puts]
def gtbl : List Cond := gw0 ++ (gw1 ++ (gw2 ++ (gw3 ++ (gw4 ++ (gw5 ++ (gw6 ++ (gw7 ++ (gw8))))))))
theorem gm0 : ∀ w ∈ gw0, w ∈ gtbl := fun _ h => (List.mem_append_left _ h)
theorem gm1 : ∀ w ∈ gw1, w ∈ gtbl := fun _ h => (List.mem_append_right _ (List.mem_append_left _ h))
theorem gm2 : ∀ w ∈ gw2, w ∈ gtbl := fun _ h => (List.mem_append_right _ (List.mem_append_right _ (List.mem_append_left _ h)))
theorem gm3 : ∀ w ∈ gw3, w ∈ gtbl := fun _ h => (List.mem_append_right _ (List.mem_append_right _ (List.mem_append_right _ (List.mem_append_left _ h))))
theorem gm4 : ∀ w ∈ gw4, w ∈ gtbl := fun _ h => (List.mem_append_right _ (List.mem_append_right _ (List.mem_append_right _ (List.mem_append_right _ (List.mem_append_left _ h)))))
theorem gm5 : ∀ w ∈ gw5, w ∈ gtbl := fun _ h => (List.mem_append_right _ (List.mem_append_right _ (List.mem_append_right _ (List.mem_append_right _ (List.mem_append_right _ (List.mem_append_left _ h))))))
theorem gm6 : ∀ w ∈ gw6, w ∈ gtbl := fun _ h => (List.mem_append_right _ (List.mem_append_right _ (List.mem_append_right _ (List.mem_append_right _ (List.mem_append_right _ (List.mem_append_right _ (List.mem_append_left _ h)))))))
theorem gm7 : ∀ w ∈ gw7, w ∈ gtbl := fun _ h => (List.mem_append_right _ (List.mem_append_right _ (List.mem_append_right _ (List.mem_append_right _ (List.mem_append_right _ (List.mem_append_right _ (List.mem_append_right _ (List.mem_append_left _ h))))))))
theorem gm8 : ∀ w ∈ gw8, w ∈ gtbl := fun _ h => (List.mem_append_right _ (List.mem_append_right _ (List.mem_append_right _ (List.mem_append_right _ (List.mem_append_right _ (List.mem_append_right _ (List.mem_append_right _ (List.mem_append_right _ h))))))))
theorem k_0 : (.initialized RL : Cond) ∈ gtbl := gm0 _ (List.mem_of_getElem? (i := 0) rfl)
theorem k_1 : (.initialized RX4 : Cond) ∈ gtbl := gm0 _ (List.mem_of_getElem? (i := 1) rfl)
theorem k_2 : (.initialized RX0 : Cond) ∈ gtbl := gm0 _ (List.mem_of_getElem? (i := 2) rfl)
theorem k_3 : (.initialized RX2 : Cond) ∈ gtbl := gm0 _ (List.mem_of_getElem? (i := 3) rfl)
theorem k_4 : (.initialized RX3 : Cond) ∈ gtbl := gm0 _ (List.mem_of_getElem? (i := 4) rfl)
theorem k_5 : (.initialized RX1 : Cond) ∈ gtbl := gm0 _ (List.mem_of_getElem? (i := 5) rfl)
theorem k_6 : (.initialized RX5 : Cond) ∈ gtbl := gm0 _ (List.mem_of_getElem? (i := 6) rfl)
theorem k_7 : (.initialized RJ : Cond) ∈ gtbl := gm0 _ (List.mem_of_getElem? (i := 7) rfl)
theorem k_8 : (.initialized RY : Cond) ∈ gtbl := gm0 _ (List.mem_of_getElem? (i := 8) rfl)
theorem k_9 : (.classLink RL 7 RX4 : Cond) ∈ gtbl := gm0 _ (List.mem_of_getElem? (i := 9) rfl)
theorem k_10 : (.instantiable RX4 3 : Cond) ∈ gtbl := gm0 _ (List.mem_of_getElem? (i := 10) rfl)
theorem k_11 : (.methodLink RL 9 yX4_init : Cond) ∈ gtbl := gm0 _ (List.mem_of_getElem? (i := 11) rfl)
theorem k_12 : (.instanceMethod yX4_init : Cond) ∈ gtbl := gm0 _ (List.mem_of_getElem? (i := 12) rfl)
theorem k_13 : (.code yX4_init cX4_init 2 none : Cond) ∈ gtbl := gm0 _ (List.mem_of_getElem? (i := 13) rfl)
theorem k_14 : (.methodLink RX4 1 objectInit : Cond) ∈ gtbl := gm0 _ (List.mem_of_getElem? (i := 14) rfl)
theorem k_15 : (.instanceMethod objectInit : Cond) ∈ gtbl := gm0 _ (List.mem_of_getElem? (i := 15) rfl)
theorem k_16 : (.code objectInit ⟨#[0xb1]⟩ 1 none : Cond) ∈ gtbl := gm0 _ (List.mem_of_getElem? (i := 16) rfl)
theorem k_17 : (.classLink RX4 9 RX0 : Cond) ∈ gtbl := gm0 _ (List.mem_of_getElem? (i := 17) rfl)
theorem k_18 : (.instantiable RX0 8 : Cond) ∈ gtbl := gm0 _ (List.mem_of_getElem? (i := 18) rfl)
theorem k_19 : (.instanceMethod yX0_init : Cond) ∈ gtbl := gm0 _ (List.mem_of_getElem? (i := 19) rfl)
theorem k_20 : (.code yX0_init cX0_init 1 none : Cond) ∈ gtbl := gm0 _ (List.mem_of_getElem? (i := 20) rfl)
theorem k_21 : (.methodLink RX0 3 objectInit : Cond) ∈ gtbl := gm0 _ (List.mem_of_getElem? (i := 21) rfl)
theorem k_22 : (.classLink RX0 9 RX2 : Cond) ∈ gtbl := gm0 _ (List.mem_of_getElem? (i := 22) rfl)
theorem k_23 : (.instantiable RX2 4 : Cond) ∈ gtbl := gm0 _ (List.mem_of_getElem? (i := 23) rfl)
theorem k_24 : (.instanceMethod yX2_init : Cond) ∈ gtbl := gm0 _ (List.mem_of_getElem? (i := 24) rfl)
theorem k_25 : (.code yX2_init cX2_init 1 none : Cond) ∈ gtbl := gm0 _ (List.mem_of_getElem? (i := 25) rfl)
theorem k_26 : (.methodLink RX2 3 objectInit : Cond) ∈ gtbl := gm0 _ (List.mem_of_getElem? (i := 26) rfl)
theorem k_27 : (.fieldLink RX2 9 "ReplayGroup$Program" "ops" "[I" : Cond) ∈ gtbl := gm0 _ (List.mem_of_getElem? (i := 27) rfl)
theorem k_28 : (.fieldLink RX4 142 "ReplayGroup$Program" "ops" "[I" : Cond) ∈ gtbl := gm0 _ (List.mem_of_getElem? (i := 28) rfl)
theorem k_29 : (.fieldLink RX2 15 "ReplayGroup$Program" "firsts" "[I" : Cond) ∈ gtbl := gm0 _ (List.mem_of_getElem? (i := 29) rfl)
theorem k_30 : (.fieldLink RX4 145 "ReplayGroup$Program" "firsts" "[I" : Cond) ∈ gtbl := gm0 _ (List.mem_of_getElem? (i := 30) rfl)
theorem k_31 : (.fieldLink RX2 18 "ReplayGroup$Program" "seconds" "[I" : Cond) ∈ gtbl := gm0 _ (List.mem_of_getElem? (i := 31) rfl)
theorem k_32 : (.fieldLink RX4 148 "ReplayGroup$Program" "seconds" "[I" : Cond) ∈ gtbl := gm0 _ (List.mem_of_getElem? (i := 32) rfl)
theorem k_33 : (.fieldLink RX2 21 "ReplayGroup$Program" "length" "I" : Cond) ∈ gtbl := gm0 _ (List.mem_of_getElem? (i := 33) rfl)
theorem k_34 : (.laysFinal RX2 "ReplayGroup$Program" "ops" "[I" : Cond) ∈ gtbl := gm0 _ (List.mem_of_getElem? (i := 34) rfl)
theorem k_35 : (.laysFinal RX2 "ReplayGroup$Program" "firsts" "[I" : Cond) ∈ gtbl := gm0 _ (List.mem_of_getElem? (i := 35) rfl)
theorem k_36 : (.laysFinal RX2 "ReplayGroup$Program" "seconds" "[I" : Cond) ∈ gtbl := gm0 _ (List.mem_of_getElem? (i := 36) rfl)
theorem k_37 : (.lays RX2 "ReplayGroup$Program" "length" "I" : Cond) ∈ gtbl := gm0 _ (List.mem_of_getElem? (i := 37) rfl)
theorem k_38 : (.arrayClass .int : Cond) ∈ gtbl := gm0 _ (List.mem_of_getElem? (i := 38) rfl)
theorem k_39 : (.classLink RX0 18 RX3 : Cond) ∈ gtbl := gm0 _ (List.mem_of_getElem? (i := 39) rfl)
theorem k_40 : (.instantiable RX3 6 : Cond) ∈ gtbl := gm0 _ (List.mem_of_getElem? (i := 40) rfl)
theorem k_41 : (.instanceMethod yX3_init : Cond) ∈ gtbl := gm0 _ (List.mem_of_getElem? (i := 41) rfl)
theorem k_42 : (.code yX3_init cX3_init 1 none : Cond) ∈ gtbl := gm0 _ (List.mem_of_getElem? (i := 42) rfl)
theorem k_43 : (.methodLink RX3 3 objectInit : Cond) ∈ gtbl := gm0 _ (List.mem_of_getElem? (i := 43) rfl)
theorem k_44 : (.fieldLink RX3 9 "ReplayGroup$State" "registers" "[I" : Cond) ∈ gtbl := gm0 _ (List.mem_of_getElem? (i := 44) rfl)
theorem k_45 : (.fieldLink RX4 113 "ReplayGroup$State" "registers" "[I" : Cond) ∈ gtbl := gm0 _ (List.mem_of_getElem? (i := 45) rfl)
theorem k_46 : (.fieldLink RX3 15 "ReplayGroup$State" "sentTo" "[I" : Cond) ∈ gtbl := gm0 _ (List.mem_of_getElem? (i := 46) rfl)
theorem k_47 : (.fieldLink RX4 126 "ReplayGroup$State" "sentTo" "[I" : Cond) ∈ gtbl := gm0 _ (List.mem_of_getElem? (i := 47) rfl)
theorem k_48 : (.fieldLink RX3 24 "ReplayGroup$State" "place" "I" : Cond) ∈ gtbl := gm0 _ (List.mem_of_getElem? (i := 48) rfl)
theorem k_49 : (.fieldLink RX4 117 "ReplayGroup$State" "place" "I" : Cond) ∈ gtbl := gm0 _ (List.mem_of_getElem? (i := 49) rfl)
theorem k_50 : (.fieldLink RX3 28 "ReplayGroup$State" "age" "I" : Cond) ∈ gtbl := gm1 _ (List.mem_of_getElem? (i := 0) rfl)
theorem k_51 : (.fieldLink RX4 120 "ReplayGroup$State" "age" "I" : Cond) ∈ gtbl := gm1 _ (List.mem_of_getElem? (i := 1) rfl)
theorem k_52 : (.fieldLink RX3 31 "ReplayGroup$State" "took" "I" : Cond) ∈ gtbl := gm1 _ (List.mem_of_getElem? (i := 2) rfl)
theorem k_53 : (.fieldLink RX4 104 "ReplayGroup$State" "took" "I" : Cond) ∈ gtbl := gm1 _ (List.mem_of_getElem? (i := 3) rfl)
theorem k_54 : (.fieldLink RX3 34 "ReplayGroup$State" "putOut" "I" : Cond) ∈ gtbl := gm1 _ (List.mem_of_getElem? (i := 4) rfl)
theorem k_55 : (.fieldLink RX4 123 "ReplayGroup$State" "putOut" "I" : Cond) ∈ gtbl := gm1 _ (List.mem_of_getElem? (i := 5) rfl)
theorem k_56 : (.laysFinal RX3 "ReplayGroup$State" "registers" "[I" : Cond) ∈ gtbl := gm1 _ (List.mem_of_getElem? (i := 6) rfl)
theorem k_57 : (.laysFinal RX3 "ReplayGroup$State" "sentTo" "[I" : Cond) ∈ gtbl := gm1 _ (List.mem_of_getElem? (i := 7) rfl)
theorem k_58 : (.lays RX3 "ReplayGroup$State" "place" "I" : Cond) ∈ gtbl := gm1 _ (List.mem_of_getElem? (i := 8) rfl)
theorem k_59 : (.lays RX3 "ReplayGroup$State" "age" "I" : Cond) ∈ gtbl := gm1 _ (List.mem_of_getElem? (i := 9) rfl)
theorem k_60 : (.lays RX3 "ReplayGroup$State" "took" "I" : Cond) ∈ gtbl := gm1 _ (List.mem_of_getElem? (i := 10) rfl)
theorem k_61 : (.lays RX3 "ReplayGroup$State" "putOut" "I" : Cond) ∈ gtbl := gm1 _ (List.mem_of_getElem? (i := 11) rfl)
theorem k_62 : (.classLink RX0 28 RX1 : Cond) ∈ gtbl := gm1 _ (List.mem_of_getElem? (i := 12) rfl)
theorem k_63 : (.instantiable RX1 4 : Cond) ∈ gtbl := gm1 _ (List.mem_of_getElem? (i := 13) rfl)
theorem k_64 : (.methodLink RX0 30 yX1_init : Cond) ∈ gtbl := gm1 _ (List.mem_of_getElem? (i := 14) rfl)
theorem k_65 : (.instanceMethod yX1_init : Cond) ∈ gtbl := gm1 _ (List.mem_of_getElem? (i := 15) rfl)
theorem k_66 : (.code yX1_init cX1_init 2 none : Cond) ∈ gtbl := gm1 _ (List.mem_of_getElem? (i := 16) rfl)
theorem k_67 : (.methodLink RX1 1 objectInit : Cond) ∈ gtbl := gm1 _ (List.mem_of_getElem? (i := 17) rfl)
theorem k_68 : (.fieldLink RX1 7 "ReplayGroup$NumberedRow" "values" "[I" : Cond) ∈ gtbl := gm1 _ (List.mem_of_getElem? (i := 18) rfl)
theorem k_69 : (.fieldLink RX1 13 "ReplayGroup$NumberedRow" "origins" "[I" : Cond) ∈ gtbl := gm1 _ (List.mem_of_getElem? (i := 19) rfl)
theorem k_70 : (.fieldLink RX1 20 "ReplayGroup$NumberedRow" "gone" "I" : Cond) ∈ gtbl := gm1 _ (List.mem_of_getElem? (i := 20) rfl)
theorem k_71 : (.fieldLink RX4 77 "ReplayGroup$NumberedRow" "gone" "I" : Cond) ∈ gtbl := gm1 _ (List.mem_of_getElem? (i := 21) rfl)
theorem k_72 : (.fieldLink RX1 16 "ReplayGroup$NumberedRow" "last" "I" : Cond) ∈ gtbl := gm1 _ (List.mem_of_getElem? (i := 22) rfl)
theorem k_73 : (.fieldLink RX4 107 "ReplayGroup$NumberedRow" "last" "I" : Cond) ∈ gtbl := gm1 _ (List.mem_of_getElem? (i := 23) rfl)
theorem k_74 : (.laysFinal RX1 "ReplayGroup$NumberedRow" "values" "[I" : Cond) ∈ gtbl := gm1 _ (List.mem_of_getElem? (i := 24) rfl)
theorem k_75 : (.laysFinal RX1 "ReplayGroup$NumberedRow" "origins" "[I" : Cond) ∈ gtbl := gm1 _ (List.mem_of_getElem? (i := 25) rfl)
theorem k_76 : (.lays RX1 "ReplayGroup$NumberedRow" "gone" "I" : Cond) ∈ gtbl := gm1 _ (List.mem_of_getElem? (i := 26) rfl)
theorem k_77 : (.lays RX1 "ReplayGroup$NumberedRow" "last" "I" : Cond) ∈ gtbl := gm1 _ (List.mem_of_getElem? (i := 27) rfl)
theorem k_78 : (.fieldLink RX0 12 "ReplayGroup$Member" "program" "LReplayGroup$Program;" : Cond) ∈ gtbl := gm1 _ (List.mem_of_getElem? (i := 28) rfl)
theorem k_79 : (.fieldLink RX4 41 "ReplayGroup$Member" "program" "LReplayGroup$Program;" : Cond) ∈ gtbl := gm1 _ (List.mem_of_getElem? (i := 29) rfl)
theorem k_80 : (.fieldLink RX0 21 "ReplayGroup$Member" "current" "LReplayGroup$State;" : Cond) ∈ gtbl := gm1 _ (List.mem_of_getElem? (i := 30) rfl)
theorem k_81 : (.fieldLink RX4 95 "ReplayGroup$Member" "current" "LReplayGroup$State;" : Cond) ∈ gtbl := gm1 _ (List.mem_of_getElem? (i := 31) rfl)
theorem k_82 : (.fieldLink RX0 25 "ReplayGroup$Member" "saved" "LReplayGroup$State;" : Cond) ∈ gtbl := gm1 _ (List.mem_of_getElem? (i := 32) rfl)
theorem k_83 : (.fieldLink RX4 91 "ReplayGroup$Member" "saved" "LReplayGroup$State;" : Cond) ∈ gtbl := gm1 _ (List.mem_of_getElem? (i := 33) rfl)
theorem k_84 : (.fieldLink RX0 33 "ReplayGroup$Member" "log" "LReplayGroup$NumberedRow;" : Cond) ∈ gtbl := gm1 _ (List.mem_of_getElem? (i := 34) rfl)
theorem k_85 : (.fieldLink RX4 58 "ReplayGroup$Member" "log" "LReplayGroup$NumberedRow;" : Cond) ∈ gtbl := gm1 _ (List.mem_of_getElem? (i := 35) rfl)
theorem k_86 : (.fieldLink RX0 37 "ReplayGroup$Member" "up" "Z" : Cond) ∈ gtbl := gm1 _ (List.mem_of_getElem? (i := 36) rfl)
theorem k_87 : (.fieldLink RX4 55 "ReplayGroup$Member" "up" "Z" : Cond) ∈ gtbl := gm1 _ (List.mem_of_getElem? (i := 37) rfl)
theorem k_88 : (.fieldLink RX4 37 "ReplayGroup$Member" "began" "Z" : Cond) ∈ gtbl := gm1 _ (List.mem_of_getElem? (i := 38) rfl)
theorem k_89 : (.fieldLink RX4 168 "ReplayGroup$Member" "everPutOut" "I" : Cond) ∈ gtbl := gm1 _ (List.mem_of_getElem? (i := 39) rfl)
theorem k_90 : (.fieldLink RX4 135 "ReplayGroup$Member" "heldBack" "I" : Cond) ∈ gtbl := gm1 _ (List.mem_of_getElem? (i := 40) rfl)
theorem k_91 : (.laysFinal RX0 "ReplayGroup$Member" "program" "LReplayGroup$Program;" : Cond) ∈ gtbl := gm1 _ (List.mem_of_getElem? (i := 41) rfl)
theorem k_92 : (.laysFinal RX0 "ReplayGroup$Member" "current" "LReplayGroup$State;" : Cond) ∈ gtbl := gm1 _ (List.mem_of_getElem? (i := 42) rfl)
theorem k_93 : (.laysFinal RX0 "ReplayGroup$Member" "saved" "LReplayGroup$State;" : Cond) ∈ gtbl := gm1 _ (List.mem_of_getElem? (i := 43) rfl)
theorem k_94 : (.laysFinal RX0 "ReplayGroup$Member" "log" "LReplayGroup$NumberedRow;" : Cond) ∈ gtbl := gm1 _ (List.mem_of_getElem? (i := 44) rfl)
theorem k_95 : (.lays RX0 "ReplayGroup$Member" "up" "Z" : Cond) ∈ gtbl := gm1 _ (List.mem_of_getElem? (i := 45) rfl)
theorem k_96 : (.lays RX0 "ReplayGroup$Member" "began" "Z" : Cond) ∈ gtbl := gm1 _ (List.mem_of_getElem? (i := 46) rfl)
theorem k_97 : (.lays RX0 "ReplayGroup$Member" "everPutOut" "I" : Cond) ∈ gtbl := gm1 _ (List.mem_of_getElem? (i := 47) rfl)
theorem k_98 : (.lays RX0 "ReplayGroup$Member" "heldBack" "I" : Cond) ∈ gtbl := gm1 _ (List.mem_of_getElem? (i := 48) rfl)
theorem k_99 : (.classLink RX4 16 RX1 : Cond) ∈ gtbl := gm1 _ (List.mem_of_getElem? (i := 49) rfl)
theorem k_100 : (.methodLink RX4 22 yX1_init : Cond) ∈ gtbl := gm2 _ (List.mem_of_getElem? (i := 0) rfl)
theorem k_101 : (.fieldLink RX4 11 "ReplayGroup" "members" "[LReplayGroup$Member;" : Cond) ∈ gtbl := gm2 _ (List.mem_of_getElem? (i := 1) rfl)
theorem k_102 : (.fieldLink RX4 18 "ReplayGroup" "channels" "[LReplayGroup$NumberedRow;" : Cond) ∈ gtbl := gm2 _ (List.mem_of_getElem? (i := 2) rfl)
theorem k_103 : (.fieldLink RX4 25 "ReplayGroup" "shown" "LReplayGroup$NumberedRow;" : Cond) ∈ gtbl := gm2 _ (List.mem_of_getElem? (i := 3) rfl)
theorem k_104 : (.laysFinal RX4 "ReplayGroup" "members" "[LReplayGroup$Member;" : Cond) ∈ gtbl := gm2 _ (List.mem_of_getElem? (i := 4) rfl)
theorem k_105 : (.laysFinal RX4 "ReplayGroup" "channels" "[LReplayGroup$NumberedRow;" : Cond) ∈ gtbl := gm2 _ (List.mem_of_getElem? (i := 5) rfl)
theorem k_106 : (.laysFinal RX4 "ReplayGroup" "shown" "LReplayGroup$NumberedRow;" : Cond) ∈ gtbl := gm2 _ (List.mem_of_getElem? (i := 6) rfl)
theorem k_107 : (.methodLink RL 13 yX4_code : Cond) ∈ gtbl := gm2 _ (List.mem_of_getElem? (i := 7) rfl)
theorem k_108 : (.instanceMethod yX4_code : Cond) ∈ gtbl := gm2 _ (List.mem_of_getElem? (i := 8) rfl)
theorem k_109 : (.selects RX4 yX4_code yX4_code : Cond) ∈ gtbl := gm2 _ (List.mem_of_getElem? (i := 9) rfl)
theorem k_110 : (.code yX4_code cX4_code 6 (some .boolean) : Cond) ∈ gtbl := gm2 _ (List.mem_of_getElem? (i := 10) rfl)
theorem k_111 : (.methodLink RX4 29 yX4_isProcess : Cond) ∈ gtbl := gm2 _ (List.mem_of_getElem? (i := 11) rfl)
theorem k_112 : (.static yX4_isProcess : Cond) ∈ gtbl := gm2 _ (List.mem_of_getElem? (i := 12) rfl)
theorem k_113 : (.code yX4_isProcess cX4_isProcess 1 (some .boolean) : Cond) ∈ gtbl := gm2 _ (List.mem_of_getElem? (i := 13) rfl)
theorem k_114 : (.methodLink RX4 33 yX4_isInstruction : Cond) ∈ gtbl := gm2 _ (List.mem_of_getElem? (i := 14) rfl)
theorem k_115 : (.static yX4_isInstruction : Cond) ∈ gtbl := gm2 _ (List.mem_of_getElem? (i := 15) rfl)
theorem k_116 : (.code yX4_isInstruction cX4_isInstruction 4 (some .boolean) : Cond) ∈ gtbl := gm2 _ (List.mem_of_getElem? (i := 16) rfl)
theorem k_117 : (.methodLink RX4 110 yX4_isRegister : Cond) ∈ gtbl := gm2 _ (List.mem_of_getElem? (i := 17) rfl)
theorem k_118 : (.static yX4_isRegister : Cond) ∈ gtbl := gm2 _ (List.mem_of_getElem? (i := 18) rfl)
theorem k_119 : (.code yX4_isRegister cX4_isRegister 1 (some .boolean) : Cond) ∈ gtbl := gm2 _ (List.mem_of_getElem? (i := 19) rfl)
theorem k_120 : (.methodLink RX4 65 yX4_isChannel : Cond) ∈ gtbl := gm2 _ (List.mem_of_getElem? (i := 20) rfl)
theorem k_121 : (.static yX4_isChannel : Cond) ∈ gtbl := gm2 _ (List.mem_of_getElem? (i := 21) rfl)
theorem k_122 : (.code yX4_isChannel cX4_isChannel 2 (some .boolean) : Cond) ∈ gtbl := gm2 _ (List.mem_of_getElem? (i := 22) rfl)
theorem k_123 : (.methodLink RX4 45 yX2_isFull : Cond) ∈ gtbl := gm2 _ (List.mem_of_getElem? (i := 23) rfl)
theorem k_124 : (.instanceMethod yX2_isFull : Cond) ∈ gtbl := gm2 _ (List.mem_of_getElem? (i := 24) rfl)
theorem k_125 : (.selects RX2 yX2_isFull yX2_isFull : Cond) ∈ gtbl := gm2 _ (List.mem_of_getElem? (i := 25) rfl)
theorem k_126 : (.code yX2_isFull cX2_isFull 1 (some .boolean) : Cond) ∈ gtbl := gm2 _ (List.mem_of_getElem? (i := 26) rfl)
theorem k_127 : (.methodLink RX4 51 yX2_append : Cond) ∈ gtbl := gm2 _ (List.mem_of_getElem? (i := 27) rfl)
theorem k_128 : (.instanceMethod yX2_append : Cond) ∈ gtbl := gm2 _ (List.mem_of_getElem? (i := 28) rfl)
theorem k_129 : (.selects RX2 yX2_append yX2_append : Cond) ∈ gtbl := gm2 _ (List.mem_of_getElem? (i := 29) rfl)
theorem k_130 : (.code yX2_append cX2_append 4 none : Cond) ∈ gtbl := gm2 _ (List.mem_of_getElem? (i := 30) rfl)
theorem k_131 : (.methodLink RL 18 yX4_input : Cond) ∈ gtbl := gm2 _ (List.mem_of_getElem? (i := 31) rfl)
theorem k_132 : (.instanceMethod yX4_input : Cond) ∈ gtbl := gm2 _ (List.mem_of_getElem? (i := 32) rfl)
theorem k_133 : (.selects RX4 yX4_input yX4_input : Cond) ∈ gtbl := gm2 _ (List.mem_of_getElem? (i := 33) rfl)
theorem k_134 : (.code yX4_input cX4_input 4 (some .int) : Cond) ∈ gtbl := gm2 _ (List.mem_of_getElem? (i := 34) rfl)
theorem k_135 : (.methodLink RX4 61 yX1_isFull : Cond) ∈ gtbl := gm2 _ (List.mem_of_getElem? (i := 35) rfl)
theorem k_136 : (.instanceMethod yX1_isFull : Cond) ∈ gtbl := gm2 _ (List.mem_of_getElem? (i := 36) rfl)
theorem k_137 : (.selects RX1 yX1_isFull yX1_isFull : Cond) ∈ gtbl := gm2 _ (List.mem_of_getElem? (i := 37) rfl)
theorem k_138 : (.code yX1_isFull cX1_isFull 1 (some .boolean) : Cond) ∈ gtbl := gm2 _ (List.mem_of_getElem? (i := 38) rfl)
theorem k_139 : (.methodLink RX1 23 yX1_count : Cond) ∈ gtbl := gm2 _ (List.mem_of_getElem? (i := 39) rfl)
theorem k_140 : (.instanceMethod yX1_count : Cond) ∈ gtbl := gm2 _ (List.mem_of_getElem? (i := 40) rfl)
theorem k_141 : (.selects RX1 yX1_count yX1_count : Cond) ∈ gtbl := gm2 _ (List.mem_of_getElem? (i := 41) rfl)
theorem k_142 : (.code yX1_count cX1_count 1 (some .int) : Cond) ∈ gtbl := gm2 _ (List.mem_of_getElem? (i := 42) rfl)
theorem k_143 : (.methodLink RX4 62 yX1_append : Cond) ∈ gtbl := gm2 _ (List.mem_of_getElem? (i := 43) rfl)
theorem k_144 : (.instanceMethod yX1_append : Cond) ∈ gtbl := gm2 _ (List.mem_of_getElem? (i := 44) rfl)
theorem k_145 : (.selects RX1 yX1_append yX1_append : Cond) ∈ gtbl := gm2 _ (List.mem_of_getElem? (i := 45) rfl)
theorem k_146 : (.code yX1_append cX1_append 3 (some .int) : Cond) ∈ gtbl := gm2 _ (List.mem_of_getElem? (i := 46) rfl)
theorem k_147 : (.methodLink RX1 27 yX1_slot : Cond) ∈ gtbl := gm2 _ (List.mem_of_getElem? (i := 47) rfl)
theorem k_148 : (.instanceMethod yX1_slot : Cond) ∈ gtbl := gm2 _ (List.mem_of_getElem? (i := 48) rfl)
theorem k_149 : (.code yX1_slot cX1_slot 2 (some .int) : Cond) ∈ gtbl := gm2 _ (List.mem_of_getElem? (i := 49) rfl)
theorem k_150 : (.methodLink RX1 31 yJ_floorMod : Cond) ∈ gtbl := gm3 _ (List.mem_of_getElem? (i := 0) rfl)
theorem k_151 : (.static yJ_floorMod : Cond) ∈ gtbl := gm3 _ (List.mem_of_getElem? (i := 1) rfl)
theorem k_152 : (.code yJ_floorMod cJ_floorMod 3 (some .int) : Cond) ∈ gtbl := gm3 _ (List.mem_of_getElem? (i := 2) rfl)
theorem k_153 : (.methodLink RL 23 yX4_deliver : Cond) ∈ gtbl := gm3 _ (List.mem_of_getElem? (i := 3) rfl)
theorem k_154 : (.instanceMethod yX4_deliver : Cond) ∈ gtbl := gm3 _ (List.mem_of_getElem? (i := 4) rfl)
theorem k_155 : (.selects RX4 yX4_deliver yX4_deliver : Cond) ∈ gtbl := gm3 _ (List.mem_of_getElem? (i := 5) rfl)
theorem k_156 : (.code yX4_deliver cX4_deliver 7 (some .int) : Cond) ∈ gtbl := gm3 _ (List.mem_of_getElem? (i := 6) rfl)
theorem k_157 : (.methodLink RX4 69 yX4_channelBetween : Cond) ∈ gtbl := gm3 _ (List.mem_of_getElem? (i := 7) rfl)
theorem k_158 : (.instanceMethod yX4_channelBetween : Cond) ∈ gtbl := gm3 _ (List.mem_of_getElem? (i := 8) rfl)
theorem k_159 : (.code yX4_channelBetween cX4_channelBetween 3 (some (.object "ReplayGroup$NumberedRow")) : Cond) ∈ gtbl := gm3 _ (List.mem_of_getElem? (i := 9) rfl)
theorem k_160 : (.methodLink RX4 73 yX1_count : Cond) ∈ gtbl := gm3 _ (List.mem_of_getElem? (i := 10) rfl)
theorem k_161 : (.methodLink RX4 81 yX1_valueAt : Cond) ∈ gtbl := gm3 _ (List.mem_of_getElem? (i := 11) rfl)
theorem k_162 : (.instanceMethod yX1_valueAt : Cond) ∈ gtbl := gm3 _ (List.mem_of_getElem? (i := 12) rfl)
theorem k_163 : (.selects RX1 yX1_valueAt yX1_valueAt : Cond) ∈ gtbl := gm3 _ (List.mem_of_getElem? (i := 13) rfl)
theorem k_164 : (.code yX1_valueAt cX1_valueAt 2 (some .int) : Cond) ∈ gtbl := gm3 _ (List.mem_of_getElem? (i := 14) rfl)
theorem k_165 : (.methodLink RX4 85 yX1_dropThrough : Cond) ∈ gtbl := gm3 _ (List.mem_of_getElem? (i := 15) rfl)
theorem k_166 : (.instanceMethod yX1_dropThrough : Cond) ∈ gtbl := gm3 _ (List.mem_of_getElem? (i := 16) rfl)
theorem k_167 : (.selects RX1 yX1_dropThrough yX1_dropThrough : Cond) ∈ gtbl := gm3 _ (List.mem_of_getElem? (i := 17) rfl)
theorem k_168 : (.code yX1_dropThrough cX1_dropThrough 3 (some .int) : Cond) ∈ gtbl := gm3 _ (List.mem_of_getElem? (i := 18) rfl)
theorem k_169 : (.methodLink RL 27 yX4_step : Cond) ∈ gtbl := gm3 _ (List.mem_of_getElem? (i := 19) rfl)
theorem k_170 : (.instanceMethod yX4_step : Cond) ∈ gtbl := gm3 _ (List.mem_of_getElem? (i := 20) rfl)
theorem k_171 : (.selects RX4 yX4_step yX4_step : Cond) ∈ gtbl := gm3 _ (List.mem_of_getElem? (i := 21) rfl)
theorem k_172 : (.code yX4_step cX4_step 2 (some .int) : Cond) ∈ gtbl := gm3 _ (List.mem_of_getElem? (i := 22) rfl)
theorem k_173 : (.methodLink RX4 88 yX4_doNext : Cond) ∈ gtbl := gm3 _ (List.mem_of_getElem? (i := 23) rfl)
theorem k_174 : (.instanceMethod yX4_doNext : Cond) ∈ gtbl := gm3 _ (List.mem_of_getElem? (i := 24) rfl)
theorem k_175 : (.code yX4_doNext cX4_doNext 9 (some .int) : Cond) ∈ gtbl := gm3 _ (List.mem_of_getElem? (i := 25) rfl)
theorem k_176 : (.methodLink RX4 141 yX2_has : Cond) ∈ gtbl := gm3 _ (List.mem_of_getElem? (i := 26) rfl)
theorem k_177 : (.instanceMethod yX2_has : Cond) ∈ gtbl := gm3 _ (List.mem_of_getElem? (i := 27) rfl)
theorem k_178 : (.selects RX2 yX2_has yX2_has : Cond) ∈ gtbl := gm3 _ (List.mem_of_getElem? (i := 28) rfl)
theorem k_179 : (.code yX2_has cX2_has 2 (some .boolean) : Cond) ∈ gtbl := gm3 _ (List.mem_of_getElem? (i := 29) rfl)
theorem k_180 : (.methodLink RX4 151 yX4_placeAfter : Cond) ∈ gtbl := gm3 _ (List.mem_of_getElem? (i := 30) rfl)
theorem k_181 : (.static yX4_placeAfter : Cond) ∈ gtbl := gm3 _ (List.mem_of_getElem? (i := 31) rfl)
theorem k_182 : (.code yX4_placeAfter cX4_placeAfter 4 (some .int) : Cond) ∈ gtbl := gm3 _ (List.mem_of_getElem? (i := 32) rfl)
theorem k_183 : (.methodLink RX4 155 yX4_perform : Cond) ∈ gtbl := gm3 _ (List.mem_of_getElem? (i := 33) rfl)
theorem k_184 : (.instanceMethod yX4_perform : Cond) ∈ gtbl := gm3 _ (List.mem_of_getElem? (i := 34) rfl)
theorem k_185 : (.code yX4_perform cX4_perform 6 (some .boolean) : Cond) ∈ gtbl := gm3 _ (List.mem_of_getElem? (i := 35) rfl)
theorem k_186 : (.methodLink RX4 158 yX4_trySend : Cond) ∈ gtbl := gm3 _ (List.mem_of_getElem? (i := 36) rfl)
theorem k_187 : (.instanceMethod yX4_trySend : Cond) ∈ gtbl := gm3 _ (List.mem_of_getElem? (i := 37) rfl)
theorem k_188 : (.code yX4_trySend cX4_trySend 6 (some .boolean) : Cond) ∈ gtbl := gm3 _ (List.mem_of_getElem? (i := 38) rfl)
theorem k_189 : (.methodLink RX4 162 yX4_tryReceive : Cond) ∈ gtbl := gm3 _ (List.mem_of_getElem? (i := 39) rfl)
theorem k_190 : (.instanceMethod yX4_tryReceive : Cond) ∈ gtbl := gm3 _ (List.mem_of_getElem? (i := 40) rfl)
theorem k_191 : (.code yX4_tryReceive cX4_tryReceive 6 (some .boolean) : Cond) ∈ gtbl := gm3 _ (List.mem_of_getElem? (i := 41) rfl)
theorem k_192 : (.methodLink RX4 129 yX1_has : Cond) ∈ gtbl := gm3 _ (List.mem_of_getElem? (i := 42) rfl)
theorem k_193 : (.instanceMethod yX1_has : Cond) ∈ gtbl := gm3 _ (List.mem_of_getElem? (i := 43) rfl)
theorem k_194 : (.selects RX1 yX1_has yX1_has : Cond) ∈ gtbl := gm3 _ (List.mem_of_getElem? (i := 44) rfl)
theorem k_195 : (.code yX1_has cX1_has 2 (some .boolean) : Cond) ∈ gtbl := gm3 _ (List.mem_of_getElem? (i := 45) rfl)
theorem k_196 : (.methodLink RX4 132 yX1_originAt : Cond) ∈ gtbl := gm3 _ (List.mem_of_getElem? (i := 46) rfl)
theorem k_197 : (.instanceMethod yX1_originAt : Cond) ∈ gtbl := gm3 _ (List.mem_of_getElem? (i := 47) rfl)
theorem k_198 : (.selects RX1 yX1_originAt yX1_originAt : Cond) ∈ gtbl := gm3 _ (List.mem_of_getElem? (i := 48) rfl)
theorem k_199 : (.code yX1_originAt cX1_originAt 2 (some .int) : Cond) ∈ gtbl := gm3 _ (List.mem_of_getElem? (i := 49) rfl)
theorem k_200 : (.methodLink RX4 165 yX4_tryPut : Cond) ∈ gtbl := gm4 _ (List.mem_of_getElem? (i := 0) rfl)
theorem k_201 : (.instanceMethod yX4_tryPut : Cond) ∈ gtbl := gm4 _ (List.mem_of_getElem? (i := 1) rfl)
theorem k_202 : (.code yX4_tryPut cX4_tryPut 4 (some .boolean) : Cond) ∈ gtbl := gm4 _ (List.mem_of_getElem? (i := 2) rfl)
theorem k_203 : (.methodLink RL 32 yX4_run : Cond) ∈ gtbl := gm4 _ (List.mem_of_getElem? (i := 3) rfl)
theorem k_204 : (.instanceMethod yX4_run : Cond) ∈ gtbl := gm4 _ (List.mem_of_getElem? (i := 4) rfl)
theorem k_205 : (.selects RX4 yX4_run yX4_run : Cond) ∈ gtbl := gm4 _ (List.mem_of_getElem? (i := 5) rfl)
theorem k_206 : (.code yX4_run cX4_run 4 (some .int) : Cond) ∈ gtbl := gm4 _ (List.mem_of_getElem? (i := 6) rfl)
theorem k_207 : (.methodLink RL 36 yX4_checkpoint : Cond) ∈ gtbl := gm4 _ (List.mem_of_getElem? (i := 7) rfl)
theorem k_208 : (.instanceMethod yX4_checkpoint : Cond) ∈ gtbl := gm4 _ (List.mem_of_getElem? (i := 8) rfl)
theorem k_209 : (.selects RX4 yX4_checkpoint yX4_checkpoint : Cond) ∈ gtbl := gm4 _ (List.mem_of_getElem? (i := 9) rfl)
theorem k_210 : (.code yX4_checkpoint cX4_checkpoint 3 (some .int) : Cond) ∈ gtbl := gm4 _ (List.mem_of_getElem? (i := 10) rfl)
theorem k_211 : (.methodLink RX4 98 yX3_copyFrom : Cond) ∈ gtbl := gm4 _ (List.mem_of_getElem? (i := 11) rfl)
theorem k_212 : (.instanceMethod yX3_copyFrom : Cond) ∈ gtbl := gm4 _ (List.mem_of_getElem? (i := 12) rfl)
theorem k_213 : (.selects RX3 yX3_copyFrom yX3_copyFrom : Cond) ∈ gtbl := gm4 _ (List.mem_of_getElem? (i := 13) rfl)
theorem k_214 : (.code yX3_copyFrom cX3_copyFrom 2 none : Cond) ∈ gtbl := gm4 _ (List.mem_of_getElem? (i := 14) rfl)
theorem k_215 : (.methodLink RX3 18 arraycopyName : Cond) ∈ gtbl := gm4 _ (List.mem_of_getElem? (i := 15) rfl)
theorem k_216 : (.static arraycopyName : Cond) ∈ gtbl := gm4 _ (List.mem_of_getElem? (i := 16) rfl)
theorem k_217 : (.native arraycopyName : Cond) ∈ gtbl := gm4 _ (List.mem_of_getElem? (i := 17) rfl)
theorem k_218 : (.methodLink RL 40 yX4_crash : Cond) ∈ gtbl := gm4 _ (List.mem_of_getElem? (i := 18) rfl)
theorem k_219 : (.instanceMethod yX4_crash : Cond) ∈ gtbl := gm4 _ (List.mem_of_getElem? (i := 19) rfl)
theorem k_220 : (.selects RX4 yX4_crash yX4_crash : Cond) ∈ gtbl := gm4 _ (List.mem_of_getElem? (i := 20) rfl)
theorem k_221 : (.code yX4_crash cX4_crash 2 (some .boolean) : Cond) ∈ gtbl := gm4 _ (List.mem_of_getElem? (i := 21) rfl)
theorem k_222 : (.methodLink RL 45 yX4_recover : Cond) ∈ gtbl := gm4 _ (List.mem_of_getElem? (i := 22) rfl)
theorem k_223 : (.instanceMethod yX4_recover : Cond) ∈ gtbl := gm4 _ (List.mem_of_getElem? (i := 23) rfl)
theorem k_224 : (.selects RX4 yX4_recover yX4_recover : Cond) ∈ gtbl := gm4 _ (List.mem_of_getElem? (i := 24) rfl)
theorem k_225 : (.code yX4_recover cX4_recover 3 (some .int) : Cond) ∈ gtbl := gm4 _ (List.mem_of_getElem? (i := 25) rfl)
theorem k_226 : (.methodLink RL 49 yX4_register : Cond) ∈ gtbl := gm4 _ (List.mem_of_getElem? (i := 26) rfl)
theorem k_227 : (.instanceMethod yX4_register : Cond) ∈ gtbl := gm4 _ (List.mem_of_getElem? (i := 27) rfl)
theorem k_228 : (.selects RX4 yX4_register yX4_register : Cond) ∈ gtbl := gm4 _ (List.mem_of_getElem? (i := 28) rfl)
theorem k_229 : (.code yX4_register cX4_register 3 (some .int) : Cond) ∈ gtbl := gm4 _ (List.mem_of_getElem? (i := 29) rfl)
theorem k_230 : (.methodLink RL 53 yX4_state : Cond) ∈ gtbl := gm4 _ (List.mem_of_getElem? (i := 30) rfl)
theorem k_231 : (.instanceMethod yX4_state : Cond) ∈ gtbl := gm4 _ (List.mem_of_getElem? (i := 31) rfl)
theorem k_232 : (.selects RX4 yX4_state yX4_state : Cond) ∈ gtbl := gm4 _ (List.mem_of_getElem? (i := 32) rfl)
theorem k_233 : (.code yX4_state cX4_state 4 (some .int) : Cond) ∈ gtbl := gm4 _ (List.mem_of_getElem? (i := 33) rfl)
theorem k_234 : (.methodLink RL 57 yX4_sent : Cond) ∈ gtbl := gm4 _ (List.mem_of_getElem? (i := 34) rfl)
theorem k_235 : (.instanceMethod yX4_sent : Cond) ∈ gtbl := gm4 _ (List.mem_of_getElem? (i := 35) rfl)
theorem k_236 : (.selects RX4 yX4_sent yX4_sent : Cond) ∈ gtbl := gm4 _ (List.mem_of_getElem? (i := 36) rfl)
theorem k_237 : (.code yX4_sent cX4_sent 3 (some .int) : Cond) ∈ gtbl := gm4 _ (List.mem_of_getElem? (i := 37) rfl)
theorem k_238 : (.methodLink RL 61 yX4_kept : Cond) ∈ gtbl := gm4 _ (List.mem_of_getElem? (i := 38) rfl)
theorem k_239 : (.instanceMethod yX4_kept : Cond) ∈ gtbl := gm4 _ (List.mem_of_getElem? (i := 39) rfl)
theorem k_240 : (.selects RX4 yX4_kept yX4_kept : Cond) ∈ gtbl := gm4 _ (List.mem_of_getElem? (i := 40) rfl)
theorem k_241 : (.code yX4_kept cX4_kept 2 (some .int) : Cond) ∈ gtbl := gm4 _ (List.mem_of_getElem? (i := 41) rfl)
theorem k_242 : (.methodLink RL 65 yX4_source : Cond) ∈ gtbl := gm4 _ (List.mem_of_getElem? (i := 42) rfl)
theorem k_243 : (.instanceMethod yX4_source : Cond) ∈ gtbl := gm4 _ (List.mem_of_getElem? (i := 43) rfl)
theorem k_244 : (.selects RX4 yX4_source yX4_source : Cond) ∈ gtbl := gm4 _ (List.mem_of_getElem? (i := 44) rfl)
theorem k_245 : (.code yX4_source cX4_source 4 (some .int) : Cond) ∈ gtbl := gm4 _ (List.mem_of_getElem? (i := 45) rfl)
theorem k_246 : (.methodLink RL 69 yX4_waiting : Cond) ∈ gtbl := gm4 _ (List.mem_of_getElem? (i := 46) rfl)
theorem k_247 : (.instanceMethod yX4_waiting : Cond) ∈ gtbl := gm4 _ (List.mem_of_getElem? (i := 47) rfl)
theorem k_248 : (.selects RX4 yX4_waiting yX4_waiting : Cond) ∈ gtbl := gm4 _ (List.mem_of_getElem? (i := 48) rfl)
theorem k_249 : (.code yX4_waiting cX4_waiting 3 (some .int) : Cond) ∈ gtbl := gm4 _ (List.mem_of_getElem? (i := 49) rfl)
theorem k_250 : (.methodLink RL 73 yX4_held : Cond) ∈ gtbl := gm5 _ (List.mem_of_getElem? (i := 0) rfl)
theorem k_251 : (.instanceMethod yX4_held : Cond) ∈ gtbl := gm5 _ (List.mem_of_getElem? (i := 1) rfl)
theorem k_252 : (.selects RX4 yX4_held yX4_held : Cond) ∈ gtbl := gm5 _ (List.mem_of_getElem? (i := 2) rfl)
theorem k_253 : (.code yX4_held cX4_held 2 (some .int) : Cond) ∈ gtbl := gm5 _ (List.mem_of_getElem? (i := 3) rfl)
theorem k_254 : (.methodLink RL 77 yX4_outputs : Cond) ∈ gtbl := gm5 _ (List.mem_of_getElem? (i := 4) rfl)
theorem k_255 : (.instanceMethod yX4_outputs : Cond) ∈ gtbl := gm5 _ (List.mem_of_getElem? (i := 5) rfl)
theorem k_256 : (.selects RX4 yX4_outputs yX4_outputs : Cond) ∈ gtbl := gm5 _ (List.mem_of_getElem? (i := 6) rfl)
theorem k_257 : (.code yX4_outputs cX4_outputs 1 (some .int) : Cond) ∈ gtbl := gm5 _ (List.mem_of_getElem? (i := 7) rfl)
theorem k_258 : (.methodLink RL 82 yX4_author : Cond) ∈ gtbl := gm5 _ (List.mem_of_getElem? (i := 8) rfl)
theorem k_259 : (.instanceMethod yX4_author : Cond) ∈ gtbl := gm5 _ (List.mem_of_getElem? (i := 9) rfl)
theorem k_260 : (.selects RX4 yX4_author yX4_author : Cond) ∈ gtbl := gm5 _ (List.mem_of_getElem? (i := 10) rfl)
theorem k_261 : (.code yX4_author cX4_author 3 (some .int) : Cond) ∈ gtbl := gm5 _ (List.mem_of_getElem? (i := 11) rfl)
theorem k_262 : (.methodLink RX4 138 yX4_outputNumber : Cond) ∈ gtbl := gm5 _ (List.mem_of_getElem? (i := 12) rfl)
theorem k_263 : (.static yX4_outputNumber : Cond) ∈ gtbl := gm5 _ (List.mem_of_getElem? (i := 13) rfl)
theorem k_264 : (.code yX4_outputNumber cX4_outputNumber 1 (some .int) : Cond) ∈ gtbl := gm5 _ (List.mem_of_getElem? (i := 14) rfl)
theorem k_265 : (.methodLink RL 86 yX4_output : Cond) ∈ gtbl := gm5 _ (List.mem_of_getElem? (i := 15) rfl)
theorem k_266 : (.instanceMethod yX4_output : Cond) ∈ gtbl := gm5 _ (List.mem_of_getElem? (i := 16) rfl)
theorem k_267 : (.selects RX4 yX4_output yX4_output : Cond) ∈ gtbl := gm5 _ (List.mem_of_getElem? (i := 17) rfl)
theorem k_268 : (.code yX4_output cX4_output 3 (some .int) : Cond) ∈ gtbl := gm5 _ (List.mem_of_getElem? (i := 18) rfl)
theorem k_269 : (.classLink RL 10 RX5 : Cond) ∈ gtbl := gm5 _ (List.mem_of_getElem? (i := 19) rfl)
theorem k_270 : (.instantiable RX5 26 : Cond) ∈ gtbl := gm5 _ (List.mem_of_getElem? (i := 20) rfl)
theorem k_271 : (.methodLink RL 12 yX5_init : Cond) ∈ gtbl := gm5 _ (List.mem_of_getElem? (i := 21) rfl)
theorem k_272 : (.instanceMethod yX5_init : Cond) ∈ gtbl := gm5 _ (List.mem_of_getElem? (i := 22) rfl)
theorem k_273 : (.code yX5_init cX5_init 1 none : Cond) ∈ gtbl := gm5 _ (List.mem_of_getElem? (i := 23) rfl)
theorem k_274 : (.methodLink RX5 1 objectInit : Cond) ∈ gtbl := gm5 _ (List.mem_of_getElem? (i := 24) rfl)
theorem k_275 : (.fieldLink RX5 7 "ReplayGroupModel" "length" "[I" : Cond) ∈ gtbl := gm5 _ (List.mem_of_getElem? (i := 25) rfl)
theorem k_276 : (.fieldLink RX5 13 "ReplayGroupModel" "ops" "[I" : Cond) ∈ gtbl := gm5 _ (List.mem_of_getElem? (i := 26) rfl)
theorem k_277 : (.fieldLink RX5 16 "ReplayGroupModel" "as" "[I" : Cond) ∈ gtbl := gm5 _ (List.mem_of_getElem? (i := 27) rfl)
theorem k_278 : (.fieldLink RX5 19 "ReplayGroupModel" "bs" "[I" : Cond) ∈ gtbl := gm5 _ (List.mem_of_getElem? (i := 28) rfl)
theorem k_279 : (.fieldLink RX5 22 "ReplayGroupModel" "down" "[Z" : Cond) ∈ gtbl := gm5 _ (List.mem_of_getElem? (i := 29) rfl)
theorem k_280 : (.fieldLink RX5 26 "ReplayGroupModel" "age" "[I" : Cond) ∈ gtbl := gm5 _ (List.mem_of_getElem? (i := 30) rfl)
theorem k_281 : (.fieldLink RX5 29 "ReplayGroupModel" "savedAge" "[I" : Cond) ∈ gtbl := gm5 _ (List.mem_of_getElem? (i := 31) rfl)
theorem k_282 : (.fieldLink RX5 32 "ReplayGroupModel" "savedTook" "[I" : Cond) ∈ gtbl := gm5 _ (List.mem_of_getElem? (i := 32) rfl)
theorem k_283 : (.fieldLink RX5 35 "ReplayGroupModel" "began" "[Z" : Cond) ∈ gtbl := gm5 _ (List.mem_of_getElem? (i := 33) rfl)
theorem k_284 : (.fieldLink RX5 38 "ReplayGroupModel" "heldBack" "[I" : Cond) ∈ gtbl := gm5 _ (List.mem_of_getElem? (i := 34) rfl)
theorem k_285 : (.fieldLink RX5 41 "ReplayGroupModel" "total" "[I" : Cond) ∈ gtbl := gm5 _ (List.mem_of_getElem? (i := 35) rfl)
theorem k_286 : (.fieldLink RX5 44 "ReplayGroupModel" "log" "[I" : Cond) ∈ gtbl := gm5 _ (List.mem_of_getElem? (i := 36) rfl)
theorem k_287 : (.fieldLink RX5 47 "ReplayGroupModel" "origin" "[I" : Cond) ∈ gtbl := gm5 _ (List.mem_of_getElem? (i := 37) rfl)
theorem k_288 : (.fieldLink RX5 50 "ReplayGroupModel" "sentEver" "[I" : Cond) ∈ gtbl := gm5 _ (List.mem_of_getElem? (i := 38) rfl)
theorem k_289 : (.fieldLink RX5 53 "ReplayGroupModel" "delivered" "[I" : Cond) ∈ gtbl := gm5 _ (List.mem_of_getElem? (i := 39) rfl)
theorem k_290 : (.fieldLink RX5 56 "ReplayGroupModel" "inChannel" "[I" : Cond) ∈ gtbl := gm5 _ (List.mem_of_getElem? (i := 40) rfl)
theorem k_291 : (.fieldLink RX5 108 "ReplayGroupModel" "outputs" "I" : Cond) ∈ gtbl := gm5 _ (List.mem_of_getElem? (i := 41) rfl)
theorem k_292 : (.fieldLink RX5 59 "ReplayGroupModel" "outputOf" "[I" : Cond) ∈ gtbl := gm5 _ (List.mem_of_getElem? (i := 42) rfl)
theorem k_293 : (.fieldLink RX5 62 "ReplayGroupModel" "outputValue" "[I" : Cond) ∈ gtbl := gm5 _ (List.mem_of_getElem? (i := 43) rfl)
theorem k_294 : (.fieldLink RX5 65 "ReplayGroupModel" "putEver" "[I" : Cond) ∈ gtbl := gm5 _ (List.mem_of_getElem? (i := 44) rfl)
theorem k_295 : (.fieldLink RX5 68 "ReplayGroupModel" "reg" "[I" : Cond) ∈ gtbl := gm5 _ (List.mem_of_getElem? (i := 45) rfl)
theorem k_296 : (.fieldLink RX5 71 "ReplayGroupModel" "sent" "[I" : Cond) ∈ gtbl := gm5 _ (List.mem_of_getElem? (i := 46) rfl)
theorem k_297 : (.fieldLink RX5 88 "ReplayGroupModel" "place" "I" : Cond) ∈ gtbl := gm5 _ (List.mem_of_getElem? (i := 47) rfl)
theorem k_298 : (.fieldLink RX5 96 "ReplayGroupModel" "took" "I" : Cond) ∈ gtbl := gm5 _ (List.mem_of_getElem? (i := 48) rfl)
theorem k_299 : (.fieldLink RX5 102 "ReplayGroupModel" "put" "I" : Cond) ∈ gtbl := gm5 _ (List.mem_of_getElem? (i := 49) rfl)
theorem k_300 : (.fieldLink RX5 105 "ReplayGroupModel" "done" "I" : Cond) ∈ gtbl := gm6 _ (List.mem_of_getElem? (i := 0) rfl)
theorem k_301 : (.laysFinal RX5 "ReplayGroupModel" "length" "[I" : Cond) ∈ gtbl := gm6 _ (List.mem_of_getElem? (i := 1) rfl)
theorem k_302 : (.laysFinal RX5 "ReplayGroupModel" "ops" "[I" : Cond) ∈ gtbl := gm6 _ (List.mem_of_getElem? (i := 2) rfl)
theorem k_303 : (.laysFinal RX5 "ReplayGroupModel" "as" "[I" : Cond) ∈ gtbl := gm6 _ (List.mem_of_getElem? (i := 3) rfl)
theorem k_304 : (.laysFinal RX5 "ReplayGroupModel" "bs" "[I" : Cond) ∈ gtbl := gm6 _ (List.mem_of_getElem? (i := 4) rfl)
theorem k_305 : (.laysFinal RX5 "ReplayGroupModel" "down" "[Z" : Cond) ∈ gtbl := gm6 _ (List.mem_of_getElem? (i := 5) rfl)
theorem k_306 : (.laysFinal RX5 "ReplayGroupModel" "age" "[I" : Cond) ∈ gtbl := gm6 _ (List.mem_of_getElem? (i := 6) rfl)
theorem k_307 : (.laysFinal RX5 "ReplayGroupModel" "savedAge" "[I" : Cond) ∈ gtbl := gm6 _ (List.mem_of_getElem? (i := 7) rfl)
theorem k_308 : (.laysFinal RX5 "ReplayGroupModel" "savedTook" "[I" : Cond) ∈ gtbl := gm6 _ (List.mem_of_getElem? (i := 8) rfl)
theorem k_309 : (.laysFinal RX5 "ReplayGroupModel" "began" "[Z" : Cond) ∈ gtbl := gm6 _ (List.mem_of_getElem? (i := 9) rfl)
theorem k_310 : (.laysFinal RX5 "ReplayGroupModel" "heldBack" "[I" : Cond) ∈ gtbl := gm6 _ (List.mem_of_getElem? (i := 10) rfl)
theorem k_311 : (.laysFinal RX5 "ReplayGroupModel" "total" "[I" : Cond) ∈ gtbl := gm6 _ (List.mem_of_getElem? (i := 11) rfl)
theorem k_312 : (.laysFinal RX5 "ReplayGroupModel" "log" "[I" : Cond) ∈ gtbl := gm6 _ (List.mem_of_getElem? (i := 12) rfl)
theorem k_313 : (.laysFinal RX5 "ReplayGroupModel" "origin" "[I" : Cond) ∈ gtbl := gm6 _ (List.mem_of_getElem? (i := 13) rfl)
theorem k_314 : (.laysFinal RX5 "ReplayGroupModel" "sentEver" "[I" : Cond) ∈ gtbl := gm6 _ (List.mem_of_getElem? (i := 14) rfl)
theorem k_315 : (.laysFinal RX5 "ReplayGroupModel" "delivered" "[I" : Cond) ∈ gtbl := gm6 _ (List.mem_of_getElem? (i := 15) rfl)
theorem k_316 : (.laysFinal RX5 "ReplayGroupModel" "inChannel" "[I" : Cond) ∈ gtbl := gm6 _ (List.mem_of_getElem? (i := 16) rfl)
theorem k_317 : (.lays RX5 "ReplayGroupModel" "outputs" "I" : Cond) ∈ gtbl := gm6 _ (List.mem_of_getElem? (i := 17) rfl)
theorem k_318 : (.laysFinal RX5 "ReplayGroupModel" "outputOf" "[I" : Cond) ∈ gtbl := gm6 _ (List.mem_of_getElem? (i := 18) rfl)
theorem k_319 : (.laysFinal RX5 "ReplayGroupModel" "outputValue" "[I" : Cond) ∈ gtbl := gm6 _ (List.mem_of_getElem? (i := 19) rfl)
theorem k_320 : (.laysFinal RX5 "ReplayGroupModel" "putEver" "[I" : Cond) ∈ gtbl := gm6 _ (List.mem_of_getElem? (i := 20) rfl)
theorem k_321 : (.laysFinal RX5 "ReplayGroupModel" "reg" "[I" : Cond) ∈ gtbl := gm6 _ (List.mem_of_getElem? (i := 21) rfl)
theorem k_322 : (.laysFinal RX5 "ReplayGroupModel" "sent" "[I" : Cond) ∈ gtbl := gm6 _ (List.mem_of_getElem? (i := 22) rfl)
theorem k_323 : (.lays RX5 "ReplayGroupModel" "place" "I" : Cond) ∈ gtbl := gm6 _ (List.mem_of_getElem? (i := 23) rfl)
theorem k_324 : (.lays RX5 "ReplayGroupModel" "took" "I" : Cond) ∈ gtbl := gm6 _ (List.mem_of_getElem? (i := 24) rfl)
theorem k_325 : (.lays RX5 "ReplayGroupModel" "put" "I" : Cond) ∈ gtbl := gm6 _ (List.mem_of_getElem? (i := 25) rfl)
theorem k_326 : (.lays RX5 "ReplayGroupModel" "done" "I" : Cond) ∈ gtbl := gm6 _ (List.mem_of_getElem? (i := 26) rfl)
theorem k_327 : (.arrayClass .boolean : Cond) ∈ gtbl := gm6 _ (List.mem_of_getElem? (i := 27) rfl)
theorem k_328 : (.methodLink RL 17 yX5_code : Cond) ∈ gtbl := gm6 _ (List.mem_of_getElem? (i := 28) rfl)
theorem k_329 : (.instanceMethod yX5_code : Cond) ∈ gtbl := gm6 _ (List.mem_of_getElem? (i := 29) rfl)
theorem k_330 : (.selects RX5 yX5_code yX5_code : Cond) ∈ gtbl := gm6 _ (List.mem_of_getElem? (i := 30) rfl)
theorem k_331 : (.code yX5_code cX5_code 7 (some .boolean) : Cond) ∈ gtbl := gm6 _ (List.mem_of_getElem? (i := 31) rfl)
theorem k_332 : (.methodLink RX5 74 yX5_isProcess : Cond) ∈ gtbl := gm6 _ (List.mem_of_getElem? (i := 32) rfl)
theorem k_333 : (.static yX5_isProcess : Cond) ∈ gtbl := gm6 _ (List.mem_of_getElem? (i := 33) rfl)
theorem k_334 : (.code yX5_isProcess cX5_isProcess 1 (some .boolean) : Cond) ∈ gtbl := gm6 _ (List.mem_of_getElem? (i := 34) rfl)
theorem k_335 : (.methodLink RX5 78 yX5_isChannel : Cond) ∈ gtbl := gm6 _ (List.mem_of_getElem? (i := 35) rfl)
theorem k_336 : (.static yX5_isChannel : Cond) ∈ gtbl := gm6 _ (List.mem_of_getElem? (i := 36) rfl)
theorem k_337 : (.code yX5_isChannel cX5_isChannel 2 (some .boolean) : Cond) ∈ gtbl := gm6 _ (List.mem_of_getElem? (i := 37) rfl)
theorem k_338 : (.methodLink RX5 82 yX5_isRegister : Cond) ∈ gtbl := gm6 _ (List.mem_of_getElem? (i := 38) rfl)
theorem k_339 : (.static yX5_isRegister : Cond) ∈ gtbl := gm6 _ (List.mem_of_getElem? (i := 39) rfl)
theorem k_340 : (.code yX5_isRegister cX5_isRegister 1 (some .boolean) : Cond) ∈ gtbl := gm6 _ (List.mem_of_getElem? (i := 40) rfl)
theorem k_341 : (.methodLink RX5 85 yX5_usesB : Cond) ∈ gtbl := gm6 _ (List.mem_of_getElem? (i := 41) rfl)
theorem k_342 : (.static yX5_usesB : Cond) ∈ gtbl := gm6 _ (List.mem_of_getElem? (i := 42) rfl)
theorem k_343 : (.code yX5_usesB cX5_usesB 1 (some .boolean) : Cond) ∈ gtbl := gm6 _ (List.mem_of_getElem? (i := 43) rfl)
theorem k_344 : (.methodLink RL 22 yX5_input : Cond) ∈ gtbl := gm6 _ (List.mem_of_getElem? (i := 44) rfl)
theorem k_345 : (.instanceMethod yX5_input : Cond) ∈ gtbl := gm6 _ (List.mem_of_getElem? (i := 45) rfl)
theorem k_346 : (.selects RX5 yX5_input yX5_input : Cond) ∈ gtbl := gm6 _ (List.mem_of_getElem? (i := 46) rfl)
theorem k_347 : (.code yX5_input cX5_input 3 (some .int) : Cond) ∈ gtbl := gm6 _ (List.mem_of_getElem? (i := 47) rfl)
theorem k_348 : (.methodLink RX5 115 yX5_kept0 : Cond) ∈ gtbl := gm6 _ (List.mem_of_getElem? (i := 48) rfl)
theorem k_349 : (.instanceMethod yX5_kept0 : Cond) ∈ gtbl := gm6 _ (List.mem_of_getElem? (i := 49) rfl)
theorem k_350 : (.code yX5_kept0 cX5_kept0 2 (some .int) : Cond) ∈ gtbl := gm7 _ (List.mem_of_getElem? (i := 0) rfl)
theorem k_351 : (.methodLink RX5 119 yX5_append : Cond) ∈ gtbl := gm7 _ (List.mem_of_getElem? (i := 1) rfl)
theorem k_352 : (.instanceMethod yX5_append : Cond) ∈ gtbl := gm7 _ (List.mem_of_getElem? (i := 2) rfl)
theorem k_353 : (.code yX5_append cX5_append 4 (some .int) : Cond) ∈ gtbl := gm7 _ (List.mem_of_getElem? (i := 3) rfl)
theorem k_354 : (.methodLink RL 26 yX5_deliver : Cond) ∈ gtbl := gm7 _ (List.mem_of_getElem? (i := 4) rfl)
theorem k_355 : (.instanceMethod yX5_deliver : Cond) ∈ gtbl := gm7 _ (List.mem_of_getElem? (i := 5) rfl)
theorem k_356 : (.selects RX5 yX5_deliver yX5_deliver : Cond) ∈ gtbl := gm7 _ (List.mem_of_getElem? (i := 6) rfl)
theorem k_357 : (.code yX5_deliver cX5_deliver 5 (some .int) : Cond) ∈ gtbl := gm7 _ (List.mem_of_getElem? (i := 7) rfl)
theorem k_358 : (.methodLink RL 31 yX5_step : Cond) ∈ gtbl := gm7 _ (List.mem_of_getElem? (i := 8) rfl)
theorem k_359 : (.instanceMethod yX5_step : Cond) ∈ gtbl := gm7 _ (List.mem_of_getElem? (i := 9) rfl)
theorem k_360 : (.selects RX5 yX5_step yX5_step : Cond) ∈ gtbl := gm7 _ (List.mem_of_getElem? (i := 10) rfl)
theorem k_361 : (.code yX5_step cX5_step 3 (some .int) : Cond) ∈ gtbl := gm7 _ (List.mem_of_getElem? (i := 11) rfl)
theorem k_362 : (.methodLink RX5 123 yX5_load : Cond) ∈ gtbl := gm7 _ (List.mem_of_getElem? (i := 12) rfl)
theorem k_363 : (.instanceMethod yX5_load : Cond) ∈ gtbl := gm7 _ (List.mem_of_getElem? (i := 13) rfl)
theorem k_364 : (.code yX5_load cX5_load 3 none : Cond) ∈ gtbl := gm7 _ (List.mem_of_getElem? (i := 14) rfl)
theorem k_365 : (.methodLink RX5 111 yX5_go : Cond) ∈ gtbl := gm7 _ (List.mem_of_getElem? (i := 15) rfl)
theorem k_366 : (.instanceMethod yX5_go : Cond) ∈ gtbl := gm7 _ (List.mem_of_getElem? (i := 16) rfl)
theorem k_367 : (.code yX5_go cX5_go 7 (some .int) : Cond) ∈ gtbl := gm7 _ (List.mem_of_getElem? (i := 17) rfl)
theorem k_368 : (.methodLink RX5 92 yX5_sends : Cond) ∈ gtbl := gm7 _ (List.mem_of_getElem? (i := 18) rfl)
theorem k_369 : (.instanceMethod yX5_sends : Cond) ∈ gtbl := gm7 _ (List.mem_of_getElem? (i := 19) rfl)
theorem k_370 : (.code yX5_sends cX5_sends 5 (some .boolean) : Cond) ∈ gtbl := gm7 _ (List.mem_of_getElem? (i := 20) rfl)
theorem k_371 : (.methodLink RX5 99 yX5_puts : Cond) ∈ gtbl := gm7 _ (List.mem_of_getElem? (i := 21) rfl)
theorem k_372 : (.instanceMethod yX5_puts : Cond) ∈ gtbl := gm7 _ (List.mem_of_getElem? (i := 22) rfl)
theorem k_373 : (.code yX5_puts cX5_puts 3 (some .boolean) : Cond) ∈ gtbl := gm7 _ (List.mem_of_getElem? (i := 23) rfl)
theorem k_374 : (.methodLink RL 35 yX5_run : Cond) ∈ gtbl := gm7 _ (List.mem_of_getElem? (i := 24) rfl)
theorem k_375 : (.instanceMethod yX5_run : Cond) ∈ gtbl := gm7 _ (List.mem_of_getElem? (i := 25) rfl)
theorem k_376 : (.selects RX5 yX5_run yX5_run : Cond) ∈ gtbl := gm7 _ (List.mem_of_getElem? (i := 26) rfl)
theorem k_377 : (.code yX5_run cX5_run 4 (some .int) : Cond) ∈ gtbl := gm7 _ (List.mem_of_getElem? (i := 27) rfl)
theorem k_378 : (.methodLink RL 39 yX5_checkpoint : Cond) ∈ gtbl := gm7 _ (List.mem_of_getElem? (i := 28) rfl)
theorem k_379 : (.instanceMethod yX5_checkpoint : Cond) ∈ gtbl := gm7 _ (List.mem_of_getElem? (i := 29) rfl)
theorem k_380 : (.selects RX5 yX5_checkpoint yX5_checkpoint : Cond) ∈ gtbl := gm7 _ (List.mem_of_getElem? (i := 30) rfl)
theorem k_381 : (.code yX5_checkpoint cX5_checkpoint 3 (some .int) : Cond) ∈ gtbl := gm7 _ (List.mem_of_getElem? (i := 31) rfl)
theorem k_382 : (.methodLink RL 44 yX5_crash : Cond) ∈ gtbl := gm7 _ (List.mem_of_getElem? (i := 32) rfl)
theorem k_383 : (.instanceMethod yX5_crash : Cond) ∈ gtbl := gm7 _ (List.mem_of_getElem? (i := 33) rfl)
theorem k_384 : (.selects RX5 yX5_crash yX5_crash : Cond) ∈ gtbl := gm7 _ (List.mem_of_getElem? (i := 34) rfl)
theorem k_385 : (.code yX5_crash cX5_crash 2 (some .boolean) : Cond) ∈ gtbl := gm7 _ (List.mem_of_getElem? (i := 35) rfl)
theorem k_386 : (.methodLink RL 48 yX5_recover : Cond) ∈ gtbl := gm7 _ (List.mem_of_getElem? (i := 36) rfl)
theorem k_387 : (.instanceMethod yX5_recover : Cond) ∈ gtbl := gm7 _ (List.mem_of_getElem? (i := 37) rfl)
theorem k_388 : (.selects RX5 yX5_recover yX5_recover : Cond) ∈ gtbl := gm7 _ (List.mem_of_getElem? (i := 38) rfl)
theorem k_389 : (.code yX5_recover cX5_recover 2 (some .int) : Cond) ∈ gtbl := gm7 _ (List.mem_of_getElem? (i := 39) rfl)
theorem k_390 : (.methodLink RL 52 yX5_register : Cond) ∈ gtbl := gm7 _ (List.mem_of_getElem? (i := 40) rfl)
theorem k_391 : (.instanceMethod yX5_register : Cond) ∈ gtbl := gm7 _ (List.mem_of_getElem? (i := 41) rfl)
theorem k_392 : (.selects RX5 yX5_register yX5_register : Cond) ∈ gtbl := gm7 _ (List.mem_of_getElem? (i := 42) rfl)
theorem k_393 : (.code yX5_register cX5_register 3 (some .int) : Cond) ∈ gtbl := gm7 _ (List.mem_of_getElem? (i := 43) rfl)
theorem k_394 : (.methodLink RL 56 yX5_state : Cond) ∈ gtbl := gm7 _ (List.mem_of_getElem? (i := 44) rfl)
theorem k_395 : (.instanceMethod yX5_state : Cond) ∈ gtbl := gm7 _ (List.mem_of_getElem? (i := 45) rfl)
theorem k_396 : (.selects RX5 yX5_state yX5_state : Cond) ∈ gtbl := gm7 _ (List.mem_of_getElem? (i := 46) rfl)
theorem k_397 : (.code yX5_state cX5_state 3 (some .int) : Cond) ∈ gtbl := gm7 _ (List.mem_of_getElem? (i := 47) rfl)
theorem k_398 : (.methodLink RL 60 yX5_sent : Cond) ∈ gtbl := gm7 _ (List.mem_of_getElem? (i := 48) rfl)
theorem k_399 : (.instanceMethod yX5_sent : Cond) ∈ gtbl := gm7 _ (List.mem_of_getElem? (i := 49) rfl)
theorem k_400 : (.selects RX5 yX5_sent yX5_sent : Cond) ∈ gtbl := gm8 _ (List.mem_of_getElem? (i := 0) rfl)
theorem k_401 : (.code yX5_sent cX5_sent 3 (some .int) : Cond) ∈ gtbl := gm8 _ (List.mem_of_getElem? (i := 1) rfl)
theorem k_402 : (.methodLink RL 64 yX5_kept : Cond) ∈ gtbl := gm8 _ (List.mem_of_getElem? (i := 2) rfl)
theorem k_403 : (.instanceMethod yX5_kept : Cond) ∈ gtbl := gm8 _ (List.mem_of_getElem? (i := 3) rfl)
theorem k_404 : (.selects RX5 yX5_kept yX5_kept : Cond) ∈ gtbl := gm8 _ (List.mem_of_getElem? (i := 4) rfl)
theorem k_405 : (.code yX5_kept cX5_kept 2 (some .int) : Cond) ∈ gtbl := gm8 _ (List.mem_of_getElem? (i := 5) rfl)
theorem k_406 : (.methodLink RL 68 yX5_source : Cond) ∈ gtbl := gm8 _ (List.mem_of_getElem? (i := 6) rfl)
theorem k_407 : (.instanceMethod yX5_source : Cond) ∈ gtbl := gm8 _ (List.mem_of_getElem? (i := 7) rfl)
theorem k_408 : (.selects RX5 yX5_source yX5_source : Cond) ∈ gtbl := gm8 _ (List.mem_of_getElem? (i := 8) rfl)
theorem k_409 : (.code yX5_source cX5_source 3 (some .int) : Cond) ∈ gtbl := gm8 _ (List.mem_of_getElem? (i := 9) rfl)
theorem k_410 : (.methodLink RL 72 yX5_waiting : Cond) ∈ gtbl := gm8 _ (List.mem_of_getElem? (i := 10) rfl)
theorem k_411 : (.instanceMethod yX5_waiting : Cond) ∈ gtbl := gm8 _ (List.mem_of_getElem? (i := 11) rfl)
theorem k_412 : (.selects RX5 yX5_waiting yX5_waiting : Cond) ∈ gtbl := gm8 _ (List.mem_of_getElem? (i := 12) rfl)
theorem k_413 : (.code yX5_waiting cX5_waiting 3 (some .int) : Cond) ∈ gtbl := gm8 _ (List.mem_of_getElem? (i := 13) rfl)
theorem k_414 : (.methodLink RL 76 yX5_held : Cond) ∈ gtbl := gm8 _ (List.mem_of_getElem? (i := 14) rfl)
theorem k_415 : (.instanceMethod yX5_held : Cond) ∈ gtbl := gm8 _ (List.mem_of_getElem? (i := 15) rfl)
theorem k_416 : (.selects RX5 yX5_held yX5_held : Cond) ∈ gtbl := gm8 _ (List.mem_of_getElem? (i := 16) rfl)
theorem k_417 : (.code yX5_held cX5_held 2 (some .int) : Cond) ∈ gtbl := gm8 _ (List.mem_of_getElem? (i := 17) rfl)
theorem k_418 : (.methodLink RL 81 yX5_outputs : Cond) ∈ gtbl := gm8 _ (List.mem_of_getElem? (i := 18) rfl)
theorem k_419 : (.instanceMethod yX5_outputs : Cond) ∈ gtbl := gm8 _ (List.mem_of_getElem? (i := 19) rfl)
theorem k_420 : (.selects RX5 yX5_outputs yX5_outputs : Cond) ∈ gtbl := gm8 _ (List.mem_of_getElem? (i := 20) rfl)
theorem k_421 : (.code yX5_outputs cX5_outputs 1 (some .int) : Cond) ∈ gtbl := gm8 _ (List.mem_of_getElem? (i := 21) rfl)
theorem k_422 : (.methodLink RL 85 yX5_author : Cond) ∈ gtbl := gm8 _ (List.mem_of_getElem? (i := 22) rfl)
theorem k_423 : (.instanceMethod yX5_author : Cond) ∈ gtbl := gm8 _ (List.mem_of_getElem? (i := 23) rfl)
theorem k_424 : (.selects RX5 yX5_author yX5_author : Cond) ∈ gtbl := gm8 _ (List.mem_of_getElem? (i := 24) rfl)
theorem k_425 : (.code yX5_author cX5_author 2 (some .int) : Cond) ∈ gtbl := gm8 _ (List.mem_of_getElem? (i := 25) rfl)
theorem k_426 : (.methodLink RL 89 yX5_output : Cond) ∈ gtbl := gm8 _ (List.mem_of_getElem? (i := 26) rfl)
theorem k_427 : (.instanceMethod yX5_output : Cond) ∈ gtbl := gm8 _ (List.mem_of_getElem? (i := 27) rfl)
theorem k_428 : (.selects RX5 yX5_output yX5_output : Cond) ∈ gtbl := gm8 _ (List.mem_of_getElem? (i := 28) rfl)
theorem k_429 : (.code yX5_output cX5_output 2 (some .int) : Cond) ∈ gtbl := gm8 _ (List.mem_of_getElem? (i := 29) rfl)
theorem k_430 : (.selects RX1 yX1_slot yX1_slot : Cond) ∈ gtbl := gm8 _ (List.mem_of_getElem? (i := 30) rfl)
theorem k_431 : (.selects RX4 yX4_channelBetween yX4_channelBetween : Cond) ∈ gtbl := gm8 _ (List.mem_of_getElem? (i := 31) rfl)
theorem k_432 : (.selects RX4 yX4_doNext yX4_doNext : Cond) ∈ gtbl := gm8 _ (List.mem_of_getElem? (i := 32) rfl)
theorem k_433 : (.selects RX4 yX4_perform yX4_perform : Cond) ∈ gtbl := gm8 _ (List.mem_of_getElem? (i := 33) rfl)
theorem k_434 : (.selects RX4 yX4_trySend yX4_trySend : Cond) ∈ gtbl := gm8 _ (List.mem_of_getElem? (i := 34) rfl)
theorem k_435 : (.selects RX4 yX4_tryReceive yX4_tryReceive : Cond) ∈ gtbl := gm8 _ (List.mem_of_getElem? (i := 35) rfl)
theorem k_436 : (.selects RX4 yX4_tryPut yX4_tryPut : Cond) ∈ gtbl := gm8 _ (List.mem_of_getElem? (i := 36) rfl)
theorem k_437 : (.selects RX5 yX5_kept0 yX5_kept0 : Cond) ∈ gtbl := gm8 _ (List.mem_of_getElem? (i := 37) rfl)
theorem k_438 : (.selects RX5 yX5_append yX5_append : Cond) ∈ gtbl := gm8 _ (List.mem_of_getElem? (i := 38) rfl)
theorem k_439 : (.selects RX5 yX5_load yX5_load : Cond) ∈ gtbl := gm8 _ (List.mem_of_getElem? (i := 39) rfl)
theorem k_440 : (.selects RX5 yX5_go yX5_go : Cond) ∈ gtbl := gm8 _ (List.mem_of_getElem? (i := 40) rfl)
theorem k_441 : (.selects RX5 yX5_sends yX5_sends : Cond) ∈ gtbl := gm8 _ (List.mem_of_getElem? (i := 41) rfl)
theorem k_442 : (.selects RX5 yX5_puts yX5_puts : Cond) ∈ gtbl := gm8 _ (List.mem_of_getElem? (i := 42) rfl)
theorem gg0 : gw0.all goodWord = true := by decide +kernel
theorem gi0 : ∀ w ∈ gw0, w ∈ lw_tbl := by decide +kernel
theorem gg1 : gw1.all goodWord = true := by decide +kernel
theorem gi1 : ∀ w ∈ gw1, w ∈ lw_tbl := by decide +kernel
theorem gg2 : gw2.all goodWord = true := by decide +kernel
theorem gi2 : ∀ w ∈ gw2, w ∈ lw_tbl := by decide +kernel
theorem gg3 : gw3.all goodWord = true := by decide +kernel
theorem gi3 : ∀ w ∈ gw3, w ∈ lw_tbl := by decide +kernel
theorem gg4 : gw4.all goodWord = true := by decide +kernel
theorem gi4 : ∀ w ∈ gw4, w ∈ lw_tbl := by decide +kernel
theorem gg5 : gw5.all goodWord = true := by decide +kernel
theorem gi5 : ∀ w ∈ gw5, w ∈ lw_tbl := by decide +kernel
theorem gg6 : gw6.all goodWord = true := by decide +kernel
theorem gi6 : ∀ w ∈ gw6, w ∈ lw_tbl := by decide +kernel
theorem gg7 : gw7.all goodWord = true := by decide +kernel
theorem gi7 : ∀ w ∈ gw7, w ∈ lw_tbl := by decide +kernel
theorem gg8 : gw8.all goodWord = true := by decide +kernel
theorem gi8 : ∀ w ∈ gw8, w ∈ lw_tbl := by decide +kernel
theorem gt_good : ∀ w ∈ gtbl, goodWord w = true := by
  intro w h
  unfold gtbl at h
  simp only [List.mem_append] at h
  rcases h with h | h | h | h | h | h | h | h | h
  · exact List.all_eq_true.mp gg0 w h
  · exact List.all_eq_true.mp gg1 w h
  · exact List.all_eq_true.mp gg2 w h
  · exact List.all_eq_true.mp gg3 w h
  · exact List.all_eq_true.mp gg4 w h
  · exact List.all_eq_true.mp gg5 w h
  · exact List.all_eq_true.mp gg6 w h
  · exact List.all_eq_true.mp gg7 w h
  · exact List.all_eq_true.mp gg8 w h
theorem gt_in : ∀ w ∈ gtbl, w ∈ lw_tbl := by
  intro w h
  unfold gtbl at h
  simp only [List.mem_append] at h
  rcases h with h | h | h | h | h | h | h | h | h
  · exact gi0 w h
  · exact gi1 w h
  · exact gi2 w h
  · exact gi3 w h
  · exact gi4 w h
  · exact gi5 w h
  · exact gi6 w h
  · exact gi7 w h
  · exact gi8 w h
theorem inX0 : ∀ w ∈ u_ws RX0 TX0 8, w ∈ gtbl := by
  intro w h
  obtain ⟨i, hi, rfl⟩ := List.mem_map.mp h
  have hi := List.mem_range.mp hi
  rcases (show i = 0 ∨ i = 1 ∨ i = 2 ∨ i = 3 ∨ i = 4 ∨ i = 5 ∨ i = 6 ∨ i = 7 by omega) with rfl | rfl | rfl | rfl | rfl | rfl | rfl | rfl
  · exact k_91
  · exact k_92
  · exact k_93
  · exact k_94
  · exact k_95
  · exact k_96
  · exact k_97
  · exact k_98
theorem inX1 : ∀ w ∈ u_ws RX1 TX1 4, w ∈ gtbl := by
  intro w h
  obtain ⟨i, hi, rfl⟩ := List.mem_map.mp h
  have hi := List.mem_range.mp hi
  rcases (show i = 0 ∨ i = 1 ∨ i = 2 ∨ i = 3 by omega) with rfl | rfl | rfl | rfl
  · exact k_74
  · exact k_75
  · exact k_76
  · exact k_77
theorem inX2 : ∀ w ∈ u_ws RX2 TX2 4, w ∈ gtbl := by
  intro w h
  obtain ⟨i, hi, rfl⟩ := List.mem_map.mp h
  have hi := List.mem_range.mp hi
  rcases (show i = 0 ∨ i = 1 ∨ i = 2 ∨ i = 3 by omega) with rfl | rfl | rfl | rfl
  · exact k_34
  · exact k_35
  · exact k_36
  · exact k_37
theorem inX3 : ∀ w ∈ u_ws RX3 TX3 6, w ∈ gtbl := by
  intro w h
  obtain ⟨i, hi, rfl⟩ := List.mem_map.mp h
  have hi := List.mem_range.mp hi
  rcases (show i = 0 ∨ i = 1 ∨ i = 2 ∨ i = 3 ∨ i = 4 ∨ i = 5 by omega) with rfl | rfl | rfl | rfl | rfl | rfl
  · exact k_56
  · exact k_57
  · exact k_58
  · exact k_59
  · exact k_60
  · exact k_61
theorem inX4 : ∀ w ∈ u_ws RX4 TX4 3, w ∈ gtbl := by
  intro w h
  obtain ⟨i, hi, rfl⟩ := List.mem_map.mp h
  have hi := List.mem_range.mp hi
  rcases (show i = 0 ∨ i = 1 ∨ i = 2 by omega) with rfl | rfl | rfl
  · exact k_104
  · exact k_105
  · exact k_106
theorem inX5 : ∀ w ∈ u_ws RX5 TX5 26, w ∈ gtbl := by
  intro w h
  obtain ⟨i, hi, rfl⟩ := List.mem_map.mp h
  have hi := List.mem_range.mp hi
  rcases (show i = 0 ∨ i = 1 ∨ i = 2 ∨ i = 3 ∨ i = 4 ∨ i = 5 ∨ i = 6 ∨ i = 7 ∨ i = 8 ∨ i = 9 ∨ i = 10 ∨ i = 11 ∨ i = 12 ∨ i = 13 ∨ i = 14 ∨ i = 15 ∨ i = 16 ∨ i = 17 ∨ i = 18 ∨ i = 19 ∨ i = 20 ∨ i = 21 ∨ i = 22 ∨ i = 23 ∨ i = 24 ∨ i = 25 by omega) with rfl | rfl | rfl | rfl | rfl | rfl | rfl | rfl | rfl | rfl | rfl | rfl | rfl | rfl | rfl | rfl | rfl | rfl | rfl | rfl | rfl | rfl | rfl | rfl | rfl | rfl
  · exact k_301
  · exact k_302
  · exact k_303
  · exact k_304
  · exact k_305
  · exact k_306
  · exact k_307
  · exact k_308
  · exact k_309
  · exact k_310
  · exact k_311
  · exact k_312
  · exact k_313
  · exact k_314
  · exact k_315
  · exact k_316
  · exact k_317
  · exact k_318
  · exact k_319
  · exact k_320
  · exact k_321
  · exact k_322
  · exact k_323
  · exact k_324
  · exact k_325
  · exact k_326
abbrev wX4_init : List Cond := .code yX4_init cX4_init 2 none :: gtbl
abbrev wX0_init : List Cond := .code yX0_init cX0_init 1 none :: gtbl
abbrev wX2_init : List Cond := .code yX2_init cX2_init 1 none :: gtbl
abbrev wX3_init : List Cond := .code yX3_init cX3_init 1 none :: gtbl
abbrev wX1_init : List Cond := .code yX1_init cX1_init 2 none :: gtbl
abbrev wX4_code : List Cond := .code yX4_code cX4_code 6 (some .boolean) :: gtbl
abbrev wX4_isProcess : List Cond := .code yX4_isProcess cX4_isProcess 1 (some .boolean) :: gtbl
abbrev wX4_isInstruction : List Cond := .code yX4_isInstruction cX4_isInstruction 4 (some .boolean) :: gtbl
abbrev wX4_isRegister : List Cond := .code yX4_isRegister cX4_isRegister 1 (some .boolean) :: gtbl
abbrev wX4_isChannel : List Cond := .code yX4_isChannel cX4_isChannel 2 (some .boolean) :: gtbl
abbrev wX2_isFull : List Cond := .code yX2_isFull cX2_isFull 1 (some .boolean) :: gtbl
abbrev wX2_append : List Cond := .code yX2_append cX2_append 4 none :: gtbl
abbrev wX4_input : List Cond := .code yX4_input cX4_input 4 (some .int) :: gtbl
abbrev wX1_isFull : List Cond := .code yX1_isFull cX1_isFull 1 (some .boolean) :: gtbl
abbrev wX1_count : List Cond := .code yX1_count cX1_count 1 (some .int) :: gtbl
abbrev wX1_append : List Cond := .code yX1_append cX1_append 3 (some .int) :: gtbl
abbrev wX1_slot : List Cond := .code yX1_slot cX1_slot 2 (some .int) :: gtbl
abbrev wJ_floorMod : List Cond := .code yJ_floorMod cJ_floorMod 3 (some .int) :: gtbl
abbrev wX4_deliver : List Cond := .code yX4_deliver cX4_deliver 7 (some .int) :: gtbl
abbrev wX4_channelBetween : List Cond := .code yX4_channelBetween cX4_channelBetween 3 (some (.object "ReplayGroup$NumberedRow")) :: gtbl
abbrev wX1_valueAt : List Cond := .code yX1_valueAt cX1_valueAt 2 (some .int) :: gtbl
abbrev wX1_dropThrough : List Cond := .code yX1_dropThrough cX1_dropThrough 3 (some .int) :: gtbl
abbrev wX4_step : List Cond := .code yX4_step cX4_step 2 (some .int) :: gtbl
abbrev wX4_doNext : List Cond := .code yX4_doNext cX4_doNext 9 (some .int) :: gtbl
abbrev wX2_has : List Cond := .code yX2_has cX2_has 2 (some .boolean) :: gtbl
abbrev wX4_placeAfter : List Cond := .code yX4_placeAfter cX4_placeAfter 4 (some .int) :: gtbl
abbrev wX4_perform : List Cond := .code yX4_perform cX4_perform 6 (some .boolean) :: gtbl
abbrev wX4_trySend : List Cond := .code yX4_trySend cX4_trySend 6 (some .boolean) :: gtbl
abbrev wX4_tryReceive : List Cond := .code yX4_tryReceive cX4_tryReceive 6 (some .boolean) :: gtbl
abbrev wX1_has : List Cond := .code yX1_has cX1_has 2 (some .boolean) :: gtbl
abbrev wX1_originAt : List Cond := .code yX1_originAt cX1_originAt 2 (some .int) :: gtbl
abbrev wX4_tryPut : List Cond := .code yX4_tryPut cX4_tryPut 4 (some .boolean) :: gtbl
abbrev wX4_run : List Cond := .code yX4_run cX4_run 4 (some .int) :: gtbl
abbrev wX4_checkpoint : List Cond := .code yX4_checkpoint cX4_checkpoint 3 (some .int) :: gtbl
abbrev wX3_copyFrom : List Cond := .code yX3_copyFrom cX3_copyFrom 2 none :: gtbl
abbrev wX4_crash : List Cond := .code yX4_crash cX4_crash 2 (some .boolean) :: gtbl
abbrev wX4_recover : List Cond := .code yX4_recover cX4_recover 3 (some .int) :: gtbl
abbrev wX4_register : List Cond := .code yX4_register cX4_register 3 (some .int) :: gtbl
abbrev wX4_state : List Cond := .code yX4_state cX4_state 4 (some .int) :: gtbl
abbrev wX4_sent : List Cond := .code yX4_sent cX4_sent 3 (some .int) :: gtbl
abbrev wX4_kept : List Cond := .code yX4_kept cX4_kept 2 (some .int) :: gtbl
abbrev wX4_source : List Cond := .code yX4_source cX4_source 4 (some .int) :: gtbl
abbrev wX4_waiting : List Cond := .code yX4_waiting cX4_waiting 3 (some .int) :: gtbl
abbrev wX4_held : List Cond := .code yX4_held cX4_held 2 (some .int) :: gtbl
abbrev wX4_outputs : List Cond := .code yX4_outputs cX4_outputs 1 (some .int) :: gtbl
abbrev wX4_author : List Cond := .code yX4_author cX4_author 3 (some .int) :: gtbl
abbrev wX4_outputNumber : List Cond := .code yX4_outputNumber cX4_outputNumber 1 (some .int) :: gtbl
abbrev wX4_output : List Cond := .code yX4_output cX4_output 3 (some .int) :: gtbl
abbrev wX5_init : List Cond := .code yX5_init cX5_init 1 none :: gtbl
abbrev wX5_code : List Cond := .code yX5_code cX5_code 7 (some .boolean) :: gtbl
abbrev wX5_isProcess : List Cond := .code yX5_isProcess cX5_isProcess 1 (some .boolean) :: gtbl
abbrev wX5_isChannel : List Cond := .code yX5_isChannel cX5_isChannel 2 (some .boolean) :: gtbl
abbrev wX5_isRegister : List Cond := .code yX5_isRegister cX5_isRegister 1 (some .boolean) :: gtbl
abbrev wX5_usesB : List Cond := .code yX5_usesB cX5_usesB 1 (some .boolean) :: gtbl
abbrev wX5_input : List Cond := .code yX5_input cX5_input 3 (some .int) :: gtbl
abbrev wX5_kept0 : List Cond := .code yX5_kept0 cX5_kept0 2 (some .int) :: gtbl
abbrev wX5_append : List Cond := .code yX5_append cX5_append 4 (some .int) :: gtbl
abbrev wX5_deliver : List Cond := .code yX5_deliver cX5_deliver 5 (some .int) :: gtbl
abbrev wX5_step : List Cond := .code yX5_step cX5_step 3 (some .int) :: gtbl
abbrev wX5_load : List Cond := .code yX5_load cX5_load 3 none :: gtbl
abbrev wX5_go : List Cond := .code yX5_go cX5_go 7 (some .int) :: gtbl
abbrev wX5_sends : List Cond := .code yX5_sends cX5_sends 5 (some .boolean) :: gtbl
abbrev wX5_puts : List Cond := .code yX5_puts cX5_puts 3 (some .boolean) :: gtbl
abbrev wX5_run : List Cond := .code yX5_run cX5_run 4 (some .int) :: gtbl
abbrev wX5_checkpoint : List Cond := .code yX5_checkpoint cX5_checkpoint 3 (some .int) :: gtbl
abbrev wX5_crash : List Cond := .code yX5_crash cX5_crash 2 (some .boolean) :: gtbl
abbrev wX5_recover : List Cond := .code yX5_recover cX5_recover 2 (some .int) :: gtbl
abbrev wX5_register : List Cond := .code yX5_register cX5_register 3 (some .int) :: gtbl
abbrev wX5_state : List Cond := .code yX5_state cX5_state 3 (some .int) :: gtbl
abbrev wX5_sent : List Cond := .code yX5_sent cX5_sent 3 (some .int) :: gtbl
abbrev wX5_kept : List Cond := .code yX5_kept cX5_kept 2 (some .int) :: gtbl
abbrev wX5_source : List Cond := .code yX5_source cX5_source 3 (some .int) :: gtbl
abbrev wX5_waiting : List Cond := .code yX5_waiting cX5_waiting 3 (some .int) :: gtbl
abbrev wX5_held : List Cond := .code yX5_held cX5_held 2 (some .int) :: gtbl
abbrev wX5_outputs : List Cond := .code yX5_outputs cX5_outputs 1 (some .int) :: gtbl
abbrev wX5_author : List Cond := .code yX5_author cX5_author 2 (some .int) :: gtbl
abbrev wX5_output : List Cond := .code yX5_output cX5_output 2 (some .int) :: gtbl
theorem gAll {ws : List Cond} (h : ∀ w ∈ ws, w ∈ gtbl) : GoodIn gtbl ws := fun w hw => ⟨h w hw, good_of_word (gt_good w (h w hw))⟩
theorem gV {own C : String} {i m : Nat} {y : MethodName} {b : ByteArray} {r : Option FieldType} (h1 : (.methodLink own i y : Cond) ∈ gtbl) (h2 : (.instanceMethod y : Cond) ∈ gtbl) (h3 : (.selects C y y : Cond) ∈ gtbl) (h4 : (.initialized C : Cond) ∈ gtbl) (h5 : (.code y b m r : Cond) ∈ gtbl) : GoodIn gtbl (wsV own i C y (.code y b m r :: gtbl)) := by
  refine gAll (fun w h => ?_)
  simp only [wsV, List.cons_append, List.nil_append, List.mem_cons] at h
  rcases h with rfl | rfl | rfl | rfl | rfl | h
  · exact h1
  · exact h2
  · exact h3
  · exact h4
  · exact h5
  · exact h
theorem gS {own : String} {i m : Nat} {y : MethodName} {b : ByteArray} {r : Option FieldType} (h1 : (.methodLink own i y : Cond) ∈ gtbl) (h2 : (.static y : Cond) ∈ gtbl) (h4 : (.initialized y.cls : Cond) ∈ gtbl) (h5 : (.code y b m r : Cond) ∈ gtbl) : GoodIn gtbl (va_wsS own i y (.code y b m r :: gtbl)) := by
  refine gAll (fun w h => ?_)
  simp only [va_wsS, List.cons_append, List.nil_append, List.mem_cons] at h
  rcases h with rfl | rfl | rfl | rfl | h
  · exact h1
  · exact h2
  · exact h4
  · exact h5
  · exact h
theorem gC {m : Nat} {y : MethodName} {b : ByteArray} {r : Option FieldType} (h5 : (.code y b m r : Cond) ∈ gtbl) : GoodIn gtbl (.code y b m r :: gtbl) := by
  refine gAll (fun w h => ?_)
  rcases List.mem_cons.mp h with rfl | h
  · exact h5
  · exact h
