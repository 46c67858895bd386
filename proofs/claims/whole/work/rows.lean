section
-- ===== PART A: goes FIRST, ahead of the names: the tables' words, and 'selects' of the private methods out of them =====
/-- a private method of a class that the tables say can be made, by its rows of tables_1 -/
def lw_okq (q : MethodName × Nat) : Prop := (q.1.cls ≠ "java/lang/invoke/MethodHandle" ∧ q.1.cls ≠ "java/lang/invoke/VarHandle") ∧ Cond.instantiable q.1.cls q.2 ∈ tables_1 ∧ Cond.privateMethod q.1 ∈ tables_1 ∧ Cond.instanceMethod q.1 ∈ tables_1
theorem lw_p0 : lw_okq (⟨"ReplayGroup$NumberedRow", "slot", "(I)I"⟩, 4) := ⟨⟨by decide +kernel, by decide +kernel⟩, List.mem_of_getElem? (i := 79) (by decide +kernel), List.mem_of_getElem? (i := 183) (by decide +kernel), List.mem_of_getElem? (i := 184) (by decide +kernel)⟩
theorem lw_p1 : lw_okq (⟨"ReplayGroup", "channelBetween", "(II)LReplayGroup$NumberedRow;"⟩, 3) := ⟨⟨by decide +kernel, by decide +kernel⟩, List.mem_of_getElem? (i := 10) (by decide +kernel), List.mem_of_getElem? (i := 194) (by decide +kernel), List.mem_of_getElem? (i := 195) (by decide +kernel)⟩
theorem lw_p2 : lw_okq (⟨"ReplayGroup", "doNext", "(I)I"⟩, 3) := ⟨⟨by decide +kernel, by decide +kernel⟩, List.mem_of_getElem? (i := 10) (by decide +kernel), List.mem_of_getElem? (i := 211) (by decide +kernel), List.mem_of_getElem? (i := 212) (by decide +kernel)⟩
theorem lw_p3 : lw_okq (⟨"ReplayGroup", "perform", "(IIII)Z"⟩, 3) := ⟨⟨by decide +kernel, by decide +kernel⟩, List.mem_of_getElem? (i := 10) (by decide +kernel), List.mem_of_getElem? (i := 222) (by decide +kernel), List.mem_of_getElem? (i := 223) (by decide +kernel)⟩
theorem lw_p4 : lw_okq (⟨"ReplayGroup", "trySend", "(III)Z"⟩, 3) := ⟨⟨by decide +kernel, by decide +kernel⟩, List.mem_of_getElem? (i := 10) (by decide +kernel), List.mem_of_getElem? (i := 226) (by decide +kernel), List.mem_of_getElem? (i := 227) (by decide +kernel)⟩
theorem lw_p5 : lw_okq (⟨"ReplayGroup", "tryReceive", "(III)Z"⟩, 3) := ⟨⟨by decide +kernel, by decide +kernel⟩, List.mem_of_getElem? (i := 10) (by decide +kernel), List.mem_of_getElem? (i := 230) (by decide +kernel), List.mem_of_getElem? (i := 231) (by decide +kernel)⟩
theorem lw_p6 : lw_okq (⟨"ReplayGroup", "tryPut", "(II)Z"⟩, 3) := ⟨⟨by decide +kernel, by decide +kernel⟩, List.mem_of_getElem? (i := 10) (by decide +kernel), List.mem_of_getElem? (i := 242) (by decide +kernel), List.mem_of_getElem? (i := 243) (by decide +kernel)⟩
theorem lw_p7 : lw_okq (⟨"ReplayGroupModel", "kept0", "(I)I"⟩, 26) := ⟨⟨by decide +kernel, by decide +kernel⟩, List.mem_of_getElem? (i := 312) (by decide +kernel), List.mem_of_getElem? (i := 418) (by decide +kernel), List.mem_of_getElem? (i := 419) (by decide +kernel)⟩
theorem lw_p8 : lw_okq (⟨"ReplayGroupModel", "append", "(III)I"⟩, 26) := ⟨⟨by decide +kernel, by decide +kernel⟩, List.mem_of_getElem? (i := 312) (by decide +kernel), List.mem_of_getElem? (i := 422) (by decide +kernel), List.mem_of_getElem? (i := 423) (by decide +kernel)⟩
theorem lw_p9 : lw_okq (⟨"ReplayGroupModel", "load", "(I)V"⟩, 26) := ⟨⟨by decide +kernel, by decide +kernel⟩, List.mem_of_getElem? (i := 312) (by decide +kernel), List.mem_of_getElem? (i := 434) (by decide +kernel), List.mem_of_getElem? (i := 435) (by decide +kernel)⟩
theorem lw_p10 : lw_okq (⟨"ReplayGroupModel", "go", "(IZ)I"⟩, 26) := ⟨⟨by decide +kernel, by decide +kernel⟩, List.mem_of_getElem? (i := 312) (by decide +kernel), List.mem_of_getElem? (i := 438) (by decide +kernel), List.mem_of_getElem? (i := 439) (by decide +kernel)⟩
theorem lw_p11 : lw_okq (⟨"ReplayGroupModel", "sends", "(III)Z"⟩, 26) := ⟨⟨by decide +kernel, by decide +kernel⟩, List.mem_of_getElem? (i := 312) (by decide +kernel), List.mem_of_getElem? (i := 442) (by decide +kernel), List.mem_of_getElem? (i := 443) (by decide +kernel)⟩
theorem lw_p12 : lw_okq (⟨"ReplayGroupModel", "puts", "(II)Z"⟩, 26) := ⟨⟨by decide +kernel, by decide +kernel⟩, List.mem_of_getElem? (i := 312) (by decide +kernel), List.mem_of_getElem? (i := 446) (by decide +kernel), List.mem_of_getElem? (i := 447) (by decide +kernel)⟩
def lw_privs_1 : List (MethodName × Nat) := [(⟨"ReplayGroup$NumberedRow", "slot", "(I)I"⟩, 4), (⟨"ReplayGroup", "channelBetween", "(II)LReplayGroup$NumberedRow;"⟩, 3), (⟨"ReplayGroup", "doNext", "(I)I"⟩, 3), (⟨"ReplayGroup", "perform", "(IIII)Z"⟩, 3), (⟨"ReplayGroup", "trySend", "(III)Z"⟩, 3), (⟨"ReplayGroup", "tryReceive", "(III)Z"⟩, 3), (⟨"ReplayGroup", "tryPut", "(II)Z"⟩, 3), (⟨"ReplayGroupModel", "kept0", "(I)I"⟩, 26), (⟨"ReplayGroupModel", "append", "(III)I"⟩, 26), (⟨"ReplayGroupModel", "load", "(I)V"⟩, 26), (⟨"ReplayGroupModel", "go", "(IZ)I"⟩, 26), (⟨"ReplayGroupModel", "sends", "(III)Z"⟩, 26), (⟨"ReplayGroupModel", "puts", "(II)Z"⟩, 26)]
theorem lw_r1 : ∀ q ∈ lw_privs_1, lw_okq q := List.forall_mem_cons.mpr ⟨lw_p0, List.forall_mem_cons.mpr ⟨lw_p1, List.forall_mem_cons.mpr ⟨lw_p2, List.forall_mem_cons.mpr ⟨lw_p3, List.forall_mem_cons.mpr ⟨lw_p4, List.forall_mem_cons.mpr ⟨lw_p5, List.forall_mem_cons.mpr ⟨lw_p6, List.forall_mem_cons.mpr ⟨lw_p7, List.forall_mem_cons.mpr ⟨lw_p8, List.forall_mem_cons.mpr ⟨lw_p9, List.forall_mem_cons.mpr ⟨lw_p10, List.forall_mem_cons.mpr ⟨lw_p11, List.forall_mem_cons.mpr ⟨lw_p12, fun _ h => absurd h List.not_mem_nil⟩⟩⟩⟩⟩⟩⟩⟩⟩⟩⟩⟩⟩
def lw_privs : List (MethodName × Nat) := lw_privs_1
def lw_tbl : List Cond := k2_sels lw_privs ++ tables_1
theorem lw_privs_ok : ∀ q ∈ lw_privs, lw_okq q := lw_r1

def RL : String := "ReplayGroupLaw"
def RJ : String := "java/lang/Math"
def RY : String := "java/lang/System"
def RX0 : String := "ReplayGroup$Member"
def RX1 : String := "ReplayGroup$NumberedRow"
def RX2 : String := "ReplayGroup$Program"
def RX3 : String := "ReplayGroup$State"
def RX4 : String := "ReplayGroup"
def RX5 : String := "ReplayGroupModel"
def TX0 : u_T := fun k => match k with
  | 0 => ("ReplayGroup$Member", "program", "LReplayGroup$Program;", true)
  | 1 => ("ReplayGroup$Member", "current", "LReplayGroup$State;", true)
  | 2 => ("ReplayGroup$Member", "saved", "LReplayGroup$State;", true)
  | 3 => ("ReplayGroup$Member", "log", "LReplayGroup$NumberedRow;", true)
  | 4 => ("ReplayGroup$Member", "up", "Z", false)
  | 5 => ("ReplayGroup$Member", "began", "Z", false)
  | 6 => ("ReplayGroup$Member", "everPutOut", "I", false)
  | _ => ("ReplayGroup$Member", "heldBack", "I", false)
def tyX0 : Nat → FieldType := fun k => match k with
  | 0 => .object "ReplayGroup$Program"
  | 1 => .object "ReplayGroup$State"
  | 2 => .object "ReplayGroup$State"
  | 3 => .object "ReplayGroup$NumberedRow"
  | 4 => .boolean
  | 5 => .boolean
  | 6 => .int
  | _ => .int
theorem nmX0 : ∀ a, a < 8 → ∀ b, b < 8 → a ≠ b → (TX0 a).2.1 ≠ (TX0 b).2.1 := by decide +kernel
theorem tyX0_ok : ∀ k, k < 8 → parseFieldDescriptor (TX0 k).2.2.1 = some (tyX0 k) := by decide +kernel
def TX1 : u_T := fun k => match k with
  | 0 => ("ReplayGroup$NumberedRow", "values", "[I", true)
  | 1 => ("ReplayGroup$NumberedRow", "origins", "[I", true)
  | 2 => ("ReplayGroup$NumberedRow", "gone", "I", false)
  | _ => ("ReplayGroup$NumberedRow", "last", "I", false)
def tyX1 : Nat → FieldType := fun k => match k with
  | 0 => .array .int
  | 1 => .array .int
  | 2 => .int
  | _ => .int
theorem nmX1 : ∀ a, a < 4 → ∀ b, b < 4 → a ≠ b → (TX1 a).2.1 ≠ (TX1 b).2.1 := by decide +kernel
theorem tyX1_ok : ∀ k, k < 4 → parseFieldDescriptor (TX1 k).2.2.1 = some (tyX1 k) := by decide +kernel
def TX2 : u_T := fun k => match k with
  | 0 => ("ReplayGroup$Program", "ops", "[I", true)
  | 1 => ("ReplayGroup$Program", "firsts", "[I", true)
  | 2 => ("ReplayGroup$Program", "seconds", "[I", true)
  | _ => ("ReplayGroup$Program", "length", "I", false)
def tyX2 : Nat → FieldType := fun k => match k with
  | 0 => .array .int
  | 1 => .array .int
  | 2 => .array .int
  | _ => .int
theorem nmX2 : ∀ a, a < 4 → ∀ b, b < 4 → a ≠ b → (TX2 a).2.1 ≠ (TX2 b).2.1 := by decide +kernel
theorem tyX2_ok : ∀ k, k < 4 → parseFieldDescriptor (TX2 k).2.2.1 = some (tyX2 k) := by decide +kernel
def TX3 : u_T := fun k => match k with
  | 0 => ("ReplayGroup$State", "registers", "[I", true)
  | 1 => ("ReplayGroup$State", "sentTo", "[I", true)
  | 2 => ("ReplayGroup$State", "place", "I", false)
  | 3 => ("ReplayGroup$State", "age", "I", false)
  | 4 => ("ReplayGroup$State", "took", "I", false)
  | _ => ("ReplayGroup$State", "putOut", "I", false)
def tyX3 : Nat → FieldType := fun k => match k with
  | 0 => .array .int
  | 1 => .array .int
  | 2 => .int
  | 3 => .int
  | 4 => .int
  | _ => .int
theorem nmX3 : ∀ a, a < 6 → ∀ b, b < 6 → a ≠ b → (TX3 a).2.1 ≠ (TX3 b).2.1 := by decide +kernel
theorem tyX3_ok : ∀ k, k < 6 → parseFieldDescriptor (TX3 k).2.2.1 = some (tyX3 k) := by decide +kernel
def TX4 : u_T := fun k => match k with
  | 0 => ("ReplayGroup", "members", "[LReplayGroup$Member;", true)
  | 1 => ("ReplayGroup", "channels", "[LReplayGroup$NumberedRow;", true)
  | _ => ("ReplayGroup", "shown", "LReplayGroup$NumberedRow;", true)
def tyX4 : Nat → FieldType := fun k => match k with
  | 0 => .array (.object "ReplayGroup$Member")
  | 1 => .array (.object "ReplayGroup$NumberedRow")
  | _ => .object "ReplayGroup$NumberedRow"
theorem nmX4 : ∀ a, a < 3 → ∀ b, b < 3 → a ≠ b → (TX4 a).2.1 ≠ (TX4 b).2.1 := by decide +kernel
theorem tyX4_ok : ∀ k, k < 3 → parseFieldDescriptor (TX4 k).2.2.1 = some (tyX4 k) := by decide +kernel
def TX5 : u_T := fun k => match k with
  | 0 => ("ReplayGroupModel", "length", "[I", true)
  | 1 => ("ReplayGroupModel", "ops", "[I", true)
  | 2 => ("ReplayGroupModel", "as", "[I", true)
  | 3 => ("ReplayGroupModel", "bs", "[I", true)
  | 4 => ("ReplayGroupModel", "down", "[Z", true)
  | 5 => ("ReplayGroupModel", "age", "[I", true)
  | 6 => ("ReplayGroupModel", "savedAge", "[I", true)
  | 7 => ("ReplayGroupModel", "savedTook", "[I", true)
  | 8 => ("ReplayGroupModel", "began", "[Z", true)
  | 9 => ("ReplayGroupModel", "heldBack", "[I", true)
  | 10 => ("ReplayGroupModel", "total", "[I", true)
  | 11 => ("ReplayGroupModel", "log", "[I", true)
  | 12 => ("ReplayGroupModel", "origin", "[I", true)
  | 13 => ("ReplayGroupModel", "sentEver", "[I", true)
  | 14 => ("ReplayGroupModel", "delivered", "[I", true)
  | 15 => ("ReplayGroupModel", "inChannel", "[I", true)
  | 16 => ("ReplayGroupModel", "outputs", "I", false)
  | 17 => ("ReplayGroupModel", "outputOf", "[I", true)
  | 18 => ("ReplayGroupModel", "outputValue", "[I", true)
  | 19 => ("ReplayGroupModel", "putEver", "[I", true)
  | 20 => ("ReplayGroupModel", "reg", "[I", true)
  | 21 => ("ReplayGroupModel", "sent", "[I", true)
  | 22 => ("ReplayGroupModel", "place", "I", false)
  | 23 => ("ReplayGroupModel", "took", "I", false)
  | 24 => ("ReplayGroupModel", "put", "I", false)
  | _ => ("ReplayGroupModel", "done", "I", false)
def tyX5 : Nat → FieldType := fun k => match k with
  | 0 => .array .int
  | 1 => .array .int
  | 2 => .array .int
  | 3 => .array .int
  | 4 => .array .boolean
  | 5 => .array .int
  | 6 => .array .int
  | 7 => .array .int
  | 8 => .array .boolean
  | 9 => .array .int
  | 10 => .array .int
  | 11 => .array .int
  | 12 => .array .int
  | 13 => .array .int
  | 14 => .array .int
  | 15 => .array .int
  | 16 => .int
  | 17 => .array .int
  | 18 => .array .int
  | 19 => .array .int
  | 20 => .array .int
  | 21 => .array .int
  | 22 => .int
  | 23 => .int
  | 24 => .int
  | _ => .int
theorem nmX5 : ∀ a, a < 26 → ∀ b, b < 26 → a ≠ b → (TX5 a).2.1 ≠ (TX5 b).2.1 := by decide +kernel
theorem tyX5_ok : ∀ k, k < 26 → parseFieldDescriptor (TX5 k).2.2.1 = some (tyX5 k) := by decide +kernel
abbrev vwCl : List vw_C := [(RX0, TX0, 8), (RX1, TX1, 4), (RX2, TX2, 4), (RX3, TX3, 6), (RX4, TX4, 3), (RX5, TX5, 26)]
def yX4_init : MethodName := ⟨RX4, "<init>", "()V"⟩
def yX0_init : MethodName := ⟨RX0, "<init>", "()V"⟩
def yX2_init : MethodName := ⟨RX2, "<init>", "()V"⟩
def yX3_init : MethodName := ⟨RX3, "<init>", "()V"⟩
def yX1_init : MethodName := ⟨RX1, "<init>", "(I)V"⟩
def yX4_code : MethodName := ⟨RX4, "code", "(IIII)Z"⟩
def yX4_isProcess : MethodName := ⟨RX4, "isProcess", "(I)Z"⟩
def yX4_isInstruction : MethodName := ⟨RX4, "isInstruction", "(IIII)Z"⟩
def yX4_isRegister : MethodName := ⟨RX4, "isRegister", "(I)Z"⟩
def yX4_isChannel : MethodName := ⟨RX4, "isChannel", "(II)Z"⟩
def yX2_isFull : MethodName := ⟨RX2, "isFull", "()Z"⟩
def yX2_append : MethodName := ⟨RX2, "append", "(III)V"⟩
def yX4_input : MethodName := ⟨RX4, "input", "(II)I"⟩
def yX1_isFull : MethodName := ⟨RX1, "isFull", "()Z"⟩
def yX1_count : MethodName := ⟨RX1, "count", "()I"⟩
def yX1_append : MethodName := ⟨RX1, "append", "(II)I"⟩
def yX1_slot : MethodName := ⟨RX1, "slot", "(I)I"⟩
def yJ_floorMod : MethodName := ⟨RJ, "floorMod", "(II)I"⟩
def yX4_deliver : MethodName := ⟨RX4, "deliver", "(II)I"⟩
def yX4_channelBetween : MethodName := ⟨RX4, "channelBetween", "(II)LReplayGroup$NumberedRow;"⟩
def yX1_valueAt : MethodName := ⟨RX1, "valueAt", "(I)I"⟩
def yX1_dropThrough : MethodName := ⟨RX1, "dropThrough", "(I)I"⟩
def yX4_step : MethodName := ⟨RX4, "step", "(I)I"⟩
def yX4_doNext : MethodName := ⟨RX4, "doNext", "(I)I"⟩
def yX2_has : MethodName := ⟨RX2, "has", "(I)Z"⟩
def yX4_placeAfter : MethodName := ⟨RX4, "placeAfter", "(LReplayGroup$State;III)I"⟩
def yX4_perform : MethodName := ⟨RX4, "perform", "(IIII)Z"⟩
def yX4_trySend : MethodName := ⟨RX4, "trySend", "(III)Z"⟩
def yX4_tryReceive : MethodName := ⟨RX4, "tryReceive", "(III)Z"⟩
def yX1_has : MethodName := ⟨RX1, "has", "(I)Z"⟩
def yX1_originAt : MethodName := ⟨RX1, "originAt", "(I)I"⟩
def yX4_tryPut : MethodName := ⟨RX4, "tryPut", "(II)Z"⟩
def yX4_run : MethodName := ⟨RX4, "run", "(II)I"⟩
def yX4_checkpoint : MethodName := ⟨RX4, "checkpoint", "(I)I"⟩
def yX3_copyFrom : MethodName := ⟨RX3, "copyFrom", "(LReplayGroup$State;)V"⟩
def yX4_crash : MethodName := ⟨RX4, "crash", "(I)Z"⟩
def yX4_recover : MethodName := ⟨RX4, "recover", "(I)I"⟩
def yX4_register : MethodName := ⟨RX4, "register", "(II)I"⟩
def yX4_state : MethodName := ⟨RX4, "state", "(II)I"⟩
def yX4_sent : MethodName := ⟨RX4, "sent", "(II)I"⟩
def yX4_kept : MethodName := ⟨RX4, "kept", "(I)I"⟩
def yX4_source : MethodName := ⟨RX4, "source", "(II)I"⟩
def yX4_waiting : MethodName := ⟨RX4, "waiting", "(II)I"⟩
def yX4_held : MethodName := ⟨RX4, "held", "(I)I"⟩
def yX4_outputs : MethodName := ⟨RX4, "outputs", "()I"⟩
def yX4_author : MethodName := ⟨RX4, "author", "(I)I"⟩
def yX4_outputNumber : MethodName := ⟨RX4, "outputNumber", "(I)I"⟩
def yX4_output : MethodName := ⟨RX4, "output", "(I)I"⟩
def yX5_init : MethodName := ⟨RX5, "<init>", "()V"⟩
def yX5_code : MethodName := ⟨RX5, "code", "(IIII)Z"⟩
def yX5_isProcess : MethodName := ⟨RX5, "isProcess", "(I)Z"⟩
def yX5_isChannel : MethodName := ⟨RX5, "isChannel", "(II)Z"⟩
def yX5_isRegister : MethodName := ⟨RX5, "isRegister", "(I)Z"⟩
def yX5_usesB : MethodName := ⟨RX5, "usesB", "(I)Z"⟩
def yX5_input : MethodName := ⟨RX5, "input", "(II)I"⟩
def yX5_kept0 : MethodName := ⟨RX5, "kept0", "(I)I"⟩
def yX5_append : MethodName := ⟨RX5, "append", "(III)I"⟩
def yX5_deliver : MethodName := ⟨RX5, "deliver", "(II)I"⟩
def yX5_step : MethodName := ⟨RX5, "step", "(I)I"⟩
def yX5_load : MethodName := ⟨RX5, "load", "(I)V"⟩
def yX5_go : MethodName := ⟨RX5, "go", "(IZ)I"⟩
def yX5_sends : MethodName := ⟨RX5, "sends", "(III)Z"⟩
def yX5_puts : MethodName := ⟨RX5, "puts", "(II)Z"⟩
def yX5_run : MethodName := ⟨RX5, "run", "(II)I"⟩
def yX5_checkpoint : MethodName := ⟨RX5, "checkpoint", "(I)I"⟩
def yX5_crash : MethodName := ⟨RX5, "crash", "(I)Z"⟩
def yX5_recover : MethodName := ⟨RX5, "recover", "(I)I"⟩
def yX5_register : MethodName := ⟨RX5, "register", "(II)I"⟩
def yX5_state : MethodName := ⟨RX5, "state", "(II)I"⟩
def yX5_sent : MethodName := ⟨RX5, "sent", "(II)I"⟩
def yX5_kept : MethodName := ⟨RX5, "kept", "(I)I"⟩
def yX5_source : MethodName := ⟨RX5, "source", "(II)I"⟩
def yX5_waiting : MethodName := ⟨RX5, "waiting", "(II)I"⟩
def yX5_held : MethodName := ⟨RX5, "held", "(I)I"⟩
def yX5_outputs : MethodName := ⟨RX5, "outputs", "()I"⟩
def yX5_author : MethodName := ⟨RX5, "author", "(I)I"⟩
def yX5_output : MethodName := ⟨RX5, "output", "(I)I"⟩
abbrev cX4_init : ByteArray := prog_1_method_1_code
abbrev cX0_init : ByteArray := prog_2_method_1_code
abbrev cX2_init : ByteArray := prog_4_method_1_code
abbrev cX3_init : ByteArray := prog_5_method_1_code
abbrev cX1_init : ByteArray := prog_3_method_1_code
abbrev cX4_code : ByteArray := prog_1_method_2_code
abbrev cX4_isProcess : ByteArray := prog_1_method_20_code
abbrev cX4_isInstruction : ByteArray := prog_1_method_23_code
abbrev cX4_isRegister : ByteArray := prog_1_method_21_code
abbrev cX4_isChannel : ByteArray := prog_1_method_22_code
abbrev cX2_isFull : ByteArray := prog_4_method_2_code
abbrev cX2_append : ByteArray := prog_4_method_4_code
abbrev cX4_input : ByteArray := prog_1_method_3_code
abbrev cX1_isFull : ByteArray := prog_3_method_3_code
abbrev cX1_count : ByteArray := prog_3_method_2_code
abbrev cX1_append : ByteArray := prog_3_method_7_code
abbrev cX1_slot : ByteArray := prog_3_method_9_code
abbrev cJ_floorMod : ByteArray := prog_8_method_50_code
abbrev cX4_deliver : ByteArray := prog_1_method_4_code
abbrev cX4_channelBetween : ByteArray := prog_1_method_25_code
abbrev cX1_valueAt : ByteArray := prog_3_method_5_code
abbrev cX1_dropThrough : ByteArray := prog_3_method_8_code
abbrev cX4_step : ByteArray := prog_1_method_5_code
abbrev cX4_doNext : ByteArray := prog_1_method_26_code
abbrev cX2_has : ByteArray := prog_4_method_3_code
abbrev cX4_placeAfter : ByteArray := prog_1_method_27_code
abbrev cX4_perform : ByteArray := prog_1_method_28_code
abbrev cX4_trySend : ByteArray := prog_1_method_29_code
abbrev cX4_tryReceive : ByteArray := prog_1_method_30_code
abbrev cX1_has : ByteArray := prog_3_method_4_code
abbrev cX1_originAt : ByteArray := prog_3_method_6_code
abbrev cX4_tryPut : ByteArray := prog_1_method_31_code
abbrev cX4_run : ByteArray := prog_1_method_6_code
abbrev cX4_checkpoint : ByteArray := prog_1_method_7_code
abbrev cX3_copyFrom : ByteArray := prog_5_method_2_code
abbrev cX4_crash : ByteArray := prog_1_method_8_code
abbrev cX4_recover : ByteArray := prog_1_method_9_code
abbrev cX4_register : ByteArray := prog_1_method_10_code
abbrev cX4_state : ByteArray := prog_1_method_11_code
abbrev cX4_sent : ByteArray := prog_1_method_12_code
abbrev cX4_kept : ByteArray := prog_1_method_13_code
abbrev cX4_source : ByteArray := prog_1_method_14_code
abbrev cX4_waiting : ByteArray := prog_1_method_15_code
abbrev cX4_held : ByteArray := prog_1_method_16_code
abbrev cX4_outputs : ByteArray := prog_1_method_17_code
abbrev cX4_author : ByteArray := prog_1_method_18_code
abbrev cX4_outputNumber : ByteArray := prog_1_method_24_code
abbrev cX4_output : ByteArray := prog_1_method_19_code
abbrev cX5_init : ByteArray := prog_7_method_1_code
abbrev cX5_code : ByteArray := prog_7_method_6_code
abbrev cX5_isProcess : ByteArray := prog_7_method_2_code
abbrev cX5_isChannel : ByteArray := prog_7_method_3_code
abbrev cX5_isRegister : ByteArray := prog_7_method_4_code
abbrev cX5_usesB : ByteArray := prog_7_method_5_code
abbrev cX5_input : ByteArray := prog_7_method_13_code
abbrev cX5_kept0 : ByteArray := prog_7_method_11_code
abbrev cX5_append : ByteArray := prog_7_method_12_code
abbrev cX5_deliver : ByteArray := prog_7_method_14_code
abbrev cX5_step : ByteArray := prog_7_method_15_code
abbrev cX5_load : ByteArray := prog_7_method_10_code
abbrev cX5_go : ByteArray := prog_7_method_7_code
abbrev cX5_sends : ByteArray := prog_7_method_8_code
abbrev cX5_puts : ByteArray := prog_7_method_9_code
abbrev cX5_run : ByteArray := prog_7_method_16_code
abbrev cX5_checkpoint : ByteArray := prog_7_method_17_code
abbrev cX5_crash : ByteArray := prog_7_method_18_code
abbrev cX5_recover : ByteArray := prog_7_method_19_code
abbrev cX5_register : ByteArray := prog_7_method_20_code
abbrev cX5_state : ByteArray := prog_7_method_21_code
abbrev cX5_sent : ByteArray := prog_7_method_22_code
abbrev cX5_kept : ByteArray := prog_7_method_23_code
abbrev cX5_source : ByteArray := prog_7_method_24_code
abbrev cX5_waiting : ByteArray := prog_7_method_25_code
abbrev cX5_held : ByteArray := prog_7_method_26_code
abbrev cX5_outputs : ByteArray := prog_7_method_27_code
abbrev cX5_author : ByteArray := prog_7_method_28_code
abbrev cX5_output : ByteArray := prog_7_method_29_code
def gw0 : List Cond := [.initialized RL, .initialized RX4, .initialized RX0, .initialized RX2, .initialized RX3, .initialized RX1, .initialized RX5, .initialized RJ, .initialized RY, .classLink RL 7 RX4, .instantiable RX4 3, .methodLink RL 9 yX4_init, .instanceMethod yX4_init, .code yX4_init cX4_init 2 none, .methodLink RX4 1 objectInit, .instanceMethod objectInit, .code objectInit ⟨#[0xb1]⟩ 1 none, .classLink RX4 9 RX0, .instantiable RX0 8, .instanceMethod yX0_init, .code yX0_init cX0_init 1 none, .methodLink RX0 3 objectInit, .classLink RX0 9 RX2, .instantiable RX2 4, .instanceMethod yX2_init, .code yX2_init cX2_init 1 none, .methodLink RX2 3 objectInit, .fieldLink RX2 9 "ReplayGroup$Program" "ops" "[I", .fieldLink RX4 142 "ReplayGroup$Program" "ops" "[I", .fieldLink RX2 15 "ReplayGroup$Program" "firsts" "[I", .fieldLink RX4 145 "ReplayGroup$Program" "firsts" "[I", .fieldLink RX2 18 "ReplayGroup$Program" "seconds" "[I", .fieldLink RX4 148 "ReplayGroup$Program" "seconds" "[I", .fieldLink RX2 21 "ReplayGroup$Program" "length" "I", .laysFinal RX2 "ReplayGroup$Program" "ops" "[I", .laysFinal RX2 "ReplayGroup$Program" "firsts" "[I", .laysFinal RX2 "ReplayGroup$Program" "seconds" "[I", .lays RX2 "ReplayGroup$Program" "length" "I", .arrayClass .int, .classLink RX0 18 RX3, .instantiable RX3 6, .instanceMethod yX3_init, .code yX3_init cX3_init 1 none, .methodLink RX3 3 objectInit, .fieldLink RX3 9 "ReplayGroup$State" "registers" "[I", .fieldLink RX4 113 "ReplayGroup$State" "registers" "[I", .fieldLink RX3 15 "ReplayGroup$State" "sentTo" "[I", .fieldLink RX4 126 "ReplayGroup$State" "sentTo" "[I", .fieldLink RX3 24 "ReplayGroup$State" "place" "I", .fieldLink RX4 117 "ReplayGroup$State" "place" "I"]
def gw1 : List Cond := [.fieldLink RX3 28 "ReplayGroup$State" "age" "I", .fieldLink RX4 120 "ReplayGroup$State" "age" "I", .fieldLink RX3 31 "ReplayGroup$State" "took" "I", .fieldLink RX4 104 "ReplayGroup$State" "took" "I", .fieldLink RX3 34 "ReplayGroup$State" "putOut" "I", .fieldLink RX4 123 "ReplayGroup$State" "putOut" "I", .laysFinal RX3 "ReplayGroup$State" "registers" "[I", .laysFinal RX3 "ReplayGroup$State" "sentTo" "[I", .lays RX3 "ReplayGroup$State" "place" "I", .lays RX3 "ReplayGroup$State" "age" "I", .lays RX3 "ReplayGroup$State" "took" "I", .lays RX3 "ReplayGroup$State" "putOut" "I", .classLink RX0 28 RX1, .instantiable RX1 4, .methodLink RX0 30 yX1_init, .instanceMethod yX1_init, .code yX1_init cX1_init 2 none, .methodLink RX1 1 objectInit, .fieldLink RX1 7 "ReplayGroup$NumberedRow" "values" "[I", .fieldLink RX1 13 "ReplayGroup$NumberedRow" "origins" "[I", .fieldLink RX1 20 "ReplayGroup$NumberedRow" "gone" "I", .fieldLink RX4 77 "ReplayGroup$NumberedRow" "gone" "I", .fieldLink RX1 16 "ReplayGroup$NumberedRow" "last" "I", .fieldLink RX4 107 "ReplayGroup$NumberedRow" "last" "I", .laysFinal RX1 "ReplayGroup$NumberedRow" "values" "[I", .laysFinal RX1 "ReplayGroup$NumberedRow" "origins" "[I", .lays RX1 "ReplayGroup$NumberedRow" "gone" "I", .lays RX1 "ReplayGroup$NumberedRow" "last" "I", .fieldLink RX0 12 "ReplayGroup$Member" "program" "LReplayGroup$Program;", .fieldLink RX4 41 "ReplayGroup$Member" "program" "LReplayGroup$Program;", .fieldLink RX0 21 "ReplayGroup$Member" "current" "LReplayGroup$State;", .fieldLink RX4 95 "ReplayGroup$Member" "current" "LReplayGroup$State;", .fieldLink RX0 25 "ReplayGroup$Member" "saved" "LReplayGroup$State;", .fieldLink RX4 91 "ReplayGroup$Member" "saved" "LReplayGroup$State;", .fieldLink RX0 33 "ReplayGroup$Member" "log" "LReplayGroup$NumberedRow;", .fieldLink RX4 58 "ReplayGroup$Member" "log" "LReplayGroup$NumberedRow;", .fieldLink RX0 37 "ReplayGroup$Member" "up" "Z", .fieldLink RX4 55 "ReplayGroup$Member" "up" "Z", .fieldLink RX4 37 "ReplayGroup$Member" "began" "Z", .fieldLink RX4 168 "ReplayGroup$Member" "everPutOut" "I", .fieldLink RX4 135 "ReplayGroup$Member" "heldBack" "I", .laysFinal RX0 "ReplayGroup$Member" "program" "LReplayGroup$Program;", .laysFinal RX0 "ReplayGroup$Member" "current" "LReplayGroup$State;", .laysFinal RX0 "ReplayGroup$Member" "saved" "LReplayGroup$State;", .laysFinal RX0 "ReplayGroup$Member" "log" "LReplayGroup$NumberedRow;", .lays RX0 "ReplayGroup$Member" "up" "Z", .lays RX0 "ReplayGroup$Member" "began" "Z", .lays RX0 "ReplayGroup$Member" "everPutOut" "I", .lays RX0 "ReplayGroup$Member" "heldBack" "I", .classLink RX4 16 RX1]
def gw2 : List Cond := [.methodLink RX4 22 yX1_init, .fieldLink RX4 11 "ReplayGroup" "members" "[LReplayGroup$Member;", .fieldLink RX4 18 "ReplayGroup" "channels" "[LReplayGroup$NumberedRow;", .fieldLink RX4 25 "ReplayGroup" "shown" "LReplayGroup$NumberedRow;", .laysFinal RX4 "ReplayGroup" "members" "[LReplayGroup$Member;", .laysFinal RX4 "ReplayGroup" "channels" "[LReplayGroup$NumberedRow;", .laysFinal RX4 "ReplayGroup" "shown" "LReplayGroup$NumberedRow;", .methodLink RL 13 yX4_code, .instanceMethod yX4_code, .selects RX4 yX4_code yX4_code, .code yX4_code cX4_code 6 (some .boolean), .methodLink RX4 29 yX4_isProcess, .static yX4_isProcess, .code yX4_isProcess cX4_isProcess 1 (some .boolean), .methodLink RX4 33 yX4_isInstruction, .static yX4_isInstruction, .code yX4_isInstruction cX4_isInstruction 4 (some .boolean), .methodLink RX4 110 yX4_isRegister, .static yX4_isRegister, .code yX4_isRegister cX4_isRegister 1 (some .boolean), .methodLink RX4 65 yX4_isChannel, .static yX4_isChannel, .code yX4_isChannel cX4_isChannel 2 (some .boolean), .methodLink RX4 45 yX2_isFull, .instanceMethod yX2_isFull, .selects RX2 yX2_isFull yX2_isFull, .code yX2_isFull cX2_isFull 1 (some .boolean), .methodLink RX4 51 yX2_append, .instanceMethod yX2_append, .selects RX2 yX2_append yX2_append, .code yX2_append cX2_append 4 none, .methodLink RL 18 yX4_input, .instanceMethod yX4_input, .selects RX4 yX4_input yX4_input, .code yX4_input cX4_input 4 (some .int), .methodLink RX4 61 yX1_isFull, .instanceMethod yX1_isFull, .selects RX1 yX1_isFull yX1_isFull, .code yX1_isFull cX1_isFull 1 (some .boolean), .methodLink RX1 23 yX1_count, .instanceMethod yX1_count, .selects RX1 yX1_count yX1_count, .code yX1_count cX1_count 1 (some .int), .methodLink RX4 62 yX1_append, .instanceMethod yX1_append, .selects RX1 yX1_append yX1_append, .code yX1_append cX1_append 3 (some .int), .methodLink RX1 27 yX1_slot, .instanceMethod yX1_slot, .code yX1_slot cX1_slot 2 (some .int)]
def gw3 : List Cond := [.methodLink RX1 31 yJ_floorMod, .static yJ_floorMod, .code yJ_floorMod cJ_floorMod 3 (some .int), .methodLink RL 23 yX4_deliver, .instanceMethod yX4_deliver, .selects RX4 yX4_deliver yX4_deliver, .code yX4_deliver cX4_deliver 7 (some .int), .methodLink RX4 69 yX4_channelBetween, .instanceMethod yX4_channelBetween, .code yX4_channelBetween cX4_channelBetween 3 (some (.object "ReplayGroup$NumberedRow")), .methodLink RX4 73 yX1_count, .methodLink RX4 81 yX1_valueAt, .instanceMethod yX1_valueAt, .selects RX1 yX1_valueAt yX1_valueAt, .code yX1_valueAt cX1_valueAt 2 (some .int), .methodLink RX4 85 yX1_dropThrough, .instanceMethod yX1_dropThrough, .selects RX1 yX1_dropThrough yX1_dropThrough, .code yX1_dropThrough cX1_dropThrough 3 (some .int), .methodLink RL 27 yX4_step, .instanceMethod yX4_step, .selects RX4 yX4_step yX4_step, .code yX4_step cX4_step 2 (some .int), .methodLink RX4 88 yX4_doNext, .instanceMethod yX4_doNext, .code yX4_doNext cX4_doNext 9 (some .int), .methodLink RX4 141 yX2_has, .instanceMethod yX2_has, .selects RX2 yX2_has yX2_has, .code yX2_has cX2_has 2 (some .boolean), .methodLink RX4 151 yX4_placeAfter, .static yX4_placeAfter, .code yX4_placeAfter cX4_placeAfter 4 (some .int), .methodLink RX4 155 yX4_perform, .instanceMethod yX4_perform, .code yX4_perform cX4_perform 6 (some .boolean), .methodLink RX4 158 yX4_trySend, .instanceMethod yX4_trySend, .code yX4_trySend cX4_trySend 6 (some .boolean), .methodLink RX4 162 yX4_tryReceive, .instanceMethod yX4_tryReceive, .code yX4_tryReceive cX4_tryReceive 6 (some .boolean), .methodLink RX4 129 yX1_has, .instanceMethod yX1_has, .selects RX1 yX1_has yX1_has, .code yX1_has cX1_has 2 (some .boolean), .methodLink RX4 132 yX1_originAt, .instanceMethod yX1_originAt, .selects RX1 yX1_originAt yX1_originAt, .code yX1_originAt cX1_originAt 2 (some .int)]
def gw4 : List Cond := [.methodLink RX4 165 yX4_tryPut, .instanceMethod yX4_tryPut, .code yX4_tryPut cX4_tryPut 4 (some .boolean), .methodLink RL 32 yX4_run, .instanceMethod yX4_run, .selects RX4 yX4_run yX4_run, .code yX4_run cX4_run 4 (some .int), .methodLink RL 36 yX4_checkpoint, .instanceMethod yX4_checkpoint, .selects RX4 yX4_checkpoint yX4_checkpoint, .code yX4_checkpoint cX4_checkpoint 3 (some .int), .methodLink RX4 98 yX3_copyFrom, .instanceMethod yX3_copyFrom, .selects RX3 yX3_copyFrom yX3_copyFrom, .code yX3_copyFrom cX3_copyFrom 2 none, .methodLink RX3 18 arraycopyName, .static arraycopyName, .native arraycopyName, .methodLink RL 40 yX4_crash, .instanceMethod yX4_crash, .selects RX4 yX4_crash yX4_crash, .code yX4_crash cX4_crash 2 (some .boolean), .methodLink RL 45 yX4_recover, .instanceMethod yX4_recover, .selects RX4 yX4_recover yX4_recover, .code yX4_recover cX4_recover 3 (some .int), .methodLink RL 49 yX4_register, .instanceMethod yX4_register, .selects RX4 yX4_register yX4_register, .code yX4_register cX4_register 3 (some .int), .methodLink RL 53 yX4_state, .instanceMethod yX4_state, .selects RX4 yX4_state yX4_state, .code yX4_state cX4_state 4 (some .int), .methodLink RL 57 yX4_sent, .instanceMethod yX4_sent, .selects RX4 yX4_sent yX4_sent, .code yX4_sent cX4_sent 3 (some .int), .methodLink RL 61 yX4_kept, .instanceMethod yX4_kept, .selects RX4 yX4_kept yX4_kept, .code yX4_kept cX4_kept 2 (some .int), .methodLink RL 65 yX4_source, .instanceMethod yX4_source, .selects RX4 yX4_source yX4_source, .code yX4_source cX4_source 4 (some .int), .methodLink RL 69 yX4_waiting, .instanceMethod yX4_waiting, .selects RX4 yX4_waiting yX4_waiting, .code yX4_waiting cX4_waiting 3 (some .int)]
def gw5 : List Cond := [.methodLink RL 73 yX4_held, .instanceMethod yX4_held, .selects RX4 yX4_held yX4_held, .code yX4_held cX4_held 2 (some .int), .methodLink RL 77 yX4_outputs, .instanceMethod yX4_outputs, .selects RX4 yX4_outputs yX4_outputs, .code yX4_outputs cX4_outputs 1 (some .int), .methodLink RL 82 yX4_author, .instanceMethod yX4_author, .selects RX4 yX4_author yX4_author, .code yX4_author cX4_author 3 (some .int), .methodLink RX4 138 yX4_outputNumber, .static yX4_outputNumber, .code yX4_outputNumber cX4_outputNumber 1 (some .int), .methodLink RL 86 yX4_output, .instanceMethod yX4_output, .selects RX4 yX4_output yX4_output, .code yX4_output cX4_output 3 (some .int), .classLink RL 10 RX5, .instantiable RX5 26, .methodLink RL 12 yX5_init, .instanceMethod yX5_init, .code yX5_init cX5_init 1 none, .methodLink RX5 1 objectInit, .fieldLink RX5 7 "ReplayGroupModel" "length" "[I", .fieldLink RX5 13 "ReplayGroupModel" "ops" "[I", .fieldLink RX5 16 "ReplayGroupModel" "as" "[I", .fieldLink RX5 19 "ReplayGroupModel" "bs" "[I", .fieldLink RX5 22 "ReplayGroupModel" "down" "[Z", .fieldLink RX5 26 "ReplayGroupModel" "age" "[I", .fieldLink RX5 29 "ReplayGroupModel" "savedAge" "[I", .fieldLink RX5 32 "ReplayGroupModel" "savedTook" "[I", .fieldLink RX5 35 "ReplayGroupModel" "began" "[Z", .fieldLink RX5 38 "ReplayGroupModel" "heldBack" "[I", .fieldLink RX5 41 "ReplayGroupModel" "total" "[I", .fieldLink RX5 44 "ReplayGroupModel" "log" "[I", .fieldLink RX5 47 "ReplayGroupModel" "origin" "[I", .fieldLink RX5 50 "ReplayGroupModel" "sentEver" "[I", .fieldLink RX5 53 "ReplayGroupModel" "delivered" "[I", .fieldLink RX5 56 "ReplayGroupModel" "inChannel" "[I", .fieldLink RX5 108 "ReplayGroupModel" "outputs" "I", .fieldLink RX5 59 "ReplayGroupModel" "outputOf" "[I", .fieldLink RX5 62 "ReplayGroupModel" "outputValue" "[I", .fieldLink RX5 65 "ReplayGroupModel" "putEver" "[I", .fieldLink RX5 68 "ReplayGroupModel" "reg" "[I", .fieldLink RX5 71 "ReplayGroupModel" "sent" "[I", .fieldLink RX5 88 "ReplayGroupModel" "place" "I", .fieldLink RX5 96 "ReplayGroupModel" "took" "I", .fieldLink RX5 102 "ReplayGroupModel" "put" "I"]
def gw6 : List Cond := [.fieldLink RX5 105 "ReplayGroupModel" "done" "I", .laysFinal RX5 "ReplayGroupModel" "length" "[I", .laysFinal RX5 "ReplayGroupModel" "ops" "[I", .laysFinal RX5 "ReplayGroupModel" "as" "[I", .laysFinal RX5 "ReplayGroupModel" "bs" "[I", .laysFinal RX5 "ReplayGroupModel" "down" "[Z", .laysFinal RX5 "ReplayGroupModel" "age" "[I", .laysFinal RX5 "ReplayGroupModel" "savedAge" "[I", .laysFinal RX5 "ReplayGroupModel" "savedTook" "[I", .laysFinal RX5 "ReplayGroupModel" "began" "[Z", .laysFinal RX5 "ReplayGroupModel" "heldBack" "[I", .laysFinal RX5 "ReplayGroupModel" "total" "[I", .laysFinal RX5 "ReplayGroupModel" "log" "[I", .laysFinal RX5 "ReplayGroupModel" "origin" "[I", .laysFinal RX5 "ReplayGroupModel" "sentEver" "[I", .laysFinal RX5 "ReplayGroupModel" "delivered" "[I", .laysFinal RX5 "ReplayGroupModel" "inChannel" "[I", .lays RX5 "ReplayGroupModel" "outputs" "I", .laysFinal RX5 "ReplayGroupModel" "outputOf" "[I", .laysFinal RX5 "ReplayGroupModel" "outputValue" "[I", .laysFinal RX5 "ReplayGroupModel" "putEver" "[I", .laysFinal RX5 "ReplayGroupModel" "reg" "[I", .laysFinal RX5 "ReplayGroupModel" "sent" "[I", .lays RX5 "ReplayGroupModel" "place" "I", .lays RX5 "ReplayGroupModel" "took" "I", .lays RX5 "ReplayGroupModel" "put" "I", .lays RX5 "ReplayGroupModel" "done" "I", .arrayClass .boolean, .methodLink RL 17 yX5_code, .instanceMethod yX5_code, .selects RX5 yX5_code yX5_code, .code yX5_code cX5_code 7 (some .boolean), .methodLink RX5 74 yX5_isProcess, .static yX5_isProcess, .code yX5_isProcess cX5_isProcess 1 (some .boolean), .methodLink RX5 78 yX5_isChannel, .static yX5_isChannel, .code yX5_isChannel cX5_isChannel 2 (some .boolean), .methodLink RX5 82 yX5_isRegister, .static yX5_isRegister, .code yX5_isRegister cX5_isRegister 1 (some .boolean), .methodLink RX5 85 yX5_usesB, .static yX5_usesB, .code yX5_usesB cX5_usesB 1 (some .boolean), .methodLink RL 22 yX5_input, .instanceMethod yX5_input, .selects RX5 yX5_input yX5_input, .code yX5_input cX5_input 3 (some .int), .methodLink RX5 115 yX5_kept0, .instanceMethod yX5_kept0]
def gw7 : List Cond := [.code yX5_kept0 cX5_kept0 2 (some .int), .methodLink RX5 119 yX5_append, .instanceMethod yX5_append, .code yX5_append cX5_append 4 (some .int), .methodLink RL 26 yX5_deliver, .instanceMethod yX5_deliver, .selects RX5 yX5_deliver yX5_deliver, .code yX5_deliver cX5_deliver 5 (some .int), .methodLink RL 31 yX5_step, .instanceMethod yX5_step, .selects RX5 yX5_step yX5_step, .code yX5_step cX5_step 3 (some .int), .methodLink RX5 123 yX5_load, .instanceMethod yX5_load, .code yX5_load cX5_load 3 none, .methodLink RX5 111 yX5_go, .instanceMethod yX5_go, .code yX5_go cX5_go 7 (some .int), .methodLink RX5 92 yX5_sends, .instanceMethod yX5_sends, .code yX5_sends cX5_sends 5 (some .boolean), .methodLink RX5 99 yX5_puts, .instanceMethod yX5_puts, .code yX5_puts cX5_puts 3 (some .boolean), .methodLink RL 35 yX5_run, .instanceMethod yX5_run, .selects RX5 yX5_run yX5_run, .code yX5_run cX5_run 4 (some .int), .methodLink RL 39 yX5_checkpoint, .instanceMethod yX5_checkpoint, .selects RX5 yX5_checkpoint yX5_checkpoint, .code yX5_checkpoint cX5_checkpoint 3 (some .int), .methodLink RL 44 yX5_crash, .instanceMethod yX5_crash, .selects RX5 yX5_crash yX5_crash, .code yX5_crash cX5_crash 2 (some .boolean), .methodLink RL 48 yX5_recover, .instanceMethod yX5_recover, .selects RX5 yX5_recover yX5_recover, .code yX5_recover cX5_recover 2 (some .int), .methodLink RL 52 yX5_register, .instanceMethod yX5_register, .selects RX5 yX5_register yX5_register, .code yX5_register cX5_register 3 (some .int), .methodLink RL 56 yX5_state, .instanceMethod yX5_state, .selects RX5 yX5_state yX5_state, .code yX5_state cX5_state 3 (some .int), .methodLink RL 60 yX5_sent, .instanceMethod yX5_sent]
def gw8 : List Cond := [.selects RX5 yX5_sent yX5_sent, .code yX5_sent cX5_sent 3 (some .int), .methodLink RL 64 yX5_kept, .instanceMethod yX5_kept, .selects RX5 yX5_kept yX5_kept, .code yX5_kept cX5_kept 2 (some .int), .methodLink RL 68 yX5_source, .instanceMethod yX5_source, .selects RX5 yX5_source yX5_source, .code yX5_source cX5_source 3 (some .int), .methodLink RL 72 yX5_waiting, .instanceMethod yX5_waiting, .selects RX5 yX5_waiting yX5_waiting, .code yX5_waiting cX5_waiting 3 (some .int), .methodLink RL 76 yX5_held, .instanceMethod yX5_held, .selects RX5 yX5_held yX5_held, .code yX5_held cX5_held 2 (some .int), .methodLink RL 81 yX5_outputs, .instanceMethod yX5_outputs, .selects RX5 yX5_outputs yX5_outputs, .code yX5_outputs cX5_outputs 1 (some .int), .methodLink RL 85 yX5_author, .instanceMethod yX5_author, .selects RX5 yX5_author yX5_author, .code yX5_author cX5_author 2 (some .int), .methodLink RL 89 yX5_output, .instanceMethod yX5_output, .selects RX5 yX5_output yX5_output, .code yX5_output cX5_output 2 (some .int), .selects RX1 yX1_slot yX1_slot, .selects RX4 yX4_channelBetween yX4_channelBetween, .selects RX4 yX4_doNext yX4_doNext, .selects RX4 yX4_perform yX4_perform, .selects RX4 yX4_trySend yX4_trySend, .selects RX4 yX4_tryReceive yX4_tryReceive, .selects RX4 yX4_tryPut yX4_tryPut, .selects RX5 yX5_kept0 yX5_kept0, .selects RX5 yX5_append yX5_append, .selects RX5 yX5_load yX5_load, .selects RX5 yX5_go yX5_go, .selects RX5 yX5_sends yX5_sends, .selects RX5 yX5_puts yX5_puts]
def gtbl : List Cond := gw0 ++ (gw1 ++ (gw2 ++ (gw3 ++ (gw4 ++ (gw5 ++ (gw6 ++ (gw7 ++ (gw8))))))))
theorem gm0 : ∀ w ∈ gw0, w ∈ gtbl := fun _ h => (List.mem_append_left _ h)
theorem gm1 : ∀ w ∈ gw1, w ∈ gtbl := fun _ h => (List.mem_append_right _ (List.mem_append_left _ h))
theorem gm2 : ∀ w ∈ gw2, w ∈ gtbl := fun _ h => (List.mem_append_right _ (List.mem_append_right _ (List.mem_append_left _ h)))
theorem gm3 : ∀ w ∈ gw3, w ∈ gtbl := fun _ h => (List.mem_append_right _ (List.mem_append_right _ (List.mem_append_right _ (List.mem_append_left _ h))))
theorem gm4 : ∀ w ∈ gw4, w ∈ gtbl := fun _ h => (List.mem_append_right _ (List.mem_append_right _ (List.mem_append_right _ (List.mem_append_right _ (List.mem_append_left _ h)))))
theorem gm5 : ∀ w ∈ gw5, w ∈ gtbl := fun _ h => (List.mem_append_right _ (List.mem_append_right _ (List.mem_append_right _ (List.mem_append_right _ (List.mem_append_right _ (List.mem_append_left _ h))))))
theorem gm6 : ∀ w ∈ gw6, w ∈ gtbl := fun _ h => (List.mem_append_right _ (List.mem_append_right _ (List.mem_append_right _ (List.mem_append_right _ (List.mem_append_right _ (List.mem_append_right _ (List.mem_append_left _ h)))))))
theorem gm7 : ∀ w ∈ gw7, w ∈ gtbl := fun _ h => (List.mem_append_right _ (List.mem_append_right _ (List.mem_append_right _ (List.mem_append_right _ (List.mem_append_right _ (List.mem_append_right _ (List.mem_append_right _ (List.mem_append_left _ h))))))))
theorem gm8 : ∀ w ∈ gw8, w ∈ gtbl := fun _ h => (List.mem_append_right _ (List.mem_append_right _ (List.mem_append_right _ (List.mem_append_right _ (List.mem_append_right _ (List.mem_append_right _ (List.mem_append_right _ (List.mem_append_right _ h))))))))
theorem k_0 : (.initialized RL : Cond) ∈ gtbl := gm0 _ (List.mem_of_getElem? (i := 0) rfl)
theorem k_1 : (.initialized RX4 : Cond) ∈ gtbl := gm0 _ (List.mem_of_getElem? (i := 1) rfl)
theorem k_2 : (.initialized RX0 : Cond) ∈ gtbl := gm0 _ (List.mem_of_getElem? (i := 2) rfl)
theorem k_3 : (.initialized RX2 : Cond) ∈ gtbl := gm0 _ (List.mem_of_getElem? (i := 3) rfl)
theorem k_4 : (.initialized RX3 : Cond) ∈ gtbl := gm0 _ (List.mem_of_getElem? (i := 4) rfl)
theorem k_5 : (.initialized RX1 : Cond) ∈ gtbl := gm0 _ (List.mem_of_getElem? (i := 5) rfl)
theorem k_6 : (.initialized RX5 : Cond) ∈ gtbl := gm0 _ (List.mem_of_getElem? (i := 6) rfl)
theorem k_7 : (.initialized RJ : Cond) ∈ gtbl := gm0 _ (List.mem_of_getElem? (i := 7) rfl)
theorem k_8 : (.initialized RY : Cond) ∈ gtbl := gm0 _ (List.mem_of_getElem? (i := 8) rfl)
theorem k_9 : (.classLink RL 7 RX4 : Cond) ∈ gtbl := gm0 _ (List.mem_of_getElem? (i := 9) rfl)
theorem k_10 : (.instantiable RX4 3 : Cond) ∈ gtbl := gm0 _ (List.mem_of_getElem? (i := 10) rfl)
theorem k_11 : (.methodLink RL 9 yX4_init : Cond) ∈ gtbl := gm0 _ (List.mem_of_getElem? (i := 11) rfl)
theorem k_12 : (.instanceMethod yX4_init : Cond) ∈ gtbl := gm0 _ (List.mem_of_getElem? (i := 12) rfl)
theorem k_13 : (.code yX4_init cX4_init 2 none : Cond) ∈ gtbl := gm0 _ (List.mem_of_getElem? (i := 13) rfl)
theorem k_14 : (.methodLink RX4 1 objectInit : Cond) ∈ gtbl := gm0 _ (List.mem_of_getElem? (i := 14) rfl)
theorem k_15 : (.instanceMethod objectInit : Cond) ∈ gtbl := gm0 _ (List.mem_of_getElem? (i := 15) rfl)
theorem k_16 : (.code objectInit ⟨#[0xb1]⟩ 1 none : Cond) ∈ gtbl := gm0 _ (List.mem_of_getElem? (i := 16) rfl)
theorem k_17 : (.classLink RX4 9 RX0 : Cond) ∈ gtbl := gm0 _ (List.mem_of_getElem? (i := 17) rfl)
theorem k_18 : (.instantiable RX0 8 : Cond) ∈ gtbl := gm0 _ (List.mem_of_getElem? (i := 18) rfl)
theorem k_19 : (.instanceMethod yX0_init : Cond) ∈ gtbl := gm0 _ (List.mem_of_getElem? (i := 19) rfl)
theorem k_20 : (.code yX0_init cX0_init 1 none : Cond) ∈ gtbl := gm0 _ (List.mem_of_getElem? (i := 20) rfl)
theorem k_21 : (.methodLink RX0 3 objectInit : Cond) ∈ gtbl := gm0 _ (List.mem_of_getElem? (i := 21) rfl)
theorem k_22 : (.classLink RX0 9 RX2 : Cond) ∈ gtbl := gm0 _ (List.mem_of_getElem? (i := 22) rfl)
theorem k_23 : (.instantiable RX2 4 : Cond) ∈ gtbl := gm0 _ (List.mem_of_getElem? (i := 23) rfl)
theorem k_24 : (.instanceMethod yX2_init : Cond) ∈ gtbl := gm0 _ (List.mem_of_getElem? (i := 24) rfl)
theorem k_25 : (.code yX2_init cX2_init 1 none : Cond) ∈ gtbl := gm0 _ (List.mem_of_getElem? (i := 25) rfl)
theorem k_26 : (.methodLink RX2 3 objectInit : Cond) ∈ gtbl := gm0 _ (List.mem_of_getElem? (i := 26) rfl)
theorem k_27 : (.fieldLink RX2 9 "ReplayGroup$Program" "ops" "[I" : Cond) ∈ gtbl := gm0 _ (List.mem_of_getElem? (i := 27) rfl)
theorem k_28 : (.fieldLink RX4 142 "ReplayGroup$Program" "ops" "[I" : Cond) ∈ gtbl := gm0 _ (List.mem_of_getElem? (i := 28) rfl)
theorem k_29 : (.fieldLink RX2 15 "ReplayGroup$Program" "firsts" "[I" : Cond) ∈ gtbl := gm0 _ (List.mem_of_getElem? (i := 29) rfl)
theorem k_30 : (.fieldLink RX4 145 "ReplayGroup$Program" "firsts" "[I" : Cond) ∈ gtbl := gm0 _ (List.mem_of_getElem? (i := 30) rfl)
theorem k_31 : (.fieldLink RX2 18 "ReplayGroup$Program" "seconds" "[I" : Cond) ∈ gtbl := gm0 _ (List.mem_of_getElem? (i := 31) rfl)
theorem k_32 : (.fieldLink RX4 148 "ReplayGroup$Program" "seconds" "[I" : Cond) ∈ gtbl := gm0 _ (List.mem_of_getElem? (i := 32) rfl)
theorem k_33 : (.fieldLink RX2 21 "ReplayGroup$Program" "length" "I" : Cond) ∈ gtbl := gm0 _ (List.mem_of_getElem? (i := 33) rfl)
theorem k_34 : (.laysFinal RX2 "ReplayGroup$Program" "ops" "[I" : Cond) ∈ gtbl := gm0 _ (List.mem_of_getElem? (i := 34) rfl)
theorem k_35 : (.laysFinal RX2 "ReplayGroup$Program" "firsts" "[I" : Cond) ∈ gtbl := gm0 _ (List.mem_of_getElem? (i := 35) rfl)
theorem k_36 : (.laysFinal RX2 "ReplayGroup$Program" "seconds" "[I" : Cond) ∈ gtbl := gm0 _ (List.mem_of_getElem? (i := 36) rfl)
theorem k_37 : (.lays RX2 "ReplayGroup$Program" "length" "I" : Cond) ∈ gtbl := gm0 _ (List.mem_of_getElem? (i := 37) rfl)
theorem k_38 : (.arrayClass .int : Cond) ∈ gtbl := gm0 _ (List.mem_of_getElem? (i := 38) rfl)
theorem k_39 : (.classLink RX0 18 RX3 : Cond) ∈ gtbl := gm0 _ (List.mem_of_getElem? (i := 39) rfl)
theorem k_40 : (.instantiable RX3 6 : Cond) ∈ gtbl := gm0 _ (List.mem_of_getElem? (i := 40) rfl)
theorem k_41 : (.instanceMethod yX3_init : Cond) ∈ gtbl := gm0 _ (List.mem_of_getElem? (i := 41) rfl)
theorem k_42 : (.code yX3_init cX3_init 1 none : Cond) ∈ gtbl := gm0 _ (List.mem_of_getElem? (i := 42) rfl)
theorem k_43 : (.methodLink RX3 3 objectInit : Cond) ∈ gtbl := gm0 _ (List.mem_of_getElem? (i := 43) rfl)
theorem k_44 : (.fieldLink RX3 9 "ReplayGroup$State" "registers" "[I" : Cond) ∈ gtbl := gm0 _ (List.mem_of_getElem? (i := 44) rfl)
theorem k_45 : (.fieldLink RX4 113 "ReplayGroup$State" "registers" "[I" : Cond) ∈ gtbl := gm0 _ (List.mem_of_getElem? (i := 45) rfl)
theorem k_46 : (.fieldLink RX3 15 "ReplayGroup$State" "sentTo" "[I" : Cond) ∈ gtbl := gm0 _ (List.mem_of_getElem? (i := 46) rfl)
theorem k_47 : (.fieldLink RX4 126 "ReplayGroup$State" "sentTo" "[I" : Cond) ∈ gtbl := gm0 _ (List.mem_of_getElem? (i := 47) rfl)
theorem k_48 : (.fieldLink RX3 24 "ReplayGroup$State" "place" "I" : Cond) ∈ gtbl := gm0 _ (List.mem_of_getElem? (i := 48) rfl)
theorem k_49 : (.fieldLink RX4 117 "ReplayGroup$State" "place" "I" : Cond) ∈ gtbl := gm0 _ (List.mem_of_getElem? (i := 49) rfl)
theorem k_50 : (.fieldLink RX3 28 "ReplayGroup$State" "age" "I" : Cond) ∈ gtbl := gm1 _ (List.mem_of_getElem? (i := 0) rfl)
theorem k_51 : (.fieldLink RX4 120 "ReplayGroup$State" "age" "I" : Cond) ∈ gtbl := gm1 _ (List.mem_of_getElem? (i := 1) rfl)
theorem k_52 : (.fieldLink RX3 31 "ReplayGroup$State" "took" "I" : Cond) ∈ gtbl := gm1 _ (List.mem_of_getElem? (i := 2) rfl)
theorem k_53 : (.fieldLink RX4 104 "ReplayGroup$State" "took" "I" : Cond) ∈ gtbl := gm1 _ (List.mem_of_getElem? (i := 3) rfl)
theorem k_54 : (.fieldLink RX3 34 "ReplayGroup$State" "putOut" "I" : Cond) ∈ gtbl := gm1 _ (List.mem_of_getElem? (i := 4) rfl)
theorem k_55 : (.fieldLink RX4 123 "ReplayGroup$State" "putOut" "I" : Cond) ∈ gtbl := gm1 _ (List.mem_of_getElem? (i := 5) rfl)
theorem k_56 : (.laysFinal RX3 "ReplayGroup$State" "registers" "[I" : Cond) ∈ gtbl := gm1 _ (List.mem_of_getElem? (i := 6) rfl)
theorem k_57 : (.laysFinal RX3 "ReplayGroup$State" "sentTo" "[I" : Cond) ∈ gtbl := gm1 _ (List.mem_of_getElem? (i := 7) rfl)
theorem k_58 : (.lays RX3 "ReplayGroup$State" "place" "I" : Cond) ∈ gtbl := gm1 _ (List.mem_of_getElem? (i := 8) rfl)
theorem k_59 : (.lays RX3 "ReplayGroup$State" "age" "I" : Cond) ∈ gtbl := gm1 _ (List.mem_of_getElem? (i := 9) rfl)
theorem k_60 : (.lays RX3 "ReplayGroup$State" "took" "I" : Cond) ∈ gtbl := gm1 _ (List.mem_of_getElem? (i := 10) rfl)
theorem k_61 : (.lays RX3 "ReplayGroup$State" "putOut" "I" : Cond) ∈ gtbl := gm1 _ (List.mem_of_getElem? (i := 11) rfl)
theorem k_62 : (.classLink RX0 28 RX1 : Cond) ∈ gtbl := gm1 _ (List.mem_of_getElem? (i := 12) rfl)
theorem k_63 : (.instantiable RX1 4 : Cond) ∈ gtbl := gm1 _ (List.mem_of_getElem? (i := 13) rfl)
theorem k_64 : (.methodLink RX0 30 yX1_init : Cond) ∈ gtbl := gm1 _ (List.mem_of_getElem? (i := 14) rfl)
theorem k_65 : (.instanceMethod yX1_init : Cond) ∈ gtbl := gm1 _ (List.mem_of_getElem? (i := 15) rfl)
theorem k_66 : (.code yX1_init cX1_init 2 none : Cond) ∈ gtbl := gm1 _ (List.mem_of_getElem? (i := 16) rfl)
theorem k_67 : (.methodLink RX1 1 objectInit : Cond) ∈ gtbl := gm1 _ (List.mem_of_getElem? (i := 17) rfl)
theorem k_68 : (.fieldLink RX1 7 "ReplayGroup$NumberedRow" "values" "[I" : Cond) ∈ gtbl := gm1 _ (List.mem_of_getElem? (i := 18) rfl)
theorem k_69 : (.fieldLink RX1 13 "ReplayGroup$NumberedRow" "origins" "[I" : Cond) ∈ gtbl := gm1 _ (List.mem_of_getElem? (i := 19) rfl)
theorem k_70 : (.fieldLink RX1 20 "ReplayGroup$NumberedRow" "gone" "I" : Cond) ∈ gtbl := gm1 _ (List.mem_of_getElem? (i := 20) rfl)
theorem k_71 : (.fieldLink RX4 77 "ReplayGroup$NumberedRow" "gone" "I" : Cond) ∈ gtbl := gm1 _ (List.mem_of_getElem? (i := 21) rfl)
theorem k_72 : (.fieldLink RX1 16 "ReplayGroup$NumberedRow" "last" "I" : Cond) ∈ gtbl := gm1 _ (List.mem_of_getElem? (i := 22) rfl)
theorem k_73 : (.fieldLink RX4 107 "ReplayGroup$NumberedRow" "last" "I" : Cond) ∈ gtbl := gm1 _ (List.mem_of_getElem? (i := 23) rfl)
theorem k_74 : (.laysFinal RX1 "ReplayGroup$NumberedRow" "values" "[I" : Cond) ∈ gtbl := gm1 _ (List.mem_of_getElem? (i := 24) rfl)
theorem k_75 : (.laysFinal RX1 "ReplayGroup$NumberedRow" "origins" "[I" : Cond) ∈ gtbl := gm1 _ (List.mem_of_getElem? (i := 25) rfl)
theorem k_76 : (.lays RX1 "ReplayGroup$NumberedRow" "gone" "I" : Cond) ∈ gtbl := gm1 _ (List.mem_of_getElem? (i := 26) rfl)
theorem k_77 : (.lays RX1 "ReplayGroup$NumberedRow" "last" "I" : Cond) ∈ gtbl := gm1 _ (List.mem_of_getElem? (i := 27) rfl)
theorem k_78 : (.fieldLink RX0 12 "ReplayGroup$Member" "program" "LReplayGroup$Program;" : Cond) ∈ gtbl := gm1 _ (List.mem_of_getElem? (i := 28) rfl)
theorem k_79 : (.fieldLink RX4 41 "ReplayGroup$Member" "program" "LReplayGroup$Program;" : Cond) ∈ gtbl := gm1 _ (List.mem_of_getElem? (i := 29) rfl)
theorem k_80 : (.fieldLink RX0 21 "ReplayGroup$Member" "current" "LReplayGroup$State;" : Cond) ∈ gtbl := gm1 _ (List.mem_of_getElem? (i := 30) rfl)
theorem k_81 : (.fieldLink RX4 95 "ReplayGroup$Member" "current" "LReplayGroup$State;" : Cond) ∈ gtbl := gm1 _ (List.mem_of_getElem? (i := 31) rfl)
theorem k_82 : (.fieldLink RX0 25 "ReplayGroup$Member" "saved" "LReplayGroup$State;" : Cond) ∈ gtbl := gm1 _ (List.mem_of_getElem? (i := 32) rfl)
theorem k_83 : (.fieldLink RX4 91 "ReplayGroup$Member" "saved" "LReplayGroup$State;" : Cond) ∈ gtbl := gm1 _ (List.mem_of_getElem? (i := 33) rfl)
theorem k_84 : (.fieldLink RX0 33 "ReplayGroup$Member" "log" "LReplayGroup$NumberedRow;" : Cond) ∈ gtbl := gm1 _ (List.mem_of_getElem? (i := 34) rfl)
theorem k_85 : (.fieldLink RX4 58 "ReplayGroup$Member" "log" "LReplayGroup$NumberedRow;" : Cond) ∈ gtbl := gm1 _ (List.mem_of_getElem? (i := 35) rfl)
theorem k_86 : (.fieldLink RX0 37 "ReplayGroup$Member" "up" "Z" : Cond) ∈ gtbl := gm1 _ (List.mem_of_getElem? (i := 36) rfl)
theorem k_87 : (.fieldLink RX4 55 "ReplayGroup$Member" "up" "Z" : Cond) ∈ gtbl := gm1 _ (List.mem_of_getElem? (i := 37) rfl)
theorem k_88 : (.fieldLink RX4 37 "ReplayGroup$Member" "began" "Z" : Cond) ∈ gtbl := gm1 _ (List.mem_of_getElem? (i := 38) rfl)
theorem k_89 : (.fieldLink RX4 168 "ReplayGroup$Member" "everPutOut" "I" : Cond) ∈ gtbl := gm1 _ (List.mem_of_getElem? (i := 39) rfl)
theorem k_90 : (.fieldLink RX4 135 "ReplayGroup$Member" "heldBack" "I" : Cond) ∈ gtbl := gm1 _ (List.mem_of_getElem? (i := 40) rfl)
theorem k_91 : (.laysFinal RX0 "ReplayGroup$Member" "program" "LReplayGroup$Program;" : Cond) ∈ gtbl := gm1 _ (List.mem_of_getElem? (i := 41) rfl)
theorem k_92 : (.laysFinal RX0 "ReplayGroup$Member" "current" "LReplayGroup$State;" : Cond) ∈ gtbl := gm1 _ (List.mem_of_getElem? (i := 42) rfl)
theorem k_93 : (.laysFinal RX0 "ReplayGroup$Member" "saved" "LReplayGroup$State;" : Cond) ∈ gtbl := gm1 _ (List.mem_of_getElem? (i := 43) rfl)
theorem k_94 : (.laysFinal RX0 "ReplayGroup$Member" "log" "LReplayGroup$NumberedRow;" : Cond) ∈ gtbl := gm1 _ (List.mem_of_getElem? (i := 44) rfl)
theorem k_95 : (.lays RX0 "ReplayGroup$Member" "up" "Z" : Cond) ∈ gtbl := gm1 _ (List.mem_of_getElem? (i := 45) rfl)
theorem k_96 : (.lays RX0 "ReplayGroup$Member" "began" "Z" : Cond) ∈ gtbl := gm1 _ (List.mem_of_getElem? (i := 46) rfl)
theorem k_97 : (.lays RX0 "ReplayGroup$Member" "everPutOut" "I" : Cond) ∈ gtbl := gm1 _ (List.mem_of_getElem? (i := 47) rfl)
theorem k_98 : (.lays RX0 "ReplayGroup$Member" "heldBack" "I" : Cond) ∈ gtbl := gm1 _ (List.mem_of_getElem? (i := 48) rfl)
theorem k_99 : (.classLink RX4 16 RX1 : Cond) ∈ gtbl := gm1 _ (List.mem_of_getElem? (i := 49) rfl)
theorem k_100 : (.methodLink RX4 22 yX1_init : Cond) ∈ gtbl := gm2 _ (List.mem_of_getElem? (i := 0) rfl)
theorem k_101 : (.fieldLink RX4 11 "ReplayGroup" "members" "[LReplayGroup$Member;" : Cond) ∈ gtbl := gm2 _ (List.mem_of_getElem? (i := 1) rfl)
theorem k_102 : (.fieldLink RX4 18 "ReplayGroup" "channels" "[LReplayGroup$NumberedRow;" : Cond) ∈ gtbl := gm2 _ (List.mem_of_getElem? (i := 2) rfl)
theorem k_103 : (.fieldLink RX4 25 "ReplayGroup" "shown" "LReplayGroup$NumberedRow;" : Cond) ∈ gtbl := gm2 _ (List.mem_of_getElem? (i := 3) rfl)
theorem k_104 : (.laysFinal RX4 "ReplayGroup" "members" "[LReplayGroup$Member;" : Cond) ∈ gtbl := gm2 _ (List.mem_of_getElem? (i := 4) rfl)
theorem k_105 : (.laysFinal RX4 "ReplayGroup" "channels" "[LReplayGroup$NumberedRow;" : Cond) ∈ gtbl := gm2 _ (List.mem_of_getElem? (i := 5) rfl)
theorem k_106 : (.laysFinal RX4 "ReplayGroup" "shown" "LReplayGroup$NumberedRow;" : Cond) ∈ gtbl := gm2 _ (List.mem_of_getElem? (i := 6) rfl)
theorem k_107 : (.methodLink RL 13 yX4_code : Cond) ∈ gtbl := gm2 _ (List.mem_of_getElem? (i := 7) rfl)
theorem k_108 : (.instanceMethod yX4_code : Cond) ∈ gtbl := gm2 _ (List.mem_of_getElem? (i := 8) rfl)
theorem k_109 : (.selects RX4 yX4_code yX4_code : Cond) ∈ gtbl := gm2 _ (List.mem_of_getElem? (i := 9) rfl)
theorem k_110 : (.code yX4_code cX4_code 6 (some .boolean) : Cond) ∈ gtbl := gm2 _ (List.mem_of_getElem? (i := 10) rfl)
theorem k_111 : (.methodLink RX4 29 yX4_isProcess : Cond) ∈ gtbl := gm2 _ (List.mem_of_getElem? (i := 11) rfl)
theorem k_112 : (.static yX4_isProcess : Cond) ∈ gtbl := gm2 _ (List.mem_of_getElem? (i := 12) rfl)
theorem k_113 : (.code yX4_isProcess cX4_isProcess 1 (some .boolean) : Cond) ∈ gtbl := gm2 _ (List.mem_of_getElem? (i := 13) rfl)
theorem k_114 : (.methodLink RX4 33 yX4_isInstruction : Cond) ∈ gtbl := gm2 _ (List.mem_of_getElem? (i := 14) rfl)
theorem k_115 : (.static yX4_isInstruction : Cond) ∈ gtbl := gm2 _ (List.mem_of_getElem? (i := 15) rfl)
theorem k_116 : (.code yX4_isInstruction cX4_isInstruction 4 (some .boolean) : Cond) ∈ gtbl := gm2 _ (List.mem_of_getElem? (i := 16) rfl)
theorem k_117 : (.methodLink RX4 110 yX4_isRegister : Cond) ∈ gtbl := gm2 _ (List.mem_of_getElem? (i := 17) rfl)
theorem k_118 : (.static yX4_isRegister : Cond) ∈ gtbl := gm2 _ (List.mem_of_getElem? (i := 18) rfl)
theorem k_119 : (.code yX4_isRegister cX4_isRegister 1 (some .boolean) : Cond) ∈ gtbl := gm2 _ (List.mem_of_getElem? (i := 19) rfl)
theorem k_120 : (.methodLink RX4 65 yX4_isChannel : Cond) ∈ gtbl := gm2 _ (List.mem_of_getElem? (i := 20) rfl)
theorem k_121 : (.static yX4_isChannel : Cond) ∈ gtbl := gm2 _ (List.mem_of_getElem? (i := 21) rfl)
theorem k_122 : (.code yX4_isChannel cX4_isChannel 2 (some .boolean) : Cond) ∈ gtbl := gm2 _ (List.mem_of_getElem? (i := 22) rfl)
theorem k_123 : (.methodLink RX4 45 yX2_isFull : Cond) ∈ gtbl := gm2 _ (List.mem_of_getElem? (i := 23) rfl)
theorem k_124 : (.instanceMethod yX2_isFull : Cond) ∈ gtbl := gm2 _ (List.mem_of_getElem? (i := 24) rfl)
theorem k_125 : (.selects RX2 yX2_isFull yX2_isFull : Cond) ∈ gtbl := gm2 _ (List.mem_of_getElem? (i := 25) rfl)
theorem k_126 : (.code yX2_isFull cX2_isFull 1 (some .boolean) : Cond) ∈ gtbl := gm2 _ (List.mem_of_getElem? (i := 26) rfl)
theorem k_127 : (.methodLink RX4 51 yX2_append : Cond) ∈ gtbl := gm2 _ (List.mem_of_getElem? (i := 27) rfl)
theorem k_128 : (.instanceMethod yX2_append : Cond) ∈ gtbl := gm2 _ (List.mem_of_getElem? (i := 28) rfl)
theorem k_129 : (.selects RX2 yX2_append yX2_append : Cond) ∈ gtbl := gm2 _ (List.mem_of_getElem? (i := 29) rfl)
theorem k_130 : (.code yX2_append cX2_append 4 none : Cond) ∈ gtbl := gm2 _ (List.mem_of_getElem? (i := 30) rfl)
theorem k_131 : (.methodLink RL 18 yX4_input : Cond) ∈ gtbl := gm2 _ (List.mem_of_getElem? (i := 31) rfl)
theorem k_132 : (.instanceMethod yX4_input : Cond) ∈ gtbl := gm2 _ (List.mem_of_getElem? (i := 32) rfl)
theorem k_133 : (.selects RX4 yX4_input yX4_input : Cond) ∈ gtbl := gm2 _ (List.mem_of_getElem? (i := 33) rfl)
theorem k_134 : (.code yX4_input cX4_input 4 (some .int) : Cond) ∈ gtbl := gm2 _ (List.mem_of_getElem? (i := 34) rfl)
theorem k_135 : (.methodLink RX4 61 yX1_isFull : Cond) ∈ gtbl := gm2 _ (List.mem_of_getElem? (i := 35) rfl)
theorem k_136 : (.instanceMethod yX1_isFull : Cond) ∈ gtbl := gm2 _ (List.mem_of_getElem? (i := 36) rfl)
theorem k_137 : (.selects RX1 yX1_isFull yX1_isFull : Cond) ∈ gtbl := gm2 _ (List.mem_of_getElem? (i := 37) rfl)
theorem k_138 : (.code yX1_isFull cX1_isFull 1 (some .boolean) : Cond) ∈ gtbl := gm2 _ (List.mem_of_getElem? (i := 38) rfl)
theorem k_139 : (.methodLink RX1 23 yX1_count : Cond) ∈ gtbl := gm2 _ (List.mem_of_getElem? (i := 39) rfl)
theorem k_140 : (.instanceMethod yX1_count : Cond) ∈ gtbl := gm2 _ (List.mem_of_getElem? (i := 40) rfl)
theorem k_141 : (.selects RX1 yX1_count yX1_count : Cond) ∈ gtbl := gm2 _ (List.mem_of_getElem? (i := 41) rfl)
theorem k_142 : (.code yX1_count cX1_count 1 (some .int) : Cond) ∈ gtbl := gm2 _ (List.mem_of_getElem? (i := 42) rfl)
theorem k_143 : (.methodLink RX4 62 yX1_append : Cond) ∈ gtbl := gm2 _ (List.mem_of_getElem? (i := 43) rfl)
theorem k_144 : (.instanceMethod yX1_append : Cond) ∈ gtbl := gm2 _ (List.mem_of_getElem? (i := 44) rfl)
theorem k_145 : (.selects RX1 yX1_append yX1_append : Cond) ∈ gtbl := gm2 _ (List.mem_of_getElem? (i := 45) rfl)
theorem k_146 : (.code yX1_append cX1_append 3 (some .int) : Cond) ∈ gtbl := gm2 _ (List.mem_of_getElem? (i := 46) rfl)
theorem k_147 : (.methodLink RX1 27 yX1_slot : Cond) ∈ gtbl := gm2 _ (List.mem_of_getElem? (i := 47) rfl)
theorem k_148 : (.instanceMethod yX1_slot : Cond) ∈ gtbl := gm2 _ (List.mem_of_getElem? (i := 48) rfl)
theorem k_149 : (.code yX1_slot cX1_slot 2 (some .int) : Cond) ∈ gtbl := gm2 _ (List.mem_of_getElem? (i := 49) rfl)
theorem k_150 : (.methodLink RX1 31 yJ_floorMod : Cond) ∈ gtbl := gm3 _ (List.mem_of_getElem? (i := 0) rfl)
theorem k_151 : (.static yJ_floorMod : Cond) ∈ gtbl := gm3 _ (List.mem_of_getElem? (i := 1) rfl)
theorem k_152 : (.code yJ_floorMod cJ_floorMod 3 (some .int) : Cond) ∈ gtbl := gm3 _ (List.mem_of_getElem? (i := 2) rfl)
theorem k_153 : (.methodLink RL 23 yX4_deliver : Cond) ∈ gtbl := gm3 _ (List.mem_of_getElem? (i := 3) rfl)
theorem k_154 : (.instanceMethod yX4_deliver : Cond) ∈ gtbl := gm3 _ (List.mem_of_getElem? (i := 4) rfl)
theorem k_155 : (.selects RX4 yX4_deliver yX4_deliver : Cond) ∈ gtbl := gm3 _ (List.mem_of_getElem? (i := 5) rfl)
theorem k_156 : (.code yX4_deliver cX4_deliver 7 (some .int) : Cond) ∈ gtbl := gm3 _ (List.mem_of_getElem? (i := 6) rfl)
theorem k_157 : (.methodLink RX4 69 yX4_channelBetween : Cond) ∈ gtbl := gm3 _ (List.mem_of_getElem? (i := 7) rfl)
theorem k_158 : (.instanceMethod yX4_channelBetween : Cond) ∈ gtbl := gm3 _ (List.mem_of_getElem? (i := 8) rfl)
theorem k_159 : (.code yX4_channelBetween cX4_channelBetween 3 (some (.object "ReplayGroup$NumberedRow")) : Cond) ∈ gtbl := gm3 _ (List.mem_of_getElem? (i := 9) rfl)
theorem k_160 : (.methodLink RX4 73 yX1_count : Cond) ∈ gtbl := gm3 _ (List.mem_of_getElem? (i := 10) rfl)
theorem k_161 : (.methodLink RX4 81 yX1_valueAt : Cond) ∈ gtbl := gm3 _ (List.mem_of_getElem? (i := 11) rfl)
theorem k_162 : (.instanceMethod yX1_valueAt : Cond) ∈ gtbl := gm3 _ (List.mem_of_getElem? (i := 12) rfl)
theorem k_163 : (.selects RX1 yX1_valueAt yX1_valueAt : Cond) ∈ gtbl := gm3 _ (List.mem_of_getElem? (i := 13) rfl)
theorem k_164 : (.code yX1_valueAt cX1_valueAt 2 (some .int) : Cond) ∈ gtbl := gm3 _ (List.mem_of_getElem? (i := 14) rfl)
theorem k_165 : (.methodLink RX4 85 yX1_dropThrough : Cond) ∈ gtbl := gm3 _ (List.mem_of_getElem? (i := 15) rfl)
theorem k_166 : (.instanceMethod yX1_dropThrough : Cond) ∈ gtbl := gm3 _ (List.mem_of_getElem? (i := 16) rfl)
theorem k_167 : (.selects RX1 yX1_dropThrough yX1_dropThrough : Cond) ∈ gtbl := gm3 _ (List.mem_of_getElem? (i := 17) rfl)
theorem k_168 : (.code yX1_dropThrough cX1_dropThrough 3 (some .int) : Cond) ∈ gtbl := gm3 _ (List.mem_of_getElem? (i := 18) rfl)
theorem k_169 : (.methodLink RL 27 yX4_step : Cond) ∈ gtbl := gm3 _ (List.mem_of_getElem? (i := 19) rfl)
theorem k_170 : (.instanceMethod yX4_step : Cond) ∈ gtbl := gm3 _ (List.mem_of_getElem? (i := 20) rfl)
theorem k_171 : (.selects RX4 yX4_step yX4_step : Cond) ∈ gtbl := gm3 _ (List.mem_of_getElem? (i := 21) rfl)
theorem k_172 : (.code yX4_step cX4_step 2 (some .int) : Cond) ∈ gtbl := gm3 _ (List.mem_of_getElem? (i := 22) rfl)
theorem k_173 : (.methodLink RX4 88 yX4_doNext : Cond) ∈ gtbl := gm3 _ (List.mem_of_getElem? (i := 23) rfl)
theorem k_174 : (.instanceMethod yX4_doNext : Cond) ∈ gtbl := gm3 _ (List.mem_of_getElem? (i := 24) rfl)
theorem k_175 : (.code yX4_doNext cX4_doNext 9 (some .int) : Cond) ∈ gtbl := gm3 _ (List.mem_of_getElem? (i := 25) rfl)
theorem k_176 : (.methodLink RX4 141 yX2_has : Cond) ∈ gtbl := gm3 _ (List.mem_of_getElem? (i := 26) rfl)
theorem k_177 : (.instanceMethod yX2_has : Cond) ∈ gtbl := gm3 _ (List.mem_of_getElem? (i := 27) rfl)
theorem k_178 : (.selects RX2 yX2_has yX2_has : Cond) ∈ gtbl := gm3 _ (List.mem_of_getElem? (i := 28) rfl)
theorem k_179 : (.code yX2_has cX2_has 2 (some .boolean) : Cond) ∈ gtbl := gm3 _ (List.mem_of_getElem? (i := 29) rfl)
theorem k_180 : (.methodLink RX4 151 yX4_placeAfter : Cond) ∈ gtbl := gm3 _ (List.mem_of_getElem? (i := 30) rfl)
theorem k_181 : (.static yX4_placeAfter : Cond) ∈ gtbl := gm3 _ (List.mem_of_getElem? (i := 31) rfl)
theorem k_182 : (.code yX4_placeAfter cX4_placeAfter 4 (some .int) : Cond) ∈ gtbl := gm3 _ (List.mem_of_getElem? (i := 32) rfl)
theorem k_183 : (.methodLink RX4 155 yX4_perform : Cond) ∈ gtbl := gm3 _ (List.mem_of_getElem? (i := 33) rfl)
theorem k_184 : (.instanceMethod yX4_perform : Cond) ∈ gtbl := gm3 _ (List.mem_of_getElem? (i := 34) rfl)
theorem k_185 : (.code yX4_perform cX4_perform 6 (some .boolean) : Cond) ∈ gtbl := gm3 _ (List.mem_of_getElem? (i := 35) rfl)
theorem k_186 : (.methodLink RX4 158 yX4_trySend : Cond) ∈ gtbl := gm3 _ (List.mem_of_getElem? (i := 36) rfl)
theorem k_187 : (.instanceMethod yX4_trySend : Cond) ∈ gtbl := gm3 _ (List.mem_of_getElem? (i := 37) rfl)
theorem k_188 : (.code yX4_trySend cX4_trySend 6 (some .boolean) : Cond) ∈ gtbl := gm3 _ (List.mem_of_getElem? (i := 38) rfl)
theorem k_189 : (.methodLink RX4 162 yX4_tryReceive : Cond) ∈ gtbl := gm3 _ (List.mem_of_getElem? (i := 39) rfl)
theorem k_190 : (.instanceMethod yX4_tryReceive : Cond) ∈ gtbl := gm3 _ (List.mem_of_getElem? (i := 40) rfl)
theorem k_191 : (.code yX4_tryReceive cX4_tryReceive 6 (some .boolean) : Cond) ∈ gtbl := gm3 _ (List.mem_of_getElem? (i := 41) rfl)
theorem k_192 : (.methodLink RX4 129 yX1_has : Cond) ∈ gtbl := gm3 _ (List.mem_of_getElem? (i := 42) rfl)
theorem k_193 : (.instanceMethod yX1_has : Cond) ∈ gtbl := gm3 _ (List.mem_of_getElem? (i := 43) rfl)
theorem k_194 : (.selects RX1 yX1_has yX1_has : Cond) ∈ gtbl := gm3 _ (List.mem_of_getElem? (i := 44) rfl)
theorem k_195 : (.code yX1_has cX1_has 2 (some .boolean) : Cond) ∈ gtbl := gm3 _ (List.mem_of_getElem? (i := 45) rfl)
theorem k_196 : (.methodLink RX4 132 yX1_originAt : Cond) ∈ gtbl := gm3 _ (List.mem_of_getElem? (i := 46) rfl)
theorem k_197 : (.instanceMethod yX1_originAt : Cond) ∈ gtbl := gm3 _ (List.mem_of_getElem? (i := 47) rfl)
theorem k_198 : (.selects RX1 yX1_originAt yX1_originAt : Cond) ∈ gtbl := gm3 _ (List.mem_of_getElem? (i := 48) rfl)
theorem k_199 : (.code yX1_originAt cX1_originAt 2 (some .int) : Cond) ∈ gtbl := gm3 _ (List.mem_of_getElem? (i := 49) rfl)
theorem k_200 : (.methodLink RX4 165 yX4_tryPut : Cond) ∈ gtbl := gm4 _ (List.mem_of_getElem? (i := 0) rfl)
theorem k_201 : (.instanceMethod yX4_tryPut : Cond) ∈ gtbl := gm4 _ (List.mem_of_getElem? (i := 1) rfl)
theorem k_202 : (.code yX4_tryPut cX4_tryPut 4 (some .boolean) : Cond) ∈ gtbl := gm4 _ (List.mem_of_getElem? (i := 2) rfl)
theorem k_203 : (.methodLink RL 32 yX4_run : Cond) ∈ gtbl := gm4 _ (List.mem_of_getElem? (i := 3) rfl)
theorem k_204 : (.instanceMethod yX4_run : Cond) ∈ gtbl := gm4 _ (List.mem_of_getElem? (i := 4) rfl)
theorem k_205 : (.selects RX4 yX4_run yX4_run : Cond) ∈ gtbl := gm4 _ (List.mem_of_getElem? (i := 5) rfl)
theorem k_206 : (.code yX4_run cX4_run 4 (some .int) : Cond) ∈ gtbl := gm4 _ (List.mem_of_getElem? (i := 6) rfl)
theorem k_207 : (.methodLink RL 36 yX4_checkpoint : Cond) ∈ gtbl := gm4 _ (List.mem_of_getElem? (i := 7) rfl)
theorem k_208 : (.instanceMethod yX4_checkpoint : Cond) ∈ gtbl := gm4 _ (List.mem_of_getElem? (i := 8) rfl)
theorem k_209 : (.selects RX4 yX4_checkpoint yX4_checkpoint : Cond) ∈ gtbl := gm4 _ (List.mem_of_getElem? (i := 9) rfl)
theorem k_210 : (.code yX4_checkpoint cX4_checkpoint 3 (some .int) : Cond) ∈ gtbl := gm4 _ (List.mem_of_getElem? (i := 10) rfl)
theorem k_211 : (.methodLink RX4 98 yX3_copyFrom : Cond) ∈ gtbl := gm4 _ (List.mem_of_getElem? (i := 11) rfl)
theorem k_212 : (.instanceMethod yX3_copyFrom : Cond) ∈ gtbl := gm4 _ (List.mem_of_getElem? (i := 12) rfl)
theorem k_213 : (.selects RX3 yX3_copyFrom yX3_copyFrom : Cond) ∈ gtbl := gm4 _ (List.mem_of_getElem? (i := 13) rfl)
theorem k_214 : (.code yX3_copyFrom cX3_copyFrom 2 none : Cond) ∈ gtbl := gm4 _ (List.mem_of_getElem? (i := 14) rfl)
theorem k_215 : (.methodLink RX3 18 arraycopyName : Cond) ∈ gtbl := gm4 _ (List.mem_of_getElem? (i := 15) rfl)
theorem k_216 : (.static arraycopyName : Cond) ∈ gtbl := gm4 _ (List.mem_of_getElem? (i := 16) rfl)
theorem k_217 : (.native arraycopyName : Cond) ∈ gtbl := gm4 _ (List.mem_of_getElem? (i := 17) rfl)
theorem k_218 : (.methodLink RL 40 yX4_crash : Cond) ∈ gtbl := gm4 _ (List.mem_of_getElem? (i := 18) rfl)
theorem k_219 : (.instanceMethod yX4_crash : Cond) ∈ gtbl := gm4 _ (List.mem_of_getElem? (i := 19) rfl)
theorem k_220 : (.selects RX4 yX4_crash yX4_crash : Cond) ∈ gtbl := gm4 _ (List.mem_of_getElem? (i := 20) rfl)
theorem k_221 : (.code yX4_crash cX4_crash 2 (some .boolean) : Cond) ∈ gtbl := gm4 _ (List.mem_of_getElem? (i := 21) rfl)
theorem k_222 : (.methodLink RL 45 yX4_recover : Cond) ∈ gtbl := gm4 _ (List.mem_of_getElem? (i := 22) rfl)
theorem k_223 : (.instanceMethod yX4_recover : Cond) ∈ gtbl := gm4 _ (List.mem_of_getElem? (i := 23) rfl)
theorem k_224 : (.selects RX4 yX4_recover yX4_recover : Cond) ∈ gtbl := gm4 _ (List.mem_of_getElem? (i := 24) rfl)
theorem k_225 : (.code yX4_recover cX4_recover 3 (some .int) : Cond) ∈ gtbl := gm4 _ (List.mem_of_getElem? (i := 25) rfl)
theorem k_226 : (.methodLink RL 49 yX4_register : Cond) ∈ gtbl := gm4 _ (List.mem_of_getElem? (i := 26) rfl)
theorem k_227 : (.instanceMethod yX4_register : Cond) ∈ gtbl := gm4 _ (List.mem_of_getElem? (i := 27) rfl)
theorem k_228 : (.selects RX4 yX4_register yX4_register : Cond) ∈ gtbl := gm4 _ (List.mem_of_getElem? (i := 28) rfl)
theorem k_229 : (.code yX4_register cX4_register 3 (some .int) : Cond) ∈ gtbl := gm4 _ (List.mem_of_getElem? (i := 29) rfl)
theorem k_230 : (.methodLink RL 53 yX4_state : Cond) ∈ gtbl := gm4 _ (List.mem_of_getElem? (i := 30) rfl)
theorem k_231 : (.instanceMethod yX4_state : Cond) ∈ gtbl := gm4 _ (List.mem_of_getElem? (i := 31) rfl)
theorem k_232 : (.selects RX4 yX4_state yX4_state : Cond) ∈ gtbl := gm4 _ (List.mem_of_getElem? (i := 32) rfl)
theorem k_233 : (.code yX4_state cX4_state 4 (some .int) : Cond) ∈ gtbl := gm4 _ (List.mem_of_getElem? (i := 33) rfl)
theorem k_234 : (.methodLink RL 57 yX4_sent : Cond) ∈ gtbl := gm4 _ (List.mem_of_getElem? (i := 34) rfl)
theorem k_235 : (.instanceMethod yX4_sent : Cond) ∈ gtbl := gm4 _ (List.mem_of_getElem? (i := 35) rfl)
theorem k_236 : (.selects RX4 yX4_sent yX4_sent : Cond) ∈ gtbl := gm4 _ (List.mem_of_getElem? (i := 36) rfl)
theorem k_237 : (.code yX4_sent cX4_sent 3 (some .int) : Cond) ∈ gtbl := gm4 _ (List.mem_of_getElem? (i := 37) rfl)
theorem k_238 : (.methodLink RL 61 yX4_kept : Cond) ∈ gtbl := gm4 _ (List.mem_of_getElem? (i := 38) rfl)
theorem k_239 : (.instanceMethod yX4_kept : Cond) ∈ gtbl := gm4 _ (List.mem_of_getElem? (i := 39) rfl)
theorem k_240 : (.selects RX4 yX4_kept yX4_kept : Cond) ∈ gtbl := gm4 _ (List.mem_of_getElem? (i := 40) rfl)
theorem k_241 : (.code yX4_kept cX4_kept 2 (some .int) : Cond) ∈ gtbl := gm4 _ (List.mem_of_getElem? (i := 41) rfl)
theorem k_242 : (.methodLink RL 65 yX4_source : Cond) ∈ gtbl := gm4 _ (List.mem_of_getElem? (i := 42) rfl)
theorem k_243 : (.instanceMethod yX4_source : Cond) ∈ gtbl := gm4 _ (List.mem_of_getElem? (i := 43) rfl)
theorem k_244 : (.selects RX4 yX4_source yX4_source : Cond) ∈ gtbl := gm4 _ (List.mem_of_getElem? (i := 44) rfl)
theorem k_245 : (.code yX4_source cX4_source 4 (some .int) : Cond) ∈ gtbl := gm4 _ (List.mem_of_getElem? (i := 45) rfl)
theorem k_246 : (.methodLink RL 69 yX4_waiting : Cond) ∈ gtbl := gm4 _ (List.mem_of_getElem? (i := 46) rfl)
theorem k_247 : (.instanceMethod yX4_waiting : Cond) ∈ gtbl := gm4 _ (List.mem_of_getElem? (i := 47) rfl)
theorem k_248 : (.selects RX4 yX4_waiting yX4_waiting : Cond) ∈ gtbl := gm4 _ (List.mem_of_getElem? (i := 48) rfl)
theorem k_249 : (.code yX4_waiting cX4_waiting 3 (some .int) : Cond) ∈ gtbl := gm4 _ (List.mem_of_getElem? (i := 49) rfl)
theorem k_250 : (.methodLink RL 73 yX4_held : Cond) ∈ gtbl := gm5 _ (List.mem_of_getElem? (i := 0) rfl)
theorem k_251 : (.instanceMethod yX4_held : Cond) ∈ gtbl := gm5 _ (List.mem_of_getElem? (i := 1) rfl)
theorem k_252 : (.selects RX4 yX4_held yX4_held : Cond) ∈ gtbl := gm5 _ (List.mem_of_getElem? (i := 2) rfl)
theorem k_253 : (.code yX4_held cX4_held 2 (some .int) : Cond) ∈ gtbl := gm5 _ (List.mem_of_getElem? (i := 3) rfl)
theorem k_254 : (.methodLink RL 77 yX4_outputs : Cond) ∈ gtbl := gm5 _ (List.mem_of_getElem? (i := 4) rfl)
theorem k_255 : (.instanceMethod yX4_outputs : Cond) ∈ gtbl := gm5 _ (List.mem_of_getElem? (i := 5) rfl)
theorem k_256 : (.selects RX4 yX4_outputs yX4_outputs : Cond) ∈ gtbl := gm5 _ (List.mem_of_getElem? (i := 6) rfl)
theorem k_257 : (.code yX4_outputs cX4_outputs 1 (some .int) : Cond) ∈ gtbl := gm5 _ (List.mem_of_getElem? (i := 7) rfl)
theorem k_258 : (.methodLink RL 82 yX4_author : Cond) ∈ gtbl := gm5 _ (List.mem_of_getElem? (i := 8) rfl)
theorem k_259 : (.instanceMethod yX4_author : Cond) ∈ gtbl := gm5 _ (List.mem_of_getElem? (i := 9) rfl)
theorem k_260 : (.selects RX4 yX4_author yX4_author : Cond) ∈ gtbl := gm5 _ (List.mem_of_getElem? (i := 10) rfl)
theorem k_261 : (.code yX4_author cX4_author 3 (some .int) : Cond) ∈ gtbl := gm5 _ (List.mem_of_getElem? (i := 11) rfl)
theorem k_262 : (.methodLink RX4 138 yX4_outputNumber : Cond) ∈ gtbl := gm5 _ (List.mem_of_getElem? (i := 12) rfl)
theorem k_263 : (.static yX4_outputNumber : Cond) ∈ gtbl := gm5 _ (List.mem_of_getElem? (i := 13) rfl)
theorem k_264 : (.code yX4_outputNumber cX4_outputNumber 1 (some .int) : Cond) ∈ gtbl := gm5 _ (List.mem_of_getElem? (i := 14) rfl)
theorem k_265 : (.methodLink RL 86 yX4_output : Cond) ∈ gtbl := gm5 _ (List.mem_of_getElem? (i := 15) rfl)
theorem k_266 : (.instanceMethod yX4_output : Cond) ∈ gtbl := gm5 _ (List.mem_of_getElem? (i := 16) rfl)
theorem k_267 : (.selects RX4 yX4_output yX4_output : Cond) ∈ gtbl := gm5 _ (List.mem_of_getElem? (i := 17) rfl)
theorem k_268 : (.code yX4_output cX4_output 3 (some .int) : Cond) ∈ gtbl := gm5 _ (List.mem_of_getElem? (i := 18) rfl)
theorem k_269 : (.classLink RL 10 RX5 : Cond) ∈ gtbl := gm5 _ (List.mem_of_getElem? (i := 19) rfl)
theorem k_270 : (.instantiable RX5 26 : Cond) ∈ gtbl := gm5 _ (List.mem_of_getElem? (i := 20) rfl)
theorem k_271 : (.methodLink RL 12 yX5_init : Cond) ∈ gtbl := gm5 _ (List.mem_of_getElem? (i := 21) rfl)
theorem k_272 : (.instanceMethod yX5_init : Cond) ∈ gtbl := gm5 _ (List.mem_of_getElem? (i := 22) rfl)
theorem k_273 : (.code yX5_init cX5_init 1 none : Cond) ∈ gtbl := gm5 _ (List.mem_of_getElem? (i := 23) rfl)
theorem k_274 : (.methodLink RX5 1 objectInit : Cond) ∈ gtbl := gm5 _ (List.mem_of_getElem? (i := 24) rfl)
theorem k_275 : (.fieldLink RX5 7 "ReplayGroupModel" "length" "[I" : Cond) ∈ gtbl := gm5 _ (List.mem_of_getElem? (i := 25) rfl)
theorem k_276 : (.fieldLink RX5 13 "ReplayGroupModel" "ops" "[I" : Cond) ∈ gtbl := gm5 _ (List.mem_of_getElem? (i := 26) rfl)
theorem k_277 : (.fieldLink RX5 16 "ReplayGroupModel" "as" "[I" : Cond) ∈ gtbl := gm5 _ (List.mem_of_getElem? (i := 27) rfl)
theorem k_278 : (.fieldLink RX5 19 "ReplayGroupModel" "bs" "[I" : Cond) ∈ gtbl := gm5 _ (List.mem_of_getElem? (i := 28) rfl)
theorem k_279 : (.fieldLink RX5 22 "ReplayGroupModel" "down" "[Z" : Cond) ∈ gtbl := gm5 _ (List.mem_of_getElem? (i := 29) rfl)
theorem k_280 : (.fieldLink RX5 26 "ReplayGroupModel" "age" "[I" : Cond) ∈ gtbl := gm5 _ (List.mem_of_getElem? (i := 30) rfl)
theorem k_281 : (.fieldLink RX5 29 "ReplayGroupModel" "savedAge" "[I" : Cond) ∈ gtbl := gm5 _ (List.mem_of_getElem? (i := 31) rfl)
theorem k_282 : (.fieldLink RX5 32 "ReplayGroupModel" "savedTook" "[I" : Cond) ∈ gtbl := gm5 _ (List.mem_of_getElem? (i := 32) rfl)
theorem k_283 : (.fieldLink RX5 35 "ReplayGroupModel" "began" "[Z" : Cond) ∈ gtbl := gm5 _ (List.mem_of_getElem? (i := 33) rfl)
theorem k_284 : (.fieldLink RX5 38 "ReplayGroupModel" "heldBack" "[I" : Cond) ∈ gtbl := gm5 _ (List.mem_of_getElem? (i := 34) rfl)
theorem k_285 : (.fieldLink RX5 41 "ReplayGroupModel" "total" "[I" : Cond) ∈ gtbl := gm5 _ (List.mem_of_getElem? (i := 35) rfl)
theorem k_286 : (.fieldLink RX5 44 "ReplayGroupModel" "log" "[I" : Cond) ∈ gtbl := gm5 _ (List.mem_of_getElem? (i := 36) rfl)
theorem k_287 : (.fieldLink RX5 47 "ReplayGroupModel" "origin" "[I" : Cond) ∈ gtbl := gm5 _ (List.mem_of_getElem? (i := 37) rfl)
theorem k_288 : (.fieldLink RX5 50 "ReplayGroupModel" "sentEver" "[I" : Cond) ∈ gtbl := gm5 _ (List.mem_of_getElem? (i := 38) rfl)
theorem k_289 : (.fieldLink RX5 53 "ReplayGroupModel" "delivered" "[I" : Cond) ∈ gtbl := gm5 _ (List.mem_of_getElem? (i := 39) rfl)
theorem k_290 : (.fieldLink RX5 56 "ReplayGroupModel" "inChannel" "[I" : Cond) ∈ gtbl := gm5 _ (List.mem_of_getElem? (i := 40) rfl)
theorem k_291 : (.fieldLink RX5 108 "ReplayGroupModel" "outputs" "I" : Cond) ∈ gtbl := gm5 _ (List.mem_of_getElem? (i := 41) rfl)
theorem k_292 : (.fieldLink RX5 59 "ReplayGroupModel" "outputOf" "[I" : Cond) ∈ gtbl := gm5 _ (List.mem_of_getElem? (i := 42) rfl)
theorem k_293 : (.fieldLink RX5 62 "ReplayGroupModel" "outputValue" "[I" : Cond) ∈ gtbl := gm5 _ (List.mem_of_getElem? (i := 43) rfl)
theorem k_294 : (.fieldLink RX5 65 "ReplayGroupModel" "putEver" "[I" : Cond) ∈ gtbl := gm5 _ (List.mem_of_getElem? (i := 44) rfl)
theorem k_295 : (.fieldLink RX5 68 "ReplayGroupModel" "reg" "[I" : Cond) ∈ gtbl := gm5 _ (List.mem_of_getElem? (i := 45) rfl)
theorem k_296 : (.fieldLink RX5 71 "ReplayGroupModel" "sent" "[I" : Cond) ∈ gtbl := gm5 _ (List.mem_of_getElem? (i := 46) rfl)
theorem k_297 : (.fieldLink RX5 88 "ReplayGroupModel" "place" "I" : Cond) ∈ gtbl := gm5 _ (List.mem_of_getElem? (i := 47) rfl)
theorem k_298 : (.fieldLink RX5 96 "ReplayGroupModel" "took" "I" : Cond) ∈ gtbl := gm5 _ (List.mem_of_getElem? (i := 48) rfl)
theorem k_299 : (.fieldLink RX5 102 "ReplayGroupModel" "put" "I" : Cond) ∈ gtbl := gm5 _ (List.mem_of_getElem? (i := 49) rfl)
theorem k_300 : (.fieldLink RX5 105 "ReplayGroupModel" "done" "I" : Cond) ∈ gtbl := gm6 _ (List.mem_of_getElem? (i := 0) rfl)
theorem k_301 : (.laysFinal RX5 "ReplayGroupModel" "length" "[I" : Cond) ∈ gtbl := gm6 _ (List.mem_of_getElem? (i := 1) rfl)
theorem k_302 : (.laysFinal RX5 "ReplayGroupModel" "ops" "[I" : Cond) ∈ gtbl := gm6 _ (List.mem_of_getElem? (i := 2) rfl)
theorem k_303 : (.laysFinal RX5 "ReplayGroupModel" "as" "[I" : Cond) ∈ gtbl := gm6 _ (List.mem_of_getElem? (i := 3) rfl)
theorem k_304 : (.laysFinal RX5 "ReplayGroupModel" "bs" "[I" : Cond) ∈ gtbl := gm6 _ (List.mem_of_getElem? (i := 4) rfl)
theorem k_305 : (.laysFinal RX5 "ReplayGroupModel" "down" "[Z" : Cond) ∈ gtbl := gm6 _ (List.mem_of_getElem? (i := 5) rfl)
theorem k_306 : (.laysFinal RX5 "ReplayGroupModel" "age" "[I" : Cond) ∈ gtbl := gm6 _ (List.mem_of_getElem? (i := 6) rfl)
theorem k_307 : (.laysFinal RX5 "ReplayGroupModel" "savedAge" "[I" : Cond) ∈ gtbl := gm6 _ (List.mem_of_getElem? (i := 7) rfl)
theorem k_308 : (.laysFinal RX5 "ReplayGroupModel" "savedTook" "[I" : Cond) ∈ gtbl := gm6 _ (List.mem_of_getElem? (i := 8) rfl)
theorem k_309 : (.laysFinal RX5 "ReplayGroupModel" "began" "[Z" : Cond) ∈ gtbl := gm6 _ (List.mem_of_getElem? (i := 9) rfl)
theorem k_310 : (.laysFinal RX5 "ReplayGroupModel" "heldBack" "[I" : Cond) ∈ gtbl := gm6 _ (List.mem_of_getElem? (i := 10) rfl)
theorem k_311 : (.laysFinal RX5 "ReplayGroupModel" "total" "[I" : Cond) ∈ gtbl := gm6 _ (List.mem_of_getElem? (i := 11) rfl)
theorem k_312 : (.laysFinal RX5 "ReplayGroupModel" "log" "[I" : Cond) ∈ gtbl := gm6 _ (List.mem_of_getElem? (i := 12) rfl)
theorem k_313 : (.laysFinal RX5 "ReplayGroupModel" "origin" "[I" : Cond) ∈ gtbl := gm6 _ (List.mem_of_getElem? (i := 13) rfl)
theorem k_314 : (.laysFinal RX5 "ReplayGroupModel" "sentEver" "[I" : Cond) ∈ gtbl := gm6 _ (List.mem_of_getElem? (i := 14) rfl)
theorem k_315 : (.laysFinal RX5 "ReplayGroupModel" "delivered" "[I" : Cond) ∈ gtbl := gm6 _ (List.mem_of_getElem? (i := 15) rfl)
theorem k_316 : (.laysFinal RX5 "ReplayGroupModel" "inChannel" "[I" : Cond) ∈ gtbl := gm6 _ (List.mem_of_getElem? (i := 16) rfl)
theorem k_317 : (.lays RX5 "ReplayGroupModel" "outputs" "I" : Cond) ∈ gtbl := gm6 _ (List.mem_of_getElem? (i := 17) rfl)
theorem k_318 : (.laysFinal RX5 "ReplayGroupModel" "outputOf" "[I" : Cond) ∈ gtbl := gm6 _ (List.mem_of_getElem? (i := 18) rfl)
theorem k_319 : (.laysFinal RX5 "ReplayGroupModel" "outputValue" "[I" : Cond) ∈ gtbl := gm6 _ (List.mem_of_getElem? (i := 19) rfl)
theorem k_320 : (.laysFinal RX5 "ReplayGroupModel" "putEver" "[I" : Cond) ∈ gtbl := gm6 _ (List.mem_of_getElem? (i := 20) rfl)
theorem k_321 : (.laysFinal RX5 "ReplayGroupModel" "reg" "[I" : Cond) ∈ gtbl := gm6 _ (List.mem_of_getElem? (i := 21) rfl)
theorem k_322 : (.laysFinal RX5 "ReplayGroupModel" "sent" "[I" : Cond) ∈ gtbl := gm6 _ (List.mem_of_getElem? (i := 22) rfl)
theorem k_323 : (.lays RX5 "ReplayGroupModel" "place" "I" : Cond) ∈ gtbl := gm6 _ (List.mem_of_getElem? (i := 23) rfl)
theorem k_324 : (.lays RX5 "ReplayGroupModel" "took" "I" : Cond) ∈ gtbl := gm6 _ (List.mem_of_getElem? (i := 24) rfl)
theorem k_325 : (.lays RX5 "ReplayGroupModel" "put" "I" : Cond) ∈ gtbl := gm6 _ (List.mem_of_getElem? (i := 25) rfl)
theorem k_326 : (.lays RX5 "ReplayGroupModel" "done" "I" : Cond) ∈ gtbl := gm6 _ (List.mem_of_getElem? (i := 26) rfl)
theorem k_327 : (.arrayClass .boolean : Cond) ∈ gtbl := gm6 _ (List.mem_of_getElem? (i := 27) rfl)
theorem k_328 : (.methodLink RL 17 yX5_code : Cond) ∈ gtbl := gm6 _ (List.mem_of_getElem? (i := 28) rfl)
theorem k_329 : (.instanceMethod yX5_code : Cond) ∈ gtbl := gm6 _ (List.mem_of_getElem? (i := 29) rfl)
theorem k_330 : (.selects RX5 yX5_code yX5_code : Cond) ∈ gtbl := gm6 _ (List.mem_of_getElem? (i := 30) rfl)
theorem k_331 : (.code yX5_code cX5_code 7 (some .boolean) : Cond) ∈ gtbl := gm6 _ (List.mem_of_getElem? (i := 31) rfl)
theorem k_332 : (.methodLink RX5 74 yX5_isProcess : Cond) ∈ gtbl := gm6 _ (List.mem_of_getElem? (i := 32) rfl)
theorem k_333 : (.static yX5_isProcess : Cond) ∈ gtbl := gm6 _ (List.mem_of_getElem? (i := 33) rfl)
theorem k_334 : (.code yX5_isProcess cX5_isProcess 1 (some .boolean) : Cond) ∈ gtbl := gm6 _ (List.mem_of_getElem? (i := 34) rfl)
theorem k_335 : (.methodLink RX5 78 yX5_isChannel : Cond) ∈ gtbl := gm6 _ (List.mem_of_getElem? (i := 35) rfl)
theorem k_336 : (.static yX5_isChannel : Cond) ∈ gtbl := gm6 _ (List.mem_of_getElem? (i := 36) rfl)
theorem k_337 : (.code yX5_isChannel cX5_isChannel 2 (some .boolean) : Cond) ∈ gtbl := gm6 _ (List.mem_of_getElem? (i := 37) rfl)
theorem k_338 : (.methodLink RX5 82 yX5_isRegister : Cond) ∈ gtbl := gm6 _ (List.mem_of_getElem? (i := 38) rfl)
theorem k_339 : (.static yX5_isRegister : Cond) ∈ gtbl := gm6 _ (List.mem_of_getElem? (i := 39) rfl)
theorem k_340 : (.code yX5_isRegister cX5_isRegister 1 (some .boolean) : Cond) ∈ gtbl := gm6 _ (List.mem_of_getElem? (i := 40) rfl)
theorem k_341 : (.methodLink RX5 85 yX5_usesB : Cond) ∈ gtbl := gm6 _ (List.mem_of_getElem? (i := 41) rfl)
theorem k_342 : (.static yX5_usesB : Cond) ∈ gtbl := gm6 _ (List.mem_of_getElem? (i := 42) rfl)
theorem k_343 : (.code yX5_usesB cX5_usesB 1 (some .boolean) : Cond) ∈ gtbl := gm6 _ (List.mem_of_getElem? (i := 43) rfl)
theorem k_344 : (.methodLink RL 22 yX5_input : Cond) ∈ gtbl := gm6 _ (List.mem_of_getElem? (i := 44) rfl)
theorem k_345 : (.instanceMethod yX5_input : Cond) ∈ gtbl := gm6 _ (List.mem_of_getElem? (i := 45) rfl)
theorem k_346 : (.selects RX5 yX5_input yX5_input : Cond) ∈ gtbl := gm6 _ (List.mem_of_getElem? (i := 46) rfl)
theorem k_347 : (.code yX5_input cX5_input 3 (some .int) : Cond) ∈ gtbl := gm6 _ (List.mem_of_getElem? (i := 47) rfl)
theorem k_348 : (.methodLink RX5 115 yX5_kept0 : Cond) ∈ gtbl := gm6 _ (List.mem_of_getElem? (i := 48) rfl)
theorem k_349 : (.instanceMethod yX5_kept0 : Cond) ∈ gtbl := gm6 _ (List.mem_of_getElem? (i := 49) rfl)
theorem k_350 : (.code yX5_kept0 cX5_kept0 2 (some .int) : Cond) ∈ gtbl := gm7 _ (List.mem_of_getElem? (i := 0) rfl)
theorem k_351 : (.methodLink RX5 119 yX5_append : Cond) ∈ gtbl := gm7 _ (List.mem_of_getElem? (i := 1) rfl)
theorem k_352 : (.instanceMethod yX5_append : Cond) ∈ gtbl := gm7 _ (List.mem_of_getElem? (i := 2) rfl)
theorem k_353 : (.code yX5_append cX5_append 4 (some .int) : Cond) ∈ gtbl := gm7 _ (List.mem_of_getElem? (i := 3) rfl)
theorem k_354 : (.methodLink RL 26 yX5_deliver : Cond) ∈ gtbl := gm7 _ (List.mem_of_getElem? (i := 4) rfl)
theorem k_355 : (.instanceMethod yX5_deliver : Cond) ∈ gtbl := gm7 _ (List.mem_of_getElem? (i := 5) rfl)
theorem k_356 : (.selects RX5 yX5_deliver yX5_deliver : Cond) ∈ gtbl := gm7 _ (List.mem_of_getElem? (i := 6) rfl)
theorem k_357 : (.code yX5_deliver cX5_deliver 5 (some .int) : Cond) ∈ gtbl := gm7 _ (List.mem_of_getElem? (i := 7) rfl)
theorem k_358 : (.methodLink RL 31 yX5_step : Cond) ∈ gtbl := gm7 _ (List.mem_of_getElem? (i := 8) rfl)
theorem k_359 : (.instanceMethod yX5_step : Cond) ∈ gtbl := gm7 _ (List.mem_of_getElem? (i := 9) rfl)
theorem k_360 : (.selects RX5 yX5_step yX5_step : Cond) ∈ gtbl := gm7 _ (List.mem_of_getElem? (i := 10) rfl)
theorem k_361 : (.code yX5_step cX5_step 3 (some .int) : Cond) ∈ gtbl := gm7 _ (List.mem_of_getElem? (i := 11) rfl)
theorem k_362 : (.methodLink RX5 123 yX5_load : Cond) ∈ gtbl := gm7 _ (List.mem_of_getElem? (i := 12) rfl)
theorem k_363 : (.instanceMethod yX5_load : Cond) ∈ gtbl := gm7 _ (List.mem_of_getElem? (i := 13) rfl)
theorem k_364 : (.code yX5_load cX5_load 3 none : Cond) ∈ gtbl := gm7 _ (List.mem_of_getElem? (i := 14) rfl)
theorem k_365 : (.methodLink RX5 111 yX5_go : Cond) ∈ gtbl := gm7 _ (List.mem_of_getElem? (i := 15) rfl)
theorem k_366 : (.instanceMethod yX5_go : Cond) ∈ gtbl := gm7 _ (List.mem_of_getElem? (i := 16) rfl)
theorem k_367 : (.code yX5_go cX5_go 7 (some .int) : Cond) ∈ gtbl := gm7 _ (List.mem_of_getElem? (i := 17) rfl)
theorem k_368 : (.methodLink RX5 92 yX5_sends : Cond) ∈ gtbl := gm7 _ (List.mem_of_getElem? (i := 18) rfl)
theorem k_369 : (.instanceMethod yX5_sends : Cond) ∈ gtbl := gm7 _ (List.mem_of_getElem? (i := 19) rfl)
theorem k_370 : (.code yX5_sends cX5_sends 5 (some .boolean) : Cond) ∈ gtbl := gm7 _ (List.mem_of_getElem? (i := 20) rfl)
theorem k_371 : (.methodLink RX5 99 yX5_puts : Cond) ∈ gtbl := gm7 _ (List.mem_of_getElem? (i := 21) rfl)
theorem k_372 : (.instanceMethod yX5_puts : Cond) ∈ gtbl := gm7 _ (List.mem_of_getElem? (i := 22) rfl)
theorem k_373 : (.code yX5_puts cX5_puts 3 (some .boolean) : Cond) ∈ gtbl := gm7 _ (List.mem_of_getElem? (i := 23) rfl)
theorem k_374 : (.methodLink RL 35 yX5_run : Cond) ∈ gtbl := gm7 _ (List.mem_of_getElem? (i := 24) rfl)
theorem k_375 : (.instanceMethod yX5_run : Cond) ∈ gtbl := gm7 _ (List.mem_of_getElem? (i := 25) rfl)
theorem k_376 : (.selects RX5 yX5_run yX5_run : Cond) ∈ gtbl := gm7 _ (List.mem_of_getElem? (i := 26) rfl)
theorem k_377 : (.code yX5_run cX5_run 4 (some .int) : Cond) ∈ gtbl := gm7 _ (List.mem_of_getElem? (i := 27) rfl)
theorem k_378 : (.methodLink RL 39 yX5_checkpoint : Cond) ∈ gtbl := gm7 _ (List.mem_of_getElem? (i := 28) rfl)
theorem k_379 : (.instanceMethod yX5_checkpoint : Cond) ∈ gtbl := gm7 _ (List.mem_of_getElem? (i := 29) rfl)
theorem k_380 : (.selects RX5 yX5_checkpoint yX5_checkpoint : Cond) ∈ gtbl := gm7 _ (List.mem_of_getElem? (i := 30) rfl)
theorem k_381 : (.code yX5_checkpoint cX5_checkpoint 3 (some .int) : Cond) ∈ gtbl := gm7 _ (List.mem_of_getElem? (i := 31) rfl)
theorem k_382 : (.methodLink RL 44 yX5_crash : Cond) ∈ gtbl := gm7 _ (List.mem_of_getElem? (i := 32) rfl)
theorem k_383 : (.instanceMethod yX5_crash : Cond) ∈ gtbl := gm7 _ (List.mem_of_getElem? (i := 33) rfl)
theorem k_384 : (.selects RX5 yX5_crash yX5_crash : Cond) ∈ gtbl := gm7 _ (List.mem_of_getElem? (i := 34) rfl)
theorem k_385 : (.code yX5_crash cX5_crash 2 (some .boolean) : Cond) ∈ gtbl := gm7 _ (List.mem_of_getElem? (i := 35) rfl)
theorem k_386 : (.methodLink RL 48 yX5_recover : Cond) ∈ gtbl := gm7 _ (List.mem_of_getElem? (i := 36) rfl)
theorem k_387 : (.instanceMethod yX5_recover : Cond) ∈ gtbl := gm7 _ (List.mem_of_getElem? (i := 37) rfl)
theorem k_388 : (.selects RX5 yX5_recover yX5_recover : Cond) ∈ gtbl := gm7 _ (List.mem_of_getElem? (i := 38) rfl)
theorem k_389 : (.code yX5_recover cX5_recover 2 (some .int) : Cond) ∈ gtbl := gm7 _ (List.mem_of_getElem? (i := 39) rfl)
theorem k_390 : (.methodLink RL 52 yX5_register : Cond) ∈ gtbl := gm7 _ (List.mem_of_getElem? (i := 40) rfl)
theorem k_391 : (.instanceMethod yX5_register : Cond) ∈ gtbl := gm7 _ (List.mem_of_getElem? (i := 41) rfl)
theorem k_392 : (.selects RX5 yX5_register yX5_register : Cond) ∈ gtbl := gm7 _ (List.mem_of_getElem? (i := 42) rfl)
theorem k_393 : (.code yX5_register cX5_register 3 (some .int) : Cond) ∈ gtbl := gm7 _ (List.mem_of_getElem? (i := 43) rfl)
theorem k_394 : (.methodLink RL 56 yX5_state : Cond) ∈ gtbl := gm7 _ (List.mem_of_getElem? (i := 44) rfl)
theorem k_395 : (.instanceMethod yX5_state : Cond) ∈ gtbl := gm7 _ (List.mem_of_getElem? (i := 45) rfl)
theorem k_396 : (.selects RX5 yX5_state yX5_state : Cond) ∈ gtbl := gm7 _ (List.mem_of_getElem? (i := 46) rfl)
theorem k_397 : (.code yX5_state cX5_state 3 (some .int) : Cond) ∈ gtbl := gm7 _ (List.mem_of_getElem? (i := 47) rfl)
theorem k_398 : (.methodLink RL 60 yX5_sent : Cond) ∈ gtbl := gm7 _ (List.mem_of_getElem? (i := 48) rfl)
theorem k_399 : (.instanceMethod yX5_sent : Cond) ∈ gtbl := gm7 _ (List.mem_of_getElem? (i := 49) rfl)
theorem k_400 : (.selects RX5 yX5_sent yX5_sent : Cond) ∈ gtbl := gm8 _ (List.mem_of_getElem? (i := 0) rfl)
theorem k_401 : (.code yX5_sent cX5_sent 3 (some .int) : Cond) ∈ gtbl := gm8 _ (List.mem_of_getElem? (i := 1) rfl)
theorem k_402 : (.methodLink RL 64 yX5_kept : Cond) ∈ gtbl := gm8 _ (List.mem_of_getElem? (i := 2) rfl)
theorem k_403 : (.instanceMethod yX5_kept : Cond) ∈ gtbl := gm8 _ (List.mem_of_getElem? (i := 3) rfl)
theorem k_404 : (.selects RX5 yX5_kept yX5_kept : Cond) ∈ gtbl := gm8 _ (List.mem_of_getElem? (i := 4) rfl)
theorem k_405 : (.code yX5_kept cX5_kept 2 (some .int) : Cond) ∈ gtbl := gm8 _ (List.mem_of_getElem? (i := 5) rfl)
theorem k_406 : (.methodLink RL 68 yX5_source : Cond) ∈ gtbl := gm8 _ (List.mem_of_getElem? (i := 6) rfl)
theorem k_407 : (.instanceMethod yX5_source : Cond) ∈ gtbl := gm8 _ (List.mem_of_getElem? (i := 7) rfl)
theorem k_408 : (.selects RX5 yX5_source yX5_source : Cond) ∈ gtbl := gm8 _ (List.mem_of_getElem? (i := 8) rfl)
theorem k_409 : (.code yX5_source cX5_source 3 (some .int) : Cond) ∈ gtbl := gm8 _ (List.mem_of_getElem? (i := 9) rfl)
theorem k_410 : (.methodLink RL 72 yX5_waiting : Cond) ∈ gtbl := gm8 _ (List.mem_of_getElem? (i := 10) rfl)
theorem k_411 : (.instanceMethod yX5_waiting : Cond) ∈ gtbl := gm8 _ (List.mem_of_getElem? (i := 11) rfl)
theorem k_412 : (.selects RX5 yX5_waiting yX5_waiting : Cond) ∈ gtbl := gm8 _ (List.mem_of_getElem? (i := 12) rfl)
theorem k_413 : (.code yX5_waiting cX5_waiting 3 (some .int) : Cond) ∈ gtbl := gm8 _ (List.mem_of_getElem? (i := 13) rfl)
theorem k_414 : (.methodLink RL 76 yX5_held : Cond) ∈ gtbl := gm8 _ (List.mem_of_getElem? (i := 14) rfl)
theorem k_415 : (.instanceMethod yX5_held : Cond) ∈ gtbl := gm8 _ (List.mem_of_getElem? (i := 15) rfl)
theorem k_416 : (.selects RX5 yX5_held yX5_held : Cond) ∈ gtbl := gm8 _ (List.mem_of_getElem? (i := 16) rfl)
theorem k_417 : (.code yX5_held cX5_held 2 (some .int) : Cond) ∈ gtbl := gm8 _ (List.mem_of_getElem? (i := 17) rfl)
theorem k_418 : (.methodLink RL 81 yX5_outputs : Cond) ∈ gtbl := gm8 _ (List.mem_of_getElem? (i := 18) rfl)
theorem k_419 : (.instanceMethod yX5_outputs : Cond) ∈ gtbl := gm8 _ (List.mem_of_getElem? (i := 19) rfl)
theorem k_420 : (.selects RX5 yX5_outputs yX5_outputs : Cond) ∈ gtbl := gm8 _ (List.mem_of_getElem? (i := 20) rfl)
theorem k_421 : (.code yX5_outputs cX5_outputs 1 (some .int) : Cond) ∈ gtbl := gm8 _ (List.mem_of_getElem? (i := 21) rfl)
theorem k_422 : (.methodLink RL 85 yX5_author : Cond) ∈ gtbl := gm8 _ (List.mem_of_getElem? (i := 22) rfl)
theorem k_423 : (.instanceMethod yX5_author : Cond) ∈ gtbl := gm8 _ (List.mem_of_getElem? (i := 23) rfl)
theorem k_424 : (.selects RX5 yX5_author yX5_author : Cond) ∈ gtbl := gm8 _ (List.mem_of_getElem? (i := 24) rfl)
theorem k_425 : (.code yX5_author cX5_author 2 (some .int) : Cond) ∈ gtbl := gm8 _ (List.mem_of_getElem? (i := 25) rfl)
theorem k_426 : (.methodLink RL 89 yX5_output : Cond) ∈ gtbl := gm8 _ (List.mem_of_getElem? (i := 26) rfl)
theorem k_427 : (.instanceMethod yX5_output : Cond) ∈ gtbl := gm8 _ (List.mem_of_getElem? (i := 27) rfl)
theorem k_428 : (.selects RX5 yX5_output yX5_output : Cond) ∈ gtbl := gm8 _ (List.mem_of_getElem? (i := 28) rfl)
theorem k_429 : (.code yX5_output cX5_output 2 (some .int) : Cond) ∈ gtbl := gm8 _ (List.mem_of_getElem? (i := 29) rfl)
theorem k_430 : (.selects RX1 yX1_slot yX1_slot : Cond) ∈ gtbl := gm8 _ (List.mem_of_getElem? (i := 30) rfl)
theorem k_431 : (.selects RX4 yX4_channelBetween yX4_channelBetween : Cond) ∈ gtbl := gm8 _ (List.mem_of_getElem? (i := 31) rfl)
theorem k_432 : (.selects RX4 yX4_doNext yX4_doNext : Cond) ∈ gtbl := gm8 _ (List.mem_of_getElem? (i := 32) rfl)
theorem k_433 : (.selects RX4 yX4_perform yX4_perform : Cond) ∈ gtbl := gm8 _ (List.mem_of_getElem? (i := 33) rfl)
theorem k_434 : (.selects RX4 yX4_trySend yX4_trySend : Cond) ∈ gtbl := gm8 _ (List.mem_of_getElem? (i := 34) rfl)
theorem k_435 : (.selects RX4 yX4_tryReceive yX4_tryReceive : Cond) ∈ gtbl := gm8 _ (List.mem_of_getElem? (i := 35) rfl)
theorem k_436 : (.selects RX4 yX4_tryPut yX4_tryPut : Cond) ∈ gtbl := gm8 _ (List.mem_of_getElem? (i := 36) rfl)
theorem k_437 : (.selects RX5 yX5_kept0 yX5_kept0 : Cond) ∈ gtbl := gm8 _ (List.mem_of_getElem? (i := 37) rfl)
theorem k_438 : (.selects RX5 yX5_append yX5_append : Cond) ∈ gtbl := gm8 _ (List.mem_of_getElem? (i := 38) rfl)
theorem k_439 : (.selects RX5 yX5_load yX5_load : Cond) ∈ gtbl := gm8 _ (List.mem_of_getElem? (i := 39) rfl)
theorem k_440 : (.selects RX5 yX5_go yX5_go : Cond) ∈ gtbl := gm8 _ (List.mem_of_getElem? (i := 40) rfl)
theorem k_441 : (.selects RX5 yX5_sends yX5_sends : Cond) ∈ gtbl := gm8 _ (List.mem_of_getElem? (i := 41) rfl)
theorem k_442 : (.selects RX5 yX5_puts yX5_puts : Cond) ∈ gtbl := gm8 _ (List.mem_of_getElem? (i := 42) rfl)
theorem gg0 : gw0.all goodWord = true := by decide +kernel
theorem gi0 : ∀ w ∈ gw0, w ∈ lw_tbl := by decide +kernel
theorem gg1 : gw1.all goodWord = true := by decide +kernel
theorem gi1 : ∀ w ∈ gw1, w ∈ lw_tbl := by decide +kernel
theorem gg2 : gw2.all goodWord = true := by decide +kernel
theorem gi2 : ∀ w ∈ gw2, w ∈ lw_tbl := by decide +kernel
theorem gg3 : gw3.all goodWord = true := by decide +kernel
theorem gi3 : ∀ w ∈ gw3, w ∈ lw_tbl := by decide +kernel
theorem gg4 : gw4.all goodWord = true := by decide +kernel
theorem gi4 : ∀ w ∈ gw4, w ∈ lw_tbl := by decide +kernel
theorem gg5 : gw5.all goodWord = true := by decide +kernel
theorem gi5 : ∀ w ∈ gw5, w ∈ lw_tbl := by decide +kernel
theorem gg6 : gw6.all goodWord = true := by decide +kernel
theorem gi6 : ∀ w ∈ gw6, w ∈ lw_tbl := by decide +kernel
theorem gg7 : gw7.all goodWord = true := by decide +kernel
theorem gi7 : ∀ w ∈ gw7, w ∈ lw_tbl := by decide +kernel
theorem gg8 : gw8.all goodWord = true := by decide +kernel
theorem gi8 : ∀ w ∈ gw8, w ∈ lw_tbl := by decide +kernel
theorem gt_good : ∀ w ∈ gtbl, goodWord w = true := by
  intro w h
  unfold gtbl at h
  simp only [List.mem_append] at h
  rcases h with h | h | h | h | h | h | h | h | h
  · exact List.all_eq_true.mp gg0 w h
  · exact List.all_eq_true.mp gg1 w h
  · exact List.all_eq_true.mp gg2 w h
  · exact List.all_eq_true.mp gg3 w h
  · exact List.all_eq_true.mp gg4 w h
  · exact List.all_eq_true.mp gg5 w h
  · exact List.all_eq_true.mp gg6 w h
  · exact List.all_eq_true.mp gg7 w h
  · exact List.all_eq_true.mp gg8 w h
theorem gt_in : ∀ w ∈ gtbl, w ∈ lw_tbl := by
  intro w h
  unfold gtbl at h
  simp only [List.mem_append] at h
  rcases h with h | h | h | h | h | h | h | h | h
  · exact gi0 w h
  · exact gi1 w h
  · exact gi2 w h
  · exact gi3 w h
  · exact gi4 w h
  · exact gi5 w h
  · exact gi6 w h
  · exact gi7 w h
  · exact gi8 w h
theorem inX0 : ∀ w ∈ u_ws RX0 TX0 8, w ∈ gtbl := by
  intro w h
  obtain ⟨i, hi, rfl⟩ := List.mem_map.mp h
  have hi := List.mem_range.mp hi
  rcases (show i = 0 ∨ i = 1 ∨ i = 2 ∨ i = 3 ∨ i = 4 ∨ i = 5 ∨ i = 6 ∨ i = 7 by omega) with rfl | rfl | rfl | rfl | rfl | rfl | rfl | rfl
  · exact k_91
  · exact k_92
  · exact k_93
  · exact k_94
  · exact k_95
  · exact k_96
  · exact k_97
  · exact k_98
theorem inX1 : ∀ w ∈ u_ws RX1 TX1 4, w ∈ gtbl := by
  intro w h
  obtain ⟨i, hi, rfl⟩ := List.mem_map.mp h
  have hi := List.mem_range.mp hi
  rcases (show i = 0 ∨ i = 1 ∨ i = 2 ∨ i = 3 by omega) with rfl | rfl | rfl | rfl
  · exact k_74
  · exact k_75
  · exact k_76
  · exact k_77
theorem inX2 : ∀ w ∈ u_ws RX2 TX2 4, w ∈ gtbl := by
  intro w h
  obtain ⟨i, hi, rfl⟩ := List.mem_map.mp h
  have hi := List.mem_range.mp hi
  rcases (show i = 0 ∨ i = 1 ∨ i = 2 ∨ i = 3 by omega) with rfl | rfl | rfl | rfl
  · exact k_34
  · exact k_35
  · exact k_36
  · exact k_37
theorem inX3 : ∀ w ∈ u_ws RX3 TX3 6, w ∈ gtbl := by
  intro w h
  obtain ⟨i, hi, rfl⟩ := List.mem_map.mp h
  have hi := List.mem_range.mp hi
  rcases (show i = 0 ∨ i = 1 ∨ i = 2 ∨ i = 3 ∨ i = 4 ∨ i = 5 by omega) with rfl | rfl | rfl | rfl | rfl | rfl
  · exact k_56
  · exact k_57
  · exact k_58
  · exact k_59
  · exact k_60
  · exact k_61
theorem inX4 : ∀ w ∈ u_ws RX4 TX4 3, w ∈ gtbl := by
  intro w h
  obtain ⟨i, hi, rfl⟩ := List.mem_map.mp h
  have hi := List.mem_range.mp hi
  rcases (show i = 0 ∨ i = 1 ∨ i = 2 by omega) with rfl | rfl | rfl
  · exact k_104
  · exact k_105
  · exact k_106
theorem inX5 : ∀ w ∈ u_ws RX5 TX5 26, w ∈ gtbl := by
  intro w h
  obtain ⟨i, hi, rfl⟩ := List.mem_map.mp h
  have hi := List.mem_range.mp hi
  rcases (show i = 0 ∨ i = 1 ∨ i = 2 ∨ i = 3 ∨ i = 4 ∨ i = 5 ∨ i = 6 ∨ i = 7 ∨ i = 8 ∨ i = 9 ∨ i = 10 ∨ i = 11 ∨ i = 12 ∨ i = 13 ∨ i = 14 ∨ i = 15 ∨ i = 16 ∨ i = 17 ∨ i = 18 ∨ i = 19 ∨ i = 20 ∨ i = 21 ∨ i = 22 ∨ i = 23 ∨ i = 24 ∨ i = 25 by omega) with rfl | rfl | rfl | rfl | rfl | rfl | rfl | rfl | rfl | rfl | rfl | rfl | rfl | rfl | rfl | rfl | rfl | rfl | rfl | rfl | rfl | rfl | rfl | rfl | rfl | rfl
  · exact k_301
  · exact k_302
  · exact k_303
  · exact k_304
  · exact k_305
  · exact k_306
  · exact k_307
  · exact k_308
  · exact k_309
  · exact k_310
  · exact k_311
  · exact k_312
  · exact k_313
  · exact k_314
  · exact k_315
  · exact k_316
  · exact k_317
  · exact k_318
  · exact k_319
  · exact k_320
  · exact k_321
  · exact k_322
  · exact k_323
  · exact k_324
  · exact k_325
  · exact k_326
abbrev wX4_init : List Cond := .code yX4_init cX4_init 2 none :: gtbl
abbrev wX0_init : List Cond := .code yX0_init cX0_init 1 none :: gtbl
abbrev wX2_init : List Cond := .code yX2_init cX2_init 1 none :: gtbl
abbrev wX3_init : List Cond := .code yX3_init cX3_init 1 none :: gtbl
abbrev wX1_init : List Cond := .code yX1_init cX1_init 2 none :: gtbl
abbrev wX4_code : List Cond := .code yX4_code cX4_code 6 (some .boolean) :: gtbl
abbrev wX4_isProcess : List Cond := .code yX4_isProcess cX4_isProcess 1 (some .boolean) :: gtbl
abbrev wX4_isInstruction : List Cond := .code yX4_isInstruction cX4_isInstruction 4 (some .boolean) :: gtbl
abbrev wX4_isRegister : List Cond := .code yX4_isRegister cX4_isRegister 1 (some .boolean) :: gtbl
abbrev wX4_isChannel : List Cond := .code yX4_isChannel cX4_isChannel 2 (some .boolean) :: gtbl
abbrev wX2_isFull : List Cond := .code yX2_isFull cX2_isFull 1 (some .boolean) :: gtbl
abbrev wX2_append : List Cond := .code yX2_append cX2_append 4 none :: gtbl
abbrev wX4_input : List Cond := .code yX4_input cX4_input 4 (some .int) :: gtbl
abbrev wX1_isFull : List Cond := .code yX1_isFull cX1_isFull 1 (some .boolean) :: gtbl
abbrev wX1_count : List Cond := .code yX1_count cX1_count 1 (some .int) :: gtbl
abbrev wX1_append : List Cond := .code yX1_append cX1_append 3 (some .int) :: gtbl
abbrev wX1_slot : List Cond := .code yX1_slot cX1_slot 2 (some .int) :: gtbl
abbrev wJ_floorMod : List Cond := .code yJ_floorMod cJ_floorMod 3 (some .int) :: gtbl
abbrev wX4_deliver : List Cond := .code yX4_deliver cX4_deliver 7 (some .int) :: gtbl
abbrev wX4_channelBetween : List Cond := .code yX4_channelBetween cX4_channelBetween 3 (some (.object "ReplayGroup$NumberedRow")) :: gtbl
abbrev wX1_valueAt : List Cond := .code yX1_valueAt cX1_valueAt 2 (some .int) :: gtbl
abbrev wX1_dropThrough : List Cond := .code yX1_dropThrough cX1_dropThrough 3 (some .int) :: gtbl
abbrev wX4_step : List Cond := .code yX4_step cX4_step 2 (some .int) :: gtbl
abbrev wX4_doNext : List Cond := .code yX4_doNext cX4_doNext 9 (some .int) :: gtbl
abbrev wX2_has : List Cond := .code yX2_has cX2_has 2 (some .boolean) :: gtbl
abbrev wX4_placeAfter : List Cond := .code yX4_placeAfter cX4_placeAfter 4 (some .int) :: gtbl
abbrev wX4_perform : List Cond := .code yX4_perform cX4_perform 6 (some .boolean) :: gtbl
abbrev wX4_trySend : List Cond := .code yX4_trySend cX4_trySend 6 (some .boolean) :: gtbl
abbrev wX4_tryReceive : List Cond := .code yX4_tryReceive cX4_tryReceive 6 (some .boolean) :: gtbl
abbrev wX1_has : List Cond := .code yX1_has cX1_has 2 (some .boolean) :: gtbl
abbrev wX1_originAt : List Cond := .code yX1_originAt cX1_originAt 2 (some .int) :: gtbl
abbrev wX4_tryPut : List Cond := .code yX4_tryPut cX4_tryPut 4 (some .boolean) :: gtbl
abbrev wX4_run : List Cond := .code yX4_run cX4_run 4 (some .int) :: gtbl
abbrev wX4_checkpoint : List Cond := .code yX4_checkpoint cX4_checkpoint 3 (some .int) :: gtbl
abbrev wX3_copyFrom : List Cond := .code yX3_copyFrom cX3_copyFrom 2 none :: gtbl
abbrev wX4_crash : List Cond := .code yX4_crash cX4_crash 2 (some .boolean) :: gtbl
abbrev wX4_recover : List Cond := .code yX4_recover cX4_recover 3 (some .int) :: gtbl
abbrev wX4_register : List Cond := .code yX4_register cX4_register 3 (some .int) :: gtbl
abbrev wX4_state : List Cond := .code yX4_state cX4_state 4 (some .int) :: gtbl
abbrev wX4_sent : List Cond := .code yX4_sent cX4_sent 3 (some .int) :: gtbl
abbrev wX4_kept : List Cond := .code yX4_kept cX4_kept 2 (some .int) :: gtbl
abbrev wX4_source : List Cond := .code yX4_source cX4_source 4 (some .int) :: gtbl
abbrev wX4_waiting : List Cond := .code yX4_waiting cX4_waiting 3 (some .int) :: gtbl
abbrev wX4_held : List Cond := .code yX4_held cX4_held 2 (some .int) :: gtbl
abbrev wX4_outputs : List Cond := .code yX4_outputs cX4_outputs 1 (some .int) :: gtbl
abbrev wX4_author : List Cond := .code yX4_author cX4_author 3 (some .int) :: gtbl
abbrev wX4_outputNumber : List Cond := .code yX4_outputNumber cX4_outputNumber 1 (some .int) :: gtbl
abbrev wX4_output : List Cond := .code yX4_output cX4_output 3 (some .int) :: gtbl
abbrev wX5_init : List Cond := .code yX5_init cX5_init 1 none :: gtbl
abbrev wX5_code : List Cond := .code yX5_code cX5_code 7 (some .boolean) :: gtbl
abbrev wX5_isProcess : List Cond := .code yX5_isProcess cX5_isProcess 1 (some .boolean) :: gtbl
abbrev wX5_isChannel : List Cond := .code yX5_isChannel cX5_isChannel 2 (some .boolean) :: gtbl
abbrev wX5_isRegister : List Cond := .code yX5_isRegister cX5_isRegister 1 (some .boolean) :: gtbl
abbrev wX5_usesB : List Cond := .code yX5_usesB cX5_usesB 1 (some .boolean) :: gtbl
abbrev wX5_input : List Cond := .code yX5_input cX5_input 3 (some .int) :: gtbl
abbrev wX5_kept0 : List Cond := .code yX5_kept0 cX5_kept0 2 (some .int) :: gtbl
abbrev wX5_append : List Cond := .code yX5_append cX5_append 4 (some .int) :: gtbl
abbrev wX5_deliver : List Cond := .code yX5_deliver cX5_deliver 5 (some .int) :: gtbl
abbrev wX5_step : List Cond := .code yX5_step cX5_step 3 (some .int) :: gtbl
abbrev wX5_load : List Cond := .code yX5_load cX5_load 3 none :: gtbl
abbrev wX5_go : List Cond := .code yX5_go cX5_go 7 (some .int) :: gtbl
abbrev wX5_sends : List Cond := .code yX5_sends cX5_sends 5 (some .boolean) :: gtbl
abbrev wX5_puts : List Cond := .code yX5_puts cX5_puts 3 (some .boolean) :: gtbl
abbrev wX5_run : List Cond := .code yX5_run cX5_run 4 (some .int) :: gtbl
abbrev wX5_checkpoint : List Cond := .code yX5_checkpoint cX5_checkpoint 3 (some .int) :: gtbl
abbrev wX5_crash : List Cond := .code yX5_crash cX5_crash 2 (some .boolean) :: gtbl
abbrev wX5_recover : List Cond := .code yX5_recover cX5_recover 2 (some .int) :: gtbl
abbrev wX5_register : List Cond := .code yX5_register cX5_register 3 (some .int) :: gtbl
abbrev wX5_state : List Cond := .code yX5_state cX5_state 3 (some .int) :: gtbl
abbrev wX5_sent : List Cond := .code yX5_sent cX5_sent 3 (some .int) :: gtbl
abbrev wX5_kept : List Cond := .code yX5_kept cX5_kept 2 (some .int) :: gtbl
abbrev wX5_source : List Cond := .code yX5_source cX5_source 3 (some .int) :: gtbl
abbrev wX5_waiting : List Cond := .code yX5_waiting cX5_waiting 3 (some .int) :: gtbl
abbrev wX5_held : List Cond := .code yX5_held cX5_held 2 (some .int) :: gtbl
abbrev wX5_outputs : List Cond := .code yX5_outputs cX5_outputs 1 (some .int) :: gtbl
abbrev wX5_author : List Cond := .code yX5_author cX5_author 2 (some .int) :: gtbl
abbrev wX5_output : List Cond := .code yX5_output cX5_output 2 (some .int) :: gtbl
theorem gAll {ws : List Cond} (h : ∀ w ∈ ws, w ∈ gtbl) : GoodIn gtbl ws := fun w hw => ⟨h w hw, good_of_word (gt_good w (h w hw))⟩
theorem gV {own C : String} {i m : Nat} {y : MethodName} {b : ByteArray} {r : Option FieldType} (h1 : (.methodLink own i y : Cond) ∈ gtbl) (h2 : (.instanceMethod y : Cond) ∈ gtbl) (h3 : (.selects C y y : Cond) ∈ gtbl) (h4 : (.initialized C : Cond) ∈ gtbl) (h5 : (.code y b m r : Cond) ∈ gtbl) : GoodIn gtbl (wsV own i C y (.code y b m r :: gtbl)) := by
  refine gAll (fun w h => ?_)
  simp only [wsV, List.cons_append, List.nil_append, List.mem_cons] at h
  rcases h with rfl | rfl | rfl | rfl | rfl | h
  · exact h1
  · exact h2
  · exact h3
  · exact h4
  · exact h5
  · exact h
theorem gS {own : String} {i m : Nat} {y : MethodName} {b : ByteArray} {r : Option FieldType} (h1 : (.methodLink own i y : Cond) ∈ gtbl) (h2 : (.static y : Cond) ∈ gtbl) (h4 : (.initialized y.cls : Cond) ∈ gtbl) (h5 : (.code y b m r : Cond) ∈ gtbl) : GoodIn gtbl (va_wsS own i y (.code y b m r :: gtbl)) := by
  refine gAll (fun w h => ?_)
  simp only [va_wsS, List.cons_append, List.nil_append, List.mem_cons] at h
  rcases h with rfl | rfl | rfl | rfl | h
  · exact h1
  · exact h2
  · exact h4
  · exact h5
  · exact h
theorem gC {m : Nat} {y : MethodName} {b : ByteArray} {r : Option FieldType} (h5 : (.code y b m r : Cond) ∈ gtbl) : GoodIn gtbl (.code y b m r :: gtbl) := by
  refine gAll (fun w h => ?_)
  rcases List.mem_cons.mp h with rfl | h
  · exact h5
  · exact h
end
section
theorem dX0_init_0 : decode cX0_init 0 = .ok (.aload_n 0, 1) := by decide +kernel
theorem dX0_init_1 : decode cX0_init 1 = .ok (.invokespecial 3, 3) := by decide +kernel
theorem dX0_init_4 : decode cX0_init 4 = .ok (.aload_n 0, 1) := by decide +kernel
theorem dX0_init_5 : decode cX0_init 5 = .ok (.new 9, 3) := by decide +kernel
theorem dX0_init_8 : decode cX0_init 8 = .ok (.dup, 1) := by decide +kernel
theorem dX0_init_9 : decode cX0_init 9 = .ok (.invokespecial 11, 3) := by decide +kernel
theorem dX0_init_12 : decode cX0_init 12 = .ok (.putfield 12, 3) := by decide +kernel
theorem dX0_init_15 : decode cX0_init 15 = .ok (.aload_n 0, 1) := by decide +kernel
theorem dX0_init_16 : decode cX0_init 16 = .ok (.new 18, 3) := by decide +kernel
theorem dX0_init_19 : decode cX0_init 19 = .ok (.dup, 1) := by decide +kernel
theorem dX0_init_20 : decode cX0_init 20 = .ok (.invokespecial 20, 3) := by decide +kernel
theorem dX0_init_23 : decode cX0_init 23 = .ok (.putfield 21, 3) := by decide +kernel
theorem dX0_init_26 : decode cX0_init 26 = .ok (.aload_n 0, 1) := by decide +kernel
theorem dX0_init_27 : decode cX0_init 27 = .ok (.new 18, 3) := by decide +kernel
theorem dX0_init_30 : decode cX0_init 30 = .ok (.dup, 1) := by decide +kernel
theorem dX0_init_31 : decode cX0_init 31 = .ok (.invokespecial 20, 3) := by decide +kernel
theorem dX0_init_34 : decode cX0_init 34 = .ok (.putfield 25, 3) := by decide +kernel
theorem dX0_init_37 : decode cX0_init 37 = .ok (.aload_n 0, 1) := by decide +kernel
theorem dX0_init_38 : decode cX0_init 38 = .ok (.new 28, 3) := by decide +kernel
theorem dX0_init_41 : decode cX0_init 41 = .ok (.dup, 1) := by decide +kernel
theorem dX0_init_42 : decode cX0_init 42 = .ok (.bipush 20, 2) := by decide +kernel
theorem dX0_init_44 : decode cX0_init 44 = .ok (.invokespecial 30, 3) := by decide +kernel
theorem dX0_init_47 : decode cX0_init 47 = .ok (.putfield 33, 3) := by decide +kernel
theorem dX0_init_50 : decode cX0_init 50 = .ok (.aload_n 0, 1) := by decide +kernel
theorem dX0_init_51 : decode cX0_init 51 = .ok (.iconst 1, 1) := by decide +kernel
theorem dX0_init_52 : decode cX0_init 52 = .ok (.putfield 37, 3) := by decide +kernel
theorem dX0_init_55 : decode cX0_init 55 = .ok (.return_, 1) := by decide +kernel
theorem dX2_init_0 : decode cX2_init 0 = .ok (.aload_n 0, 1) := by decide +kernel
theorem dX2_init_1 : decode cX2_init 1 = .ok (.invokespecial 3, 3) := by decide +kernel
theorem dX2_init_4 : decode cX2_init 4 = .ok (.aload_n 0, 1) := by decide +kernel
theorem dX2_init_5 : decode cX2_init 5 = .ok (.bipush 16, 2) := by decide +kernel
theorem dX2_init_7 : decode cX2_init 7 = .ok (.newarray .int, 2) := by decide +kernel
theorem dX2_init_9 : decode cX2_init 9 = .ok (.putfield 9, 3) := by decide +kernel
theorem dX2_init_12 : decode cX2_init 12 = .ok (.aload_n 0, 1) := by decide +kernel
theorem dX2_init_13 : decode cX2_init 13 = .ok (.bipush 16, 2) := by decide +kernel
theorem dX2_init_15 : decode cX2_init 15 = .ok (.newarray .int, 2) := by decide +kernel
theorem dX2_init_17 : decode cX2_init 17 = .ok (.putfield 15, 3) := by decide +kernel
theorem dX2_init_20 : decode cX2_init 20 = .ok (.aload_n 0, 1) := by decide +kernel
theorem dX2_init_21 : decode cX2_init 21 = .ok (.bipush 16, 2) := by decide +kernel
theorem dX2_init_23 : decode cX2_init 23 = .ok (.newarray .int, 2) := by decide +kernel
theorem dX2_init_25 : decode cX2_init 25 = .ok (.putfield 18, 3) := by decide +kernel
theorem dX2_init_28 : decode cX2_init 28 = .ok (.return_, 1) := by decide +kernel
theorem dX3_init_0 : decode cX3_init 0 = .ok (.aload_n 0, 1) := by decide +kernel
theorem dX3_init_1 : decode cX3_init 1 = .ok (.invokespecial 3, 3) := by decide +kernel
theorem dX3_init_4 : decode cX3_init 4 = .ok (.aload_n 0, 1) := by decide +kernel
theorem dX3_init_5 : decode cX3_init 5 = .ok (.iconst 4, 1) := by decide +kernel
theorem dX3_init_6 : decode cX3_init 6 = .ok (.newarray .int, 2) := by decide +kernel
theorem dX3_init_8 : decode cX3_init 8 = .ok (.putfield 9, 3) := by decide +kernel
theorem dX3_init_11 : decode cX3_init 11 = .ok (.aload_n 0, 1) := by decide +kernel
theorem dX3_init_12 : decode cX3_init 12 = .ok (.iconst 3, 1) := by decide +kernel
theorem dX3_init_13 : decode cX3_init 13 = .ok (.newarray .int, 2) := by decide +kernel
theorem dX3_init_15 : decode cX3_init 15 = .ok (.putfield 15, 3) := by decide +kernel
theorem dX3_init_18 : decode cX3_init 18 = .ok (.return_, 1) := by decide +kernel
theorem dX1_init_0 : decode cX1_init 0 = .ok (.aload_n 0, 1) := by decide +kernel
theorem dX1_init_1 : decode cX1_init 1 = .ok (.invokespecial 1, 3) := by decide +kernel
theorem dX1_init_4 : decode cX1_init 4 = .ok (.aload_n 0, 1) := by decide +kernel
theorem dX1_init_5 : decode cX1_init 5 = .ok (.iload_n 1, 1) := by decide +kernel
theorem dX1_init_6 : decode cX1_init 6 = .ok (.newarray .int, 2) := by decide +kernel
theorem dX1_init_8 : decode cX1_init 8 = .ok (.putfield 7, 3) := by decide +kernel
theorem dX1_init_11 : decode cX1_init 11 = .ok (.aload_n 0, 1) := by decide +kernel
theorem dX1_init_12 : decode cX1_init 12 = .ok (.iload_n 1, 1) := by decide +kernel
theorem dX1_init_13 : decode cX1_init 13 = .ok (.newarray .int, 2) := by decide +kernel
theorem dX1_init_15 : decode cX1_init 15 = .ok (.putfield 13, 3) := by decide +kernel
theorem dX1_init_18 : decode cX1_init 18 = .ok (.return_, 1) := by decide +kernel
theorem dX2_isFull_0 : decode cX2_isFull 0 = .ok (.aload_n 0, 1) := by decide +kernel
theorem dX2_isFull_1 : decode cX2_isFull 1 = .ok (.getfield 21, 3) := by decide +kernel
theorem dX2_isFull_4 : decode cX2_isFull 4 = .ok (.bipush 16, 2) := by decide +kernel
theorem dX2_isFull_6 : decode cX2_isFull 6 = .ok (.if_icmp .lt 7, 3) := by decide +kernel
theorem dX2_isFull_9 : decode cX2_isFull 9 = .ok (.iconst 1, 1) := by decide +kernel
theorem dX2_isFull_10 : decode cX2_isFull 10 = .ok (.goto 4, 3) := by decide +kernel
theorem dX2_isFull_13 : decode cX2_isFull 13 = .ok (.iconst 0, 1) := by decide +kernel
theorem dX2_isFull_14 : decode cX2_isFull 14 = .ok (.ireturn, 1) := by decide +kernel
theorem dX2_append_0 : decode cX2_append 0 = .ok (.aload_n 0, 1) := by decide +kernel
theorem dX2_append_1 : decode cX2_append 1 = .ok (.getfield 9, 3) := by decide +kernel
theorem dX2_append_4 : decode cX2_append 4 = .ok (.aload_n 0, 1) := by decide +kernel
theorem dX2_append_5 : decode cX2_append 5 = .ok (.getfield 21, 3) := by decide +kernel
theorem dX2_append_8 : decode cX2_append 8 = .ok (.iload_n 1, 1) := by decide +kernel
theorem dX2_append_9 : decode cX2_append 9 = .ok (.iastore, 1) := by decide +kernel
theorem dX2_append_10 : decode cX2_append 10 = .ok (.aload_n 0, 1) := by decide +kernel
theorem dX2_append_11 : decode cX2_append 11 = .ok (.getfield 15, 3) := by decide +kernel
theorem dX2_append_14 : decode cX2_append 14 = .ok (.aload_n 0, 1) := by decide +kernel
theorem dX2_append_15 : decode cX2_append 15 = .ok (.getfield 21, 3) := by decide +kernel
theorem dX2_append_18 : decode cX2_append 18 = .ok (.iload_n 2, 1) := by decide +kernel
theorem dX2_append_19 : decode cX2_append 19 = .ok (.iastore, 1) := by decide +kernel
theorem dX2_append_20 : decode cX2_append 20 = .ok (.aload_n 0, 1) := by decide +kernel
theorem dX2_append_21 : decode cX2_append 21 = .ok (.getfield 18, 3) := by decide +kernel
theorem dX2_append_24 : decode cX2_append 24 = .ok (.aload_n 0, 1) := by decide +kernel
theorem dX2_append_25 : decode cX2_append 25 = .ok (.getfield 21, 3) := by decide +kernel
theorem dX2_append_28 : decode cX2_append 28 = .ok (.iload_n 3, 1) := by decide +kernel
theorem dX2_append_29 : decode cX2_append 29 = .ok (.iastore, 1) := by decide +kernel
theorem dX2_append_30 : decode cX2_append 30 = .ok (.aload_n 0, 1) := by decide +kernel
theorem dX2_append_31 : decode cX2_append 31 = .ok (.dup, 1) := by decide +kernel
theorem dX2_append_32 : decode cX2_append 32 = .ok (.getfield 21, 3) := by decide +kernel
theorem dX2_append_35 : decode cX2_append 35 = .ok (.iconst 1, 1) := by decide +kernel
theorem dX2_append_36 : decode cX2_append 36 = .ok (.iadd, 1) := by decide +kernel
theorem dX2_append_37 : decode cX2_append 37 = .ok (.putfield 21, 3) := by decide +kernel
theorem dX2_append_40 : decode cX2_append 40 = .ok (.return_, 1) := by decide +kernel
theorem dX1_isFull_0 : decode cX1_isFull 0 = .ok (.aload_n 0, 1) := by decide +kernel
theorem dX1_isFull_1 : decode cX1_isFull 1 = .ok (.invokevirtual 23, 3) := by decide +kernel
theorem dX1_isFull_4 : decode cX1_isFull 4 = .ok (.aload_n 0, 1) := by decide +kernel
theorem dX1_isFull_5 : decode cX1_isFull 5 = .ok (.getfield 7, 3) := by decide +kernel
theorem dX1_isFull_8 : decode cX1_isFull 8 = .ok (.arraylength, 1) := by decide +kernel
theorem dX1_isFull_9 : decode cX1_isFull 9 = .ok (.if_icmp .lt 7, 3) := by decide +kernel
theorem dX1_isFull_12 : decode cX1_isFull 12 = .ok (.iconst 1, 1) := by decide +kernel
theorem dX1_isFull_13 : decode cX1_isFull 13 = .ok (.goto 4, 3) := by decide +kernel
theorem dX1_isFull_16 : decode cX1_isFull 16 = .ok (.iconst 0, 1) := by decide +kernel
theorem dX1_isFull_17 : decode cX1_isFull 17 = .ok (.ireturn, 1) := by decide +kernel
theorem dX1_count_0 : decode cX1_count 0 = .ok (.aload_n 0, 1) := by decide +kernel
theorem dX1_count_1 : decode cX1_count 1 = .ok (.getfield 16, 3) := by decide +kernel
theorem dX1_count_4 : decode cX1_count 4 = .ok (.aload_n 0, 1) := by decide +kernel
theorem dX1_count_5 : decode cX1_count 5 = .ok (.getfield 20, 3) := by decide +kernel
theorem dX1_count_8 : decode cX1_count 8 = .ok (.isub, 1) := by decide +kernel
theorem dX1_count_9 : decode cX1_count 9 = .ok (.ireturn, 1) := by decide +kernel
theorem dX1_append_0 : decode cX1_append 0 = .ok (.aload_n 0, 1) := by decide +kernel
theorem dX1_append_1 : decode cX1_append 1 = .ok (.dup, 1) := by decide +kernel
theorem dX1_append_2 : decode cX1_append 2 = .ok (.getfield 16, 3) := by decide +kernel
theorem dX1_append_5 : decode cX1_append 5 = .ok (.iconst 1, 1) := by decide +kernel
theorem dX1_append_6 : decode cX1_append 6 = .ok (.iadd, 1) := by decide +kernel
theorem dX1_append_7 : decode cX1_append 7 = .ok (.putfield 16, 3) := by decide +kernel
theorem dX1_append_10 : decode cX1_append 10 = .ok (.aload_n 0, 1) := by decide +kernel
theorem dX1_append_11 : decode cX1_append 11 = .ok (.getfield 7, 3) := by decide +kernel
theorem dX1_append_14 : decode cX1_append 14 = .ok (.aload_n 0, 1) := by decide +kernel
theorem dX1_append_15 : decode cX1_append 15 = .ok (.aload_n 0, 1) := by decide +kernel
theorem dX1_append_16 : decode cX1_append 16 = .ok (.getfield 16, 3) := by decide +kernel
theorem dX1_append_19 : decode cX1_append 19 = .ok (.invokevirtual 27, 3) := by decide +kernel
theorem dX1_append_22 : decode cX1_append 22 = .ok (.iload_n 1, 1) := by decide +kernel
theorem dX1_append_23 : decode cX1_append 23 = .ok (.iastore, 1) := by decide +kernel
theorem dX1_append_24 : decode cX1_append 24 = .ok (.aload_n 0, 1) := by decide +kernel
theorem dX1_append_25 : decode cX1_append 25 = .ok (.getfield 13, 3) := by decide +kernel
theorem dX1_append_28 : decode cX1_append 28 = .ok (.aload_n 0, 1) := by decide +kernel
theorem dX1_append_29 : decode cX1_append 29 = .ok (.aload_n 0, 1) := by decide +kernel
theorem dX1_append_30 : decode cX1_append 30 = .ok (.getfield 16, 3) := by decide +kernel
theorem dX1_append_33 : decode cX1_append 33 = .ok (.invokevirtual 27, 3) := by decide +kernel
theorem dX1_append_36 : decode cX1_append 36 = .ok (.iload_n 2, 1) := by decide +kernel
theorem dX1_append_37 : decode cX1_append 37 = .ok (.iastore, 1) := by decide +kernel
theorem dX1_append_38 : decode cX1_append 38 = .ok (.aload_n 0, 1) := by decide +kernel
theorem dX1_append_39 : decode cX1_append 39 = .ok (.getfield 16, 3) := by decide +kernel
theorem dX1_append_42 : decode cX1_append 42 = .ok (.ireturn, 1) := by decide +kernel
theorem dX1_slot_0 : decode cX1_slot 0 = .ok (.iload_n 1, 1) := by decide +kernel
theorem dX1_slot_1 : decode cX1_slot 1 = .ok (.aload_n 0, 1) := by decide +kernel
theorem dX1_slot_2 : decode cX1_slot 2 = .ok (.getfield 7, 3) := by decide +kernel
theorem dX1_slot_5 : decode cX1_slot 5 = .ok (.arraylength, 1) := by decide +kernel
theorem dX1_slot_6 : decode cX1_slot 6 = .ok (.invokestatic 31, 3) := by decide +kernel
theorem dX1_slot_9 : decode cX1_slot 9 = .ok (.ireturn, 1) := by decide +kernel
theorem dJ_floorMod_0 : decode cJ_floorMod 0 = .ok (.iload_n 0, 1) := by decide +kernel
theorem dJ_floorMod_1 : decode cJ_floorMod 1 = .ok (.iload_n 1, 1) := by decide +kernel
theorem dJ_floorMod_2 : decode cJ_floorMod 2 = .ok (.irem, 1) := by decide +kernel
theorem dJ_floorMod_3 : decode cJ_floorMod 3 = .ok (.istore_n 2, 1) := by decide +kernel
theorem dJ_floorMod_4 : decode cJ_floorMod 4 = .ok (.iload_n 0, 1) := by decide +kernel
theorem dJ_floorMod_5 : decode cJ_floorMod 5 = .ok (.iload_n 1, 1) := by decide +kernel
theorem dJ_floorMod_6 : decode cJ_floorMod 6 = .ok (.ixor, 1) := by decide +kernel
theorem dJ_floorMod_7 : decode cJ_floorMod 7 = .ok (.ifCond .ge 11, 3) := by decide +kernel
theorem dJ_floorMod_10 : decode cJ_floorMod 10 = .ok (.iload_n 2, 1) := by decide +kernel
theorem dJ_floorMod_11 : decode cJ_floorMod 11 = .ok (.ifCond .eq 7, 3) := by decide +kernel
theorem dJ_floorMod_14 : decode cJ_floorMod 14 = .ok (.iload_n 2, 1) := by decide +kernel
theorem dJ_floorMod_15 : decode cJ_floorMod 15 = .ok (.iload_n 1, 1) := by decide +kernel
theorem dJ_floorMod_16 : decode cJ_floorMod 16 = .ok (.iadd, 1) := by decide +kernel
theorem dJ_floorMod_17 : decode cJ_floorMod 17 = .ok (.ireturn, 1) := by decide +kernel
theorem dJ_floorMod_18 : decode cJ_floorMod 18 = .ok (.iload_n 2, 1) := by decide +kernel
theorem dJ_floorMod_19 : decode cJ_floorMod 19 = .ok (.ireturn, 1) := by decide +kernel
theorem dX1_valueAt_0 : decode cX1_valueAt 0 = .ok (.aload_n 0, 1) := by decide +kernel
theorem dX1_valueAt_1 : decode cX1_valueAt 1 = .ok (.getfield 7, 3) := by decide +kernel
theorem dX1_valueAt_4 : decode cX1_valueAt 4 = .ok (.aload_n 0, 1) := by decide +kernel
theorem dX1_valueAt_5 : decode cX1_valueAt 5 = .ok (.iload_n 1, 1) := by decide +kernel
theorem dX1_valueAt_6 : decode cX1_valueAt 6 = .ok (.invokevirtual 27, 3) := by decide +kernel
theorem dX1_valueAt_9 : decode cX1_valueAt 9 = .ok (.iaload, 1) := by decide +kernel
theorem dX1_valueAt_10 : decode cX1_valueAt 10 = .ok (.ireturn, 1) := by decide +kernel
theorem dX1_dropThrough_0 : decode cX1_dropThrough 0 = .ok (.iload_n 1, 1) := by decide +kernel
theorem dX1_dropThrough_1 : decode cX1_dropThrough 1 = .ok (.aload_n 0, 1) := by decide +kernel
theorem dX1_dropThrough_2 : decode cX1_dropThrough 2 = .ok (.getfield 20, 3) := by decide +kernel
theorem dX1_dropThrough_5 : decode cX1_dropThrough 5 = .ok (.isub, 1) := by decide +kernel
theorem dX1_dropThrough_6 : decode cX1_dropThrough 6 = .ok (.istore_n 2, 1) := by decide +kernel
theorem dX1_dropThrough_7 : decode cX1_dropThrough 7 = .ok (.aload_n 0, 1) := by decide +kernel
theorem dX1_dropThrough_8 : decode cX1_dropThrough 8 = .ok (.iload_n 1, 1) := by decide +kernel
theorem dX1_dropThrough_9 : decode cX1_dropThrough 9 = .ok (.putfield 20, 3) := by decide +kernel
theorem dX1_dropThrough_12 : decode cX1_dropThrough 12 = .ok (.iload_n 2, 1) := by decide +kernel
theorem dX1_dropThrough_13 : decode cX1_dropThrough 13 = .ok (.ireturn, 1) := by decide +kernel
theorem dX2_has_0 : decode cX2_has 0 = .ok (.iload_n 1, 1) := by decide +kernel
theorem dX2_has_1 : decode cX2_has 1 = .ok (.ifCond .lt 15, 3) := by decide +kernel
theorem dX2_has_4 : decode cX2_has 4 = .ok (.iload_n 1, 1) := by decide +kernel
theorem dX2_has_5 : decode cX2_has 5 = .ok (.aload_n 0, 1) := by decide +kernel
theorem dX2_has_6 : decode cX2_has 6 = .ok (.getfield 21, 3) := by decide +kernel
theorem dX2_has_9 : decode cX2_has 9 = .ok (.if_icmp .ge 7, 3) := by decide +kernel
theorem dX2_has_12 : decode cX2_has 12 = .ok (.iconst 1, 1) := by decide +kernel
theorem dX2_has_13 : decode cX2_has 13 = .ok (.goto 4, 3) := by decide +kernel
theorem dX2_has_16 : decode cX2_has 16 = .ok (.iconst 0, 1) := by decide +kernel
theorem dX2_has_17 : decode cX2_has 17 = .ok (.ireturn, 1) := by decide +kernel
theorem dX1_has_0 : decode cX1_has 0 = .ok (.iload_n 1, 1) := by decide +kernel
theorem dX1_has_1 : decode cX1_has 1 = .ok (.aload_n 0, 1) := by decide +kernel
theorem dX1_has_2 : decode cX1_has 2 = .ok (.getfield 20, 3) := by decide +kernel
theorem dX1_has_5 : decode cX1_has 5 = .ok (.if_icmp .le 15, 3) := by decide +kernel
theorem dX1_has_8 : decode cX1_has 8 = .ok (.iload_n 1, 1) := by decide +kernel
theorem dX1_has_9 : decode cX1_has 9 = .ok (.aload_n 0, 1) := by decide +kernel
theorem dX1_has_10 : decode cX1_has 10 = .ok (.getfield 16, 3) := by decide +kernel
theorem dX1_has_13 : decode cX1_has 13 = .ok (.if_icmp .gt 7, 3) := by decide +kernel
theorem dX1_has_16 : decode cX1_has 16 = .ok (.iconst 1, 1) := by decide +kernel
theorem dX1_has_17 : decode cX1_has 17 = .ok (.goto 4, 3) := by decide +kernel
theorem dX1_has_20 : decode cX1_has 20 = .ok (.iconst 0, 1) := by decide +kernel
theorem dX1_has_21 : decode cX1_has 21 = .ok (.ireturn, 1) := by decide +kernel
theorem dX1_originAt_0 : decode cX1_originAt 0 = .ok (.aload_n 0, 1) := by decide +kernel
theorem dX1_originAt_1 : decode cX1_originAt 1 = .ok (.getfield 13, 3) := by decide +kernel
theorem dX1_originAt_4 : decode cX1_originAt 4 = .ok (.aload_n 0, 1) := by decide +kernel
theorem dX1_originAt_5 : decode cX1_originAt 5 = .ok (.iload_n 1, 1) := by decide +kernel
theorem dX1_originAt_6 : decode cX1_originAt 6 = .ok (.invokevirtual 27, 3) := by decide +kernel
theorem dX1_originAt_9 : decode cX1_originAt 9 = .ok (.iaload, 1) := by decide +kernel
theorem dX1_originAt_10 : decode cX1_originAt 10 = .ok (.ireturn, 1) := by decide +kernel
theorem dX3_copyFrom_0 : decode cX3_copyFrom 0 = .ok (.aload_n 1, 1) := by decide +kernel
theorem dX3_copyFrom_1 : decode cX3_copyFrom 1 = .ok (.getfield 9, 3) := by decide +kernel
theorem dX3_copyFrom_4 : decode cX3_copyFrom 4 = .ok (.iconst 0, 1) := by decide +kernel
theorem dX3_copyFrom_5 : decode cX3_copyFrom 5 = .ok (.aload_n 0, 1) := by decide +kernel
theorem dX3_copyFrom_6 : decode cX3_copyFrom 6 = .ok (.getfield 9, 3) := by decide +kernel
theorem dX3_copyFrom_9 : decode cX3_copyFrom 9 = .ok (.iconst 0, 1) := by decide +kernel
theorem dX3_copyFrom_10 : decode cX3_copyFrom 10 = .ok (.iconst 4, 1) := by decide +kernel
theorem dX3_copyFrom_11 : decode cX3_copyFrom 11 = .ok (.invokestatic 18, 3) := by decide +kernel
theorem dX3_copyFrom_14 : decode cX3_copyFrom 14 = .ok (.aload_n 1, 1) := by decide +kernel
theorem dX3_copyFrom_15 : decode cX3_copyFrom 15 = .ok (.getfield 15, 3) := by decide +kernel
theorem dX3_copyFrom_18 : decode cX3_copyFrom 18 = .ok (.iconst 0, 1) := by decide +kernel
theorem dX3_copyFrom_19 : decode cX3_copyFrom 19 = .ok (.aload_n 0, 1) := by decide +kernel
theorem dX3_copyFrom_20 : decode cX3_copyFrom 20 = .ok (.getfield 15, 3) := by decide +kernel
theorem dX3_copyFrom_23 : decode cX3_copyFrom 23 = .ok (.iconst 0, 1) := by decide +kernel
theorem dX3_copyFrom_24 : decode cX3_copyFrom 24 = .ok (.iconst 3, 1) := by decide +kernel
theorem dX3_copyFrom_25 : decode cX3_copyFrom 25 = .ok (.invokestatic 18, 3) := by decide +kernel
theorem dX3_copyFrom_28 : decode cX3_copyFrom 28 = .ok (.aload_n 0, 1) := by decide +kernel
theorem dX3_copyFrom_29 : decode cX3_copyFrom 29 = .ok (.aload_n 1, 1) := by decide +kernel
theorem dX3_copyFrom_30 : decode cX3_copyFrom 30 = .ok (.getfield 24, 3) := by decide +kernel
theorem dX3_copyFrom_33 : decode cX3_copyFrom 33 = .ok (.putfield 24, 3) := by decide +kernel
theorem dX3_copyFrom_36 : decode cX3_copyFrom 36 = .ok (.aload_n 0, 1) := by decide +kernel
theorem dX3_copyFrom_37 : decode cX3_copyFrom 37 = .ok (.aload_n 1, 1) := by decide +kernel
theorem dX3_copyFrom_38 : decode cX3_copyFrom 38 = .ok (.getfield 28, 3) := by decide +kernel
theorem dX3_copyFrom_41 : decode cX3_copyFrom 41 = .ok (.putfield 28, 3) := by decide +kernel
theorem dX3_copyFrom_44 : decode cX3_copyFrom 44 = .ok (.aload_n 0, 1) := by decide +kernel
theorem dX3_copyFrom_45 : decode cX3_copyFrom 45 = .ok (.aload_n 1, 1) := by decide +kernel
theorem dX3_copyFrom_46 : decode cX3_copyFrom 46 = .ok (.getfield 31, 3) := by decide +kernel
theorem dX3_copyFrom_49 : decode cX3_copyFrom 49 = .ok (.putfield 31, 3) := by decide +kernel
theorem dX3_copyFrom_52 : decode cX3_copyFrom 52 = .ok (.aload_n 0, 1) := by decide +kernel
theorem dX3_copyFrom_53 : decode cX3_copyFrom 53 = .ok (.aload_n 1, 1) := by decide +kernel
theorem dX3_copyFrom_54 : decode cX3_copyFrom 54 = .ok (.getfield 34, 3) := by decide +kernel
theorem dX3_copyFrom_57 : decode cX3_copyFrom 57 = .ok (.putfield 34, 3) := by decide +kernel
theorem dX3_copyFrom_60 : decode cX3_copyFrom 60 = .ok (.return_, 1) := by decide +kernel
end
section
theorem dX4_init_0 : decode cX4_init 0 = .ok (.aload_n 0, 1) := by decide +kernel
theorem dX4_init_1 : decode cX4_init 1 = .ok (.invokespecial 1, 3) := by decide +kernel
theorem dX4_init_4 : decode cX4_init 4 = .ok (.aload_n 0, 1) := by decide +kernel
theorem dX4_init_5 : decode cX4_init 5 = .ok (.iconst 3, 1) := by decide +kernel
theorem dX4_init_6 : decode cX4_init 6 = .ok (.anewarray 9, 3) := by decide +kernel
theorem dX4_init_9 : decode cX4_init 9 = .ok (.putfield 11, 3) := by decide +kernel
theorem dX4_init_12 : decode cX4_init 12 = .ok (.iconst 0, 1) := by decide +kernel
theorem dX4_init_13 : decode cX4_init 13 = .ok (.istore_n 1, 1) := by decide +kernel
theorem dX4_init_14 : decode cX4_init 14 = .ok (.iload_n 1, 1) := by decide +kernel
theorem dX4_init_15 : decode cX4_init 15 = .ok (.iconst 3, 1) := by decide +kernel
theorem dX4_init_16 : decode cX4_init 16 = .ok (.if_icmp .ge 22, 3) := by decide +kernel
theorem dX4_init_19 : decode cX4_init 19 = .ok (.aload_n 0, 1) := by decide +kernel
theorem dX4_init_20 : decode cX4_init 20 = .ok (.getfield 11, 3) := by decide +kernel
theorem dX4_init_23 : decode cX4_init 23 = .ok (.iload_n 1, 1) := by decide +kernel
theorem dX4_init_24 : decode cX4_init 24 = .ok (.new 9, 3) := by decide +kernel
theorem dX4_init_27 : decode cX4_init 27 = .ok (.dup, 1) := by decide +kernel
theorem dX4_init_28 : decode cX4_init 28 = .ok (.invokespecial 15, 3) := by decide +kernel
theorem dX4_init_31 : decode cX4_init 31 = .ok (.aastore, 1) := by decide +kernel
theorem dX4_init_32 : decode cX4_init 32 = .ok (.iinc 1 1, 3) := by decide +kernel
theorem dX4_init_35 : decode cX4_init 35 = .ok (.goto (-21), 3) := by decide +kernel
theorem dX4_init_38 : decode cX4_init 38 = .ok (.aload_n 0, 1) := by decide +kernel
theorem dX4_init_39 : decode cX4_init 39 = .ok (.bipush 9, 2) := by decide +kernel
theorem dX4_init_41 : decode cX4_init 41 = .ok (.anewarray 16, 3) := by decide +kernel
theorem dX4_init_44 : decode cX4_init 44 = .ok (.putfield 18, 3) := by decide +kernel
theorem dX4_init_47 : decode cX4_init 47 = .ok (.iconst 0, 1) := by decide +kernel
theorem dX4_init_48 : decode cX4_init 48 = .ok (.istore_n 1, 1) := by decide +kernel
theorem dX4_init_49 : decode cX4_init 49 = .ok (.iload_n 1, 1) := by decide +kernel
theorem dX4_init_50 : decode cX4_init 50 = .ok (.aload_n 0, 1) := by decide +kernel
theorem dX4_init_51 : decode cX4_init 51 = .ok (.getfield 18, 3) := by decide +kernel
theorem dX4_init_54 : decode cX4_init 54 = .ok (.arraylength, 1) := by decide +kernel
theorem dX4_init_55 : decode cX4_init 55 = .ok (.if_icmp .ge 24, 3) := by decide +kernel
theorem dX4_init_58 : decode cX4_init 58 = .ok (.aload_n 0, 1) := by decide +kernel
theorem dX4_init_59 : decode cX4_init 59 = .ok (.getfield 18, 3) := by decide +kernel
theorem dX4_init_62 : decode cX4_init 62 = .ok (.iload_n 1, 1) := by decide +kernel
theorem dX4_init_63 : decode cX4_init 63 = .ok (.new 16, 3) := by decide +kernel
theorem dX4_init_66 : decode cX4_init 66 = .ok (.dup, 1) := by decide +kernel
theorem dX4_init_67 : decode cX4_init 67 = .ok (.bipush 8, 2) := by decide +kernel
theorem dX4_init_69 : decode cX4_init 69 = .ok (.invokespecial 22, 3) := by decide +kernel
theorem dX4_init_72 : decode cX4_init 72 = .ok (.aastore, 1) := by decide +kernel
theorem dX4_init_73 : decode cX4_init 73 = .ok (.iinc 1 1, 3) := by decide +kernel
theorem dX4_init_76 : decode cX4_init 76 = .ok (.goto (-27), 3) := by decide +kernel
theorem dX4_init_79 : decode cX4_init 79 = .ok (.aload_n 0, 1) := by decide +kernel
theorem dX4_init_80 : decode cX4_init 80 = .ok (.new 16, 3) := by decide +kernel
theorem dX4_init_83 : decode cX4_init 83 = .ok (.dup, 1) := by decide +kernel
theorem dX4_init_84 : decode cX4_init 84 = .ok (.bipush 60, 2) := by decide +kernel
theorem dX4_init_86 : decode cX4_init 86 = .ok (.invokespecial 22, 3) := by decide +kernel
theorem dX4_init_89 : decode cX4_init 89 = .ok (.putfield 25, 3) := by decide +kernel
theorem dX4_init_92 : decode cX4_init 92 = .ok (.return_, 1) := by decide +kernel
theorem dX4_code_0 : decode cX4_code 0 = .ok (.iload_n 1, 1) := by decide +kernel
theorem dX4_code_1 : decode cX4_code 1 = .ok (.invokestatic 29, 3) := by decide +kernel
theorem dX4_code_4 : decode cX4_code 4 = .ok (.ifCond .eq 14, 3) := by decide +kernel
theorem dX4_code_7 : decode cX4_code 7 = .ok (.iload_n 1, 1) := by decide +kernel
theorem dX4_code_8 : decode cX4_code 8 = .ok (.iload_n 2, 1) := by decide +kernel
theorem dX4_code_9 : decode cX4_code 9 = .ok (.iload_n 3, 1) := by decide +kernel
theorem dX4_code_10 : decode cX4_code 10 = .ok (.iload 4, 2) := by decide +kernel
theorem dX4_code_12 : decode cX4_code 12 = .ok (.invokestatic 33, 3) := by decide +kernel
theorem dX4_code_15 : decode cX4_code 15 = .ok (.ifCond .ne 5, 3) := by decide +kernel
theorem dX4_code_18 : decode cX4_code 18 = .ok (.iconst 0, 1) := by decide +kernel
theorem dX4_code_19 : decode cX4_code 19 = .ok (.ireturn, 1) := by decide +kernel
theorem dX4_code_20 : decode cX4_code 20 = .ok (.aload_n 0, 1) := by decide +kernel
theorem dX4_code_21 : decode cX4_code 21 = .ok (.getfield 11, 3) := by decide +kernel
theorem dX4_code_24 : decode cX4_code 24 = .ok (.iload_n 1, 1) := by decide +kernel
theorem dX4_code_25 : decode cX4_code 25 = .ok (.aaload, 1) := by decide +kernel
theorem dX4_code_26 : decode cX4_code 26 = .ok (.astore 5, 2) := by decide +kernel
theorem dX4_code_28 : decode cX4_code 28 = .ok (.aload 5, 2) := by decide +kernel
theorem dX4_code_30 : decode cX4_code 30 = .ok (.getfield 37, 3) := by decide +kernel
theorem dX4_code_33 : decode cX4_code 33 = .ok (.ifCond .ne 14, 3) := by decide +kernel
theorem dX4_code_36 : decode cX4_code 36 = .ok (.aload 5, 2) := by decide +kernel
theorem dX4_code_38 : decode cX4_code 38 = .ok (.getfield 41, 3) := by decide +kernel
theorem dX4_code_41 : decode cX4_code 41 = .ok (.invokevirtual 45, 3) := by decide +kernel
theorem dX4_code_44 : decode cX4_code 44 = .ok (.ifCond .eq 5, 3) := by decide +kernel
theorem dX4_code_47 : decode cX4_code 47 = .ok (.iconst 0, 1) := by decide +kernel
theorem dX4_code_48 : decode cX4_code 48 = .ok (.ireturn, 1) := by decide +kernel
theorem dX4_code_49 : decode cX4_code 49 = .ok (.aload 5, 2) := by decide +kernel
theorem dX4_code_51 : decode cX4_code 51 = .ok (.getfield 41, 3) := by decide +kernel
theorem dX4_code_54 : decode cX4_code 54 = .ok (.iload_n 2, 1) := by decide +kernel
theorem dX4_code_55 : decode cX4_code 55 = .ok (.iload_n 3, 1) := by decide +kernel
theorem dX4_code_56 : decode cX4_code 56 = .ok (.iload 4, 2) := by decide +kernel
theorem dX4_code_58 : decode cX4_code 58 = .ok (.invokevirtual 51, 3) := by decide +kernel
theorem dX4_code_61 : decode cX4_code 61 = .ok (.iconst 1, 1) := by decide +kernel
theorem dX4_code_62 : decode cX4_code 62 = .ok (.ireturn, 1) := by decide +kernel
theorem dX4_isProcess_0 : decode cX4_isProcess 0 = .ok (.iload_n 0, 1) := by decide +kernel
theorem dX4_isProcess_1 : decode cX4_isProcess 1 = .ok (.ifCond .lt 12, 3) := by decide +kernel
theorem dX4_isProcess_4 : decode cX4_isProcess 4 = .ok (.iload_n 0, 1) := by decide +kernel
theorem dX4_isProcess_5 : decode cX4_isProcess 5 = .ok (.iconst 3, 1) := by decide +kernel
theorem dX4_isProcess_6 : decode cX4_isProcess 6 = .ok (.if_icmp .ge 7, 3) := by decide +kernel
theorem dX4_isProcess_9 : decode cX4_isProcess 9 = .ok (.iconst 1, 1) := by decide +kernel
theorem dX4_isProcess_10 : decode cX4_isProcess 10 = .ok (.goto 4, 3) := by decide +kernel
theorem dX4_isProcess_13 : decode cX4_isProcess 13 = .ok (.iconst 0, 1) := by decide +kernel
theorem dX4_isProcess_14 : decode cX4_isProcess 14 = .ok (.ireturn, 1) := by decide +kernel
theorem dX4_isInstruction_0 : decode cX4_isInstruction 0 = .ok (.iload_n 1, 1) := by decide +kernel
theorem dX4_isInstruction_1 : decode cX4_isInstruction 1 = .ok (.tableswitch 109 0 7 #[47, 52, 52, 52, 72, 88, 52, 47], 47) := by decide +kernel
theorem dX4_isInstruction_48 : decode cX4_isInstruction 48 = .ok (.iload_n 2, 1) := by decide +kernel
theorem dX4_isInstruction_49 : decode cX4_isInstruction 49 = .ok (.invokestatic 110, 3) := by decide +kernel
theorem dX4_isInstruction_52 : decode cX4_isInstruction 52 = .ok (.ireturn, 1) := by decide +kernel
theorem dX4_isInstruction_53 : decode cX4_isInstruction 53 = .ok (.iload_n 2, 1) := by decide +kernel
theorem dX4_isInstruction_54 : decode cX4_isInstruction 54 = .ok (.invokestatic 110, 3) := by decide +kernel
theorem dX4_isInstruction_57 : decode cX4_isInstruction 57 = .ok (.ifCond .eq 14, 3) := by decide +kernel
theorem dX4_isInstruction_60 : decode cX4_isInstruction 60 = .ok (.iload_n 3, 1) := by decide +kernel
theorem dX4_isInstruction_61 : decode cX4_isInstruction 61 = .ok (.invokestatic 110, 3) := by decide +kernel
theorem dX4_isInstruction_64 : decode cX4_isInstruction 64 = .ok (.ifCond .eq 7, 3) := by decide +kernel
theorem dX4_isInstruction_67 : decode cX4_isInstruction 67 = .ok (.iconst 1, 1) := by decide +kernel
theorem dX4_isInstruction_68 : decode cX4_isInstruction 68 = .ok (.goto 4, 3) := by decide +kernel
theorem dX4_isInstruction_71 : decode cX4_isInstruction 71 = .ok (.iconst 0, 1) := by decide +kernel
theorem dX4_isInstruction_72 : decode cX4_isInstruction 72 = .ok (.ireturn, 1) := by decide +kernel
theorem dX4_isInstruction_73 : decode cX4_isInstruction 73 = .ok (.iload_n 2, 1) := by decide +kernel
theorem dX4_isInstruction_74 : decode cX4_isInstruction 74 = .ok (.ifCond .lt 13, 3) := by decide +kernel
theorem dX4_isInstruction_77 : decode cX4_isInstruction 77 = .ok (.iload_n 2, 1) := by decide +kernel
theorem dX4_isInstruction_78 : decode cX4_isInstruction 78 = .ok (.bipush 16, 2) := by decide +kernel
theorem dX4_isInstruction_80 : decode cX4_isInstruction 80 = .ok (.if_icmp .ge 7, 3) := by decide +kernel
theorem dX4_isInstruction_83 : decode cX4_isInstruction 83 = .ok (.iconst 1, 1) := by decide +kernel
theorem dX4_isInstruction_84 : decode cX4_isInstruction 84 = .ok (.goto 4, 3) := by decide +kernel
theorem dX4_isInstruction_87 : decode cX4_isInstruction 87 = .ok (.iconst 0, 1) := by decide +kernel
theorem dX4_isInstruction_88 : decode cX4_isInstruction 88 = .ok (.ireturn, 1) := by decide +kernel
theorem dX4_isInstruction_89 : decode cX4_isInstruction 89 = .ok (.iload_n 0, 1) := by decide +kernel
theorem dX4_isInstruction_90 : decode cX4_isInstruction 90 = .ok (.iload_n 2, 1) := by decide +kernel
theorem dX4_isInstruction_91 : decode cX4_isInstruction 91 = .ok (.invokestatic 65, 3) := by decide +kernel
theorem dX4_isInstruction_94 : decode cX4_isInstruction 94 = .ok (.ifCond .eq 14, 3) := by decide +kernel
theorem dX4_isInstruction_97 : decode cX4_isInstruction 97 = .ok (.iload_n 3, 1) := by decide +kernel
theorem dX4_isInstruction_98 : decode cX4_isInstruction 98 = .ok (.invokestatic 110, 3) := by decide +kernel
theorem dX4_isInstruction_101 : decode cX4_isInstruction 101 = .ok (.ifCond .eq 7, 3) := by decide +kernel
theorem dX4_isInstruction_104 : decode cX4_isInstruction 104 = .ok (.iconst 1, 1) := by decide +kernel
theorem dX4_isInstruction_105 : decode cX4_isInstruction 105 = .ok (.goto 4, 3) := by decide +kernel
theorem dX4_isInstruction_108 : decode cX4_isInstruction 108 = .ok (.iconst 0, 1) := by decide +kernel
theorem dX4_isInstruction_109 : decode cX4_isInstruction 109 = .ok (.ireturn, 1) := by decide +kernel
theorem dX4_isInstruction_110 : decode cX4_isInstruction 110 = .ok (.iconst 0, 1) := by decide +kernel
theorem dX4_isInstruction_111 : decode cX4_isInstruction 111 = .ok (.ireturn, 1) := by decide +kernel
theorem dX4_isRegister_0 : decode cX4_isRegister 0 = .ok (.iload_n 0, 1) := by decide +kernel
theorem dX4_isRegister_1 : decode cX4_isRegister 1 = .ok (.ifCond .lt 12, 3) := by decide +kernel
theorem dX4_isRegister_4 : decode cX4_isRegister 4 = .ok (.iload_n 0, 1) := by decide +kernel
theorem dX4_isRegister_5 : decode cX4_isRegister 5 = .ok (.iconst 4, 1) := by decide +kernel
theorem dX4_isRegister_6 : decode cX4_isRegister 6 = .ok (.if_icmp .ge 7, 3) := by decide +kernel
theorem dX4_isRegister_9 : decode cX4_isRegister 9 = .ok (.iconst 1, 1) := by decide +kernel
theorem dX4_isRegister_10 : decode cX4_isRegister 10 = .ok (.goto 4, 3) := by decide +kernel
theorem dX4_isRegister_13 : decode cX4_isRegister 13 = .ok (.iconst 0, 1) := by decide +kernel
theorem dX4_isRegister_14 : decode cX4_isRegister 14 = .ok (.ireturn, 1) := by decide +kernel
theorem dX4_isChannel_0 : decode cX4_isChannel 0 = .ok (.iload_n 0, 1) := by decide +kernel
theorem dX4_isChannel_1 : decode cX4_isChannel 1 = .ok (.invokestatic 29, 3) := by decide +kernel
theorem dX4_isChannel_4 : decode cX4_isChannel 4 = .ok (.ifCond .eq 19, 3) := by decide +kernel
theorem dX4_isChannel_7 : decode cX4_isChannel 7 = .ok (.iload_n 1, 1) := by decide +kernel
theorem dX4_isChannel_8 : decode cX4_isChannel 8 = .ok (.invokestatic 29, 3) := by decide +kernel
theorem dX4_isChannel_11 : decode cX4_isChannel 11 = .ok (.ifCond .eq 12, 3) := by decide +kernel
theorem dX4_isChannel_14 : decode cX4_isChannel 14 = .ok (.iload_n 0, 1) := by decide +kernel
theorem dX4_isChannel_15 : decode cX4_isChannel 15 = .ok (.iload_n 1, 1) := by decide +kernel
theorem dX4_isChannel_16 : decode cX4_isChannel 16 = .ok (.if_icmp .eq 7, 3) := by decide +kernel
theorem dX4_isChannel_19 : decode cX4_isChannel 19 = .ok (.iconst 1, 1) := by decide +kernel
theorem dX4_isChannel_20 : decode cX4_isChannel 20 = .ok (.goto 4, 3) := by decide +kernel
theorem dX4_isChannel_23 : decode cX4_isChannel 23 = .ok (.iconst 0, 1) := by decide +kernel
theorem dX4_isChannel_24 : decode cX4_isChannel 24 = .ok (.ireturn, 1) := by decide +kernel
theorem dX4_input_0 : decode cX4_input 0 = .ok (.iload_n 1, 1) := by decide +kernel
theorem dX4_input_1 : decode cX4_input 1 = .ok (.invokestatic 29, 3) := by decide +kernel
theorem dX4_input_4 : decode cX4_input 4 = .ok (.ifCond .ne 5, 3) := by decide +kernel
theorem dX4_input_7 : decode cX4_input 7 = .ok (.iconst (-1), 1) := by decide +kernel
theorem dX4_input_8 : decode cX4_input 8 = .ok (.ireturn, 1) := by decide +kernel
theorem dX4_input_9 : decode cX4_input 9 = .ok (.aload_n 0, 1) := by decide +kernel
theorem dX4_input_10 : decode cX4_input 10 = .ok (.getfield 11, 3) := by decide +kernel
theorem dX4_input_13 : decode cX4_input 13 = .ok (.iload_n 1, 1) := by decide +kernel
theorem dX4_input_14 : decode cX4_input 14 = .ok (.aaload, 1) := by decide +kernel
theorem dX4_input_15 : decode cX4_input 15 = .ok (.astore_n 3, 1) := by decide +kernel
theorem dX4_input_16 : decode cX4_input 16 = .ok (.aload_n 3, 1) := by decide +kernel
theorem dX4_input_17 : decode cX4_input 17 = .ok (.getfield 55, 3) := by decide +kernel
theorem dX4_input_20 : decode cX4_input 20 = .ok (.ifCond .ne 6, 3) := by decide +kernel
theorem dX4_input_23 : decode cX4_input 23 = .ok (.bipush (-2), 2) := by decide +kernel
theorem dX4_input_25 : decode cX4_input 25 = .ok (.ireturn, 1) := by decide +kernel
theorem dX4_input_26 : decode cX4_input 26 = .ok (.aload_n 3, 1) := by decide +kernel
theorem dX4_input_27 : decode cX4_input 27 = .ok (.getfield 58, 3) := by decide +kernel
theorem dX4_input_30 : decode cX4_input 30 = .ok (.invokevirtual 61, 3) := by decide +kernel
theorem dX4_input_33 : decode cX4_input 33 = .ok (.ifCond .eq 6, 3) := by decide +kernel
theorem dX4_input_36 : decode cX4_input 36 = .ok (.bipush (-4), 2) := by decide +kernel
theorem dX4_input_38 : decode cX4_input 38 = .ok (.ireturn, 1) := by decide +kernel
theorem dX4_input_39 : decode cX4_input 39 = .ok (.aload_n 3, 1) := by decide +kernel
theorem dX4_input_40 : decode cX4_input 40 = .ok (.getfield 58, 3) := by decide +kernel
theorem dX4_input_43 : decode cX4_input 43 = .ok (.iload_n 2, 1) := by decide +kernel
theorem dX4_input_44 : decode cX4_input 44 = .ok (.iconst 3, 1) := by decide +kernel
theorem dX4_input_45 : decode cX4_input 45 = .ok (.invokevirtual 62, 3) := by decide +kernel
theorem dX4_input_48 : decode cX4_input 48 = .ok (.ireturn, 1) := by decide +kernel
theorem dX4_deliver_0 : decode cX4_deliver 0 = .ok (.iload_n 1, 1) := by decide +kernel
theorem dX4_deliver_1 : decode cX4_deliver 1 = .ok (.iload_n 2, 1) := by decide +kernel
theorem dX4_deliver_2 : decode cX4_deliver 2 = .ok (.invokestatic 65, 3) := by decide +kernel
theorem dX4_deliver_5 : decode cX4_deliver 5 = .ok (.ifCond .ne 5, 3) := by decide +kernel
theorem dX4_deliver_8 : decode cX4_deliver 8 = .ok (.iconst (-1), 1) := by decide +kernel
theorem dX4_deliver_9 : decode cX4_deliver 9 = .ok (.ireturn, 1) := by decide +kernel
theorem dX4_deliver_10 : decode cX4_deliver 10 = .ok (.aload_n 0, 1) := by decide +kernel
theorem dX4_deliver_11 : decode cX4_deliver 11 = .ok (.getfield 11, 3) := by decide +kernel
theorem dX4_deliver_14 : decode cX4_deliver 14 = .ok (.iload_n 2, 1) := by decide +kernel
theorem dX4_deliver_15 : decode cX4_deliver 15 = .ok (.aaload, 1) := by decide +kernel
theorem dX4_deliver_16 : decode cX4_deliver 16 = .ok (.astore_n 3, 1) := by decide +kernel
theorem dX4_deliver_17 : decode cX4_deliver 17 = .ok (.aload_n 0, 1) := by decide +kernel
theorem dX4_deliver_18 : decode cX4_deliver 18 = .ok (.iload_n 1, 1) := by decide +kernel
theorem dX4_deliver_19 : decode cX4_deliver 19 = .ok (.iload_n 2, 1) := by decide +kernel
theorem dX4_deliver_20 : decode cX4_deliver 20 = .ok (.invokevirtual 69, 3) := by decide +kernel
theorem dX4_deliver_23 : decode cX4_deliver 23 = .ok (.astore 4, 2) := by decide +kernel
theorem dX4_deliver_25 : decode cX4_deliver 25 = .ok (.aload_n 3, 1) := by decide +kernel
theorem dX4_deliver_26 : decode cX4_deliver 26 = .ok (.getfield 55, 3) := by decide +kernel
theorem dX4_deliver_29 : decode cX4_deliver 29 = .ok (.ifCond .ne 6, 3) := by decide +kernel
theorem dX4_deliver_32 : decode cX4_deliver 32 = .ok (.bipush (-2), 2) := by decide +kernel
theorem dX4_deliver_34 : decode cX4_deliver 34 = .ok (.ireturn, 1) := by decide +kernel
theorem dX4_deliver_35 : decode cX4_deliver 35 = .ok (.aload 4, 2) := by decide +kernel
theorem dX4_deliver_37 : decode cX4_deliver 37 = .ok (.invokevirtual 73, 3) := by decide +kernel
theorem dX4_deliver_40 : decode cX4_deliver 40 = .ok (.ifCond .ne 6, 3) := by decide +kernel
theorem dX4_deliver_43 : decode cX4_deliver 43 = .ok (.bipush (-3), 2) := by decide +kernel
theorem dX4_deliver_45 : decode cX4_deliver 45 = .ok (.ireturn, 1) := by decide +kernel
theorem dX4_deliver_46 : decode cX4_deliver 46 = .ok (.aload_n 3, 1) := by decide +kernel
theorem dX4_deliver_47 : decode cX4_deliver 47 = .ok (.getfield 58, 3) := by decide +kernel
theorem dX4_deliver_50 : decode cX4_deliver 50 = .ok (.invokevirtual 61, 3) := by decide +kernel
theorem dX4_deliver_53 : decode cX4_deliver 53 = .ok (.ifCond .eq 6, 3) := by decide +kernel
theorem dX4_deliver_56 : decode cX4_deliver 56 = .ok (.bipush (-4), 2) := by decide +kernel
theorem dX4_deliver_58 : decode cX4_deliver 58 = .ok (.ireturn, 1) := by decide +kernel
theorem dX4_deliver_59 : decode cX4_deliver 59 = .ok (.aload 4, 2) := by decide +kernel
theorem dX4_deliver_61 : decode cX4_deliver 61 = .ok (.getfield 77, 3) := by decide +kernel
theorem dX4_deliver_64 : decode cX4_deliver 64 = .ok (.iconst 1, 1) := by decide +kernel
theorem dX4_deliver_65 : decode cX4_deliver 65 = .ok (.iadd, 1) := by decide +kernel
theorem dX4_deliver_66 : decode cX4_deliver 66 = .ok (.istore 5, 2) := by decide +kernel
theorem dX4_deliver_68 : decode cX4_deliver 68 = .ok (.aload 4, 2) := by decide +kernel
theorem dX4_deliver_70 : decode cX4_deliver 70 = .ok (.iload 5, 2) := by decide +kernel
theorem dX4_deliver_72 : decode cX4_deliver 72 = .ok (.invokevirtual 81, 3) := by decide +kernel
theorem dX4_deliver_75 : decode cX4_deliver 75 = .ok (.istore 6, 2) := by decide +kernel
theorem dX4_deliver_77 : decode cX4_deliver 77 = .ok (.aload 4, 2) := by decide +kernel
theorem dX4_deliver_79 : decode cX4_deliver 79 = .ok (.iload 5, 2) := by decide +kernel
theorem dX4_deliver_81 : decode cX4_deliver 81 = .ok (.invokevirtual 85, 3) := by decide +kernel
theorem dX4_deliver_84 : decode cX4_deliver 84 = .ok (.pop, 1) := by decide +kernel
theorem dX4_deliver_85 : decode cX4_deliver 85 = .ok (.aload_n 3, 1) := by decide +kernel
theorem dX4_deliver_86 : decode cX4_deliver 86 = .ok (.getfield 58, 3) := by decide +kernel
theorem dX4_deliver_89 : decode cX4_deliver 89 = .ok (.iload 6, 2) := by decide +kernel
theorem dX4_deliver_91 : decode cX4_deliver 91 = .ok (.iload_n 1, 1) := by decide +kernel
theorem dX4_deliver_92 : decode cX4_deliver 92 = .ok (.invokevirtual 62, 3) := by decide +kernel
theorem dX4_deliver_95 : decode cX4_deliver 95 = .ok (.ireturn, 1) := by decide +kernel
theorem dX4_channelBetween_0 : decode cX4_channelBetween 0 = .ok (.aload_n 0, 1) := by decide +kernel
theorem dX4_channelBetween_1 : decode cX4_channelBetween 1 = .ok (.getfield 18, 3) := by decide +kernel
theorem dX4_channelBetween_4 : decode cX4_channelBetween 4 = .ok (.iload_n 1, 1) := by decide +kernel
theorem dX4_channelBetween_5 : decode cX4_channelBetween 5 = .ok (.iconst 3, 1) := by decide +kernel
theorem dX4_channelBetween_6 : decode cX4_channelBetween 6 = .ok (.imul, 1) := by decide +kernel
theorem dX4_channelBetween_7 : decode cX4_channelBetween 7 = .ok (.iload_n 2, 1) := by decide +kernel
theorem dX4_channelBetween_8 : decode cX4_channelBetween 8 = .ok (.iadd, 1) := by decide +kernel
theorem dX4_channelBetween_9 : decode cX4_channelBetween 9 = .ok (.aaload, 1) := by decide +kernel
theorem dX4_channelBetween_10 : decode cX4_channelBetween 10 = .ok (.areturn, 1) := by decide +kernel
theorem dX4_step_0 : decode cX4_step 0 = .ok (.iload_n 1, 1) := by decide +kernel
theorem dX4_step_1 : decode cX4_step 1 = .ok (.invokestatic 29, 3) := by decide +kernel
theorem dX4_step_4 : decode cX4_step 4 = .ok (.ifCond .ne 5, 3) := by decide +kernel
theorem dX4_step_7 : decode cX4_step 7 = .ok (.iconst (-1), 1) := by decide +kernel
theorem dX4_step_8 : decode cX4_step 8 = .ok (.ireturn, 1) := by decide +kernel
theorem dX4_step_9 : decode cX4_step 9 = .ok (.aload_n 0, 1) := by decide +kernel
theorem dX4_step_10 : decode cX4_step 10 = .ok (.getfield 11, 3) := by decide +kernel
theorem dX4_step_13 : decode cX4_step 13 = .ok (.iload_n 1, 1) := by decide +kernel
theorem dX4_step_14 : decode cX4_step 14 = .ok (.aaload, 1) := by decide +kernel
theorem dX4_step_15 : decode cX4_step 15 = .ok (.getfield 55, 3) := by decide +kernel
theorem dX4_step_18 : decode cX4_step 18 = .ok (.ifCond .ne 6, 3) := by decide +kernel
theorem dX4_step_21 : decode cX4_step 21 = .ok (.bipush (-2), 2) := by decide +kernel
theorem dX4_step_23 : decode cX4_step 23 = .ok (.ireturn, 1) := by decide +kernel
theorem dX4_step_24 : decode cX4_step 24 = .ok (.aload_n 0, 1) := by decide +kernel
theorem dX4_step_25 : decode cX4_step 25 = .ok (.iload_n 1, 1) := by decide +kernel
theorem dX4_step_26 : decode cX4_step 26 = .ok (.invokevirtual 88, 3) := by decide +kernel
theorem dX4_step_29 : decode cX4_step 29 = .ok (.ireturn, 1) := by decide +kernel
theorem dX4_doNext_0 : decode cX4_doNext 0 = .ok (.aload_n 0, 1) := by decide +kernel
theorem dX4_doNext_1 : decode cX4_doNext 1 = .ok (.getfield 11, 3) := by decide +kernel
theorem dX4_doNext_4 : decode cX4_doNext 4 = .ok (.iload_n 1, 1) := by decide +kernel
theorem dX4_doNext_5 : decode cX4_doNext 5 = .ok (.aaload, 1) := by decide +kernel
theorem dX4_doNext_6 : decode cX4_doNext 6 = .ok (.astore_n 2, 1) := by decide +kernel
theorem dX4_doNext_7 : decode cX4_doNext 7 = .ok (.aload_n 2, 1) := by decide +kernel
theorem dX4_doNext_8 : decode cX4_doNext 8 = .ok (.getfield 95, 3) := by decide +kernel
theorem dX4_doNext_11 : decode cX4_doNext 11 = .ok (.astore_n 3, 1) := by decide +kernel
theorem dX4_doNext_12 : decode cX4_doNext 12 = .ok (.aload_n 3, 1) := by decide +kernel
theorem dX4_doNext_13 : decode cX4_doNext 13 = .ok (.getfield 117, 3) := by decide +kernel
theorem dX4_doNext_16 : decode cX4_doNext 16 = .ok (.istore 4, 2) := by decide +kernel
theorem dX4_doNext_18 : decode cX4_doNext 18 = .ok (.aload_n 2, 1) := by decide +kernel
theorem dX4_doNext_19 : decode cX4_doNext 19 = .ok (.getfield 41, 3) := by decide +kernel
theorem dX4_doNext_22 : decode cX4_doNext 22 = .ok (.iload 4, 2) := by decide +kernel
theorem dX4_doNext_24 : decode cX4_doNext 24 = .ok (.invokevirtual 141, 3) := by decide +kernel
theorem dX4_doNext_27 : decode cX4_doNext 27 = .ok (.ifCond .ne 5, 3) := by decide +kernel
theorem dX4_doNext_30 : decode cX4_doNext 30 = .ok (.iconst 2, 1) := by decide +kernel
theorem dX4_doNext_31 : decode cX4_doNext 31 = .ok (.ireturn, 1) := by decide +kernel
theorem dX4_doNext_32 : decode cX4_doNext 32 = .ok (.aload_n 2, 1) := by decide +kernel
theorem dX4_doNext_33 : decode cX4_doNext 33 = .ok (.getfield 41, 3) := by decide +kernel
theorem dX4_doNext_36 : decode cX4_doNext 36 = .ok (.getfield 142, 3) := by decide +kernel
theorem dX4_doNext_39 : decode cX4_doNext 39 = .ok (.iload 4, 2) := by decide +kernel
theorem dX4_doNext_41 : decode cX4_doNext 41 = .ok (.iaload, 1) := by decide +kernel
theorem dX4_doNext_42 : decode cX4_doNext 42 = .ok (.istore 5, 2) := by decide +kernel
theorem dX4_doNext_44 : decode cX4_doNext 44 = .ok (.aload_n 2, 1) := by decide +kernel
theorem dX4_doNext_45 : decode cX4_doNext 45 = .ok (.getfield 41, 3) := by decide +kernel
theorem dX4_doNext_48 : decode cX4_doNext 48 = .ok (.getfield 145, 3) := by decide +kernel
theorem dX4_doNext_51 : decode cX4_doNext 51 = .ok (.iload 4, 2) := by decide +kernel
theorem dX4_doNext_53 : decode cX4_doNext 53 = .ok (.iaload, 1) := by decide +kernel
theorem dX4_doNext_54 : decode cX4_doNext 54 = .ok (.istore 6, 2) := by decide +kernel
theorem dX4_doNext_56 : decode cX4_doNext 56 = .ok (.aload_n 2, 1) := by decide +kernel
theorem dX4_doNext_57 : decode cX4_doNext 57 = .ok (.getfield 41, 3) := by decide +kernel
theorem dX4_doNext_60 : decode cX4_doNext 60 = .ok (.getfield 148, 3) := by decide +kernel
theorem dX4_doNext_63 : decode cX4_doNext 63 = .ok (.iload 4, 2) := by decide +kernel
theorem dX4_doNext_65 : decode cX4_doNext 65 = .ok (.iaload, 1) := by decide +kernel
theorem dX4_doNext_66 : decode cX4_doNext 66 = .ok (.istore 7, 2) := by decide +kernel
theorem dX4_doNext_68 : decode cX4_doNext 68 = .ok (.aload_n 3, 1) := by decide +kernel
theorem dX4_doNext_69 : decode cX4_doNext 69 = .ok (.iload 5, 2) := by decide +kernel
theorem dX4_doNext_71 : decode cX4_doNext 71 = .ok (.iload 6, 2) := by decide +kernel
theorem dX4_doNext_73 : decode cX4_doNext 73 = .ok (.iload 7, 2) := by decide +kernel
theorem dX4_doNext_75 : decode cX4_doNext 75 = .ok (.invokestatic 151, 3) := by decide +kernel
theorem dX4_doNext_78 : decode cX4_doNext 78 = .ok (.istore 8, 2) := by decide +kernel
theorem dX4_doNext_80 : decode cX4_doNext 80 = .ok (.aload_n 0, 1) := by decide +kernel
theorem dX4_doNext_81 : decode cX4_doNext 81 = .ok (.iload_n 1, 1) := by decide +kernel
theorem dX4_doNext_82 : decode cX4_doNext 82 = .ok (.iload 5, 2) := by decide +kernel
theorem dX4_doNext_84 : decode cX4_doNext 84 = .ok (.iload 6, 2) := by decide +kernel
theorem dX4_doNext_86 : decode cX4_doNext 86 = .ok (.iload 7, 2) := by decide +kernel
theorem dX4_doNext_88 : decode cX4_doNext 88 = .ok (.invokevirtual 155, 3) := by decide +kernel
theorem dX4_doNext_91 : decode cX4_doNext 91 = .ok (.ifCond .ne 5, 3) := by decide +kernel
theorem dX4_doNext_94 : decode cX4_doNext 94 = .ok (.iconst 0, 1) := by decide +kernel
theorem dX4_doNext_95 : decode cX4_doNext 95 = .ok (.ireturn, 1) := by decide +kernel
theorem dX4_doNext_96 : decode cX4_doNext 96 = .ok (.aload_n 3, 1) := by decide +kernel
theorem dX4_doNext_97 : decode cX4_doNext 97 = .ok (.iload 8, 2) := by decide +kernel
theorem dX4_doNext_99 : decode cX4_doNext 99 = .ok (.putfield 117, 3) := by decide +kernel
theorem dX4_doNext_102 : decode cX4_doNext 102 = .ok (.aload_n 3, 1) := by decide +kernel
theorem dX4_doNext_103 : decode cX4_doNext 103 = .ok (.dup, 1) := by decide +kernel
theorem dX4_doNext_104 : decode cX4_doNext 104 = .ok (.getfield 120, 3) := by decide +kernel
theorem dX4_doNext_107 : decode cX4_doNext 107 = .ok (.iconst 1, 1) := by decide +kernel
theorem dX4_doNext_108 : decode cX4_doNext 108 = .ok (.iadd, 1) := by decide +kernel
theorem dX4_doNext_109 : decode cX4_doNext 109 = .ok (.putfield 120, 3) := by decide +kernel
theorem dX4_doNext_112 : decode cX4_doNext 112 = .ok (.aload_n 2, 1) := by decide +kernel
theorem dX4_doNext_113 : decode cX4_doNext 113 = .ok (.iconst 1, 1) := by decide +kernel
theorem dX4_doNext_114 : decode cX4_doNext 114 = .ok (.putfield 37, 3) := by decide +kernel
theorem dX4_doNext_117 : decode cX4_doNext 117 = .ok (.iconst 1, 1) := by decide +kernel
theorem dX4_doNext_118 : decode cX4_doNext 118 = .ok (.ireturn, 1) := by decide +kernel
theorem dX4_placeAfter_0 : decode cX4_placeAfter 0 = .ok (.iload_n 1, 1) := by decide +kernel
theorem dX4_placeAfter_1 : decode cX4_placeAfter 1 = .ok (.iconst 4, 1) := by decide +kernel
theorem dX4_placeAfter_2 : decode cX4_placeAfter 2 = .ok (.if_icmp .ne 5, 3) := by decide +kernel
theorem dX4_placeAfter_5 : decode cX4_placeAfter 5 = .ok (.iload_n 2, 1) := by decide +kernel
theorem dX4_placeAfter_6 : decode cX4_placeAfter 6 = .ok (.ireturn, 1) := by decide +kernel
theorem dX4_placeAfter_7 : decode cX4_placeAfter 7 = .ok (.iload_n 1, 1) := by decide +kernel
theorem dX4_placeAfter_8 : decode cX4_placeAfter 8 = .ok (.iconst 3, 1) := by decide +kernel
theorem dX4_placeAfter_9 : decode cX4_placeAfter 9 = .ok (.if_icmp .ne 25, 3) := by decide +kernel
theorem dX4_placeAfter_12 : decode cX4_placeAfter 12 = .ok (.aload_n 0, 1) := by decide +kernel
theorem dX4_placeAfter_13 : decode cX4_placeAfter 13 = .ok (.getfield 113, 3) := by decide +kernel
theorem dX4_placeAfter_16 : decode cX4_placeAfter 16 = .ok (.iload_n 2, 1) := by decide +kernel
theorem dX4_placeAfter_17 : decode cX4_placeAfter 17 = .ok (.iaload, 1) := by decide +kernel
theorem dX4_placeAfter_18 : decode cX4_placeAfter 18 = .ok (.aload_n 0, 1) := by decide +kernel
theorem dX4_placeAfter_19 : decode cX4_placeAfter 19 = .ok (.getfield 113, 3) := by decide +kernel
theorem dX4_placeAfter_22 : decode cX4_placeAfter 22 = .ok (.iload_n 3, 1) := by decide +kernel
theorem dX4_placeAfter_23 : decode cX4_placeAfter 23 = .ok (.iaload, 1) := by decide +kernel
theorem dX4_placeAfter_24 : decode cX4_placeAfter 24 = .ok (.if_icmp .ge 10, 3) := by decide +kernel
theorem dX4_placeAfter_27 : decode cX4_placeAfter 27 = .ok (.aload_n 0, 1) := by decide +kernel
theorem dX4_placeAfter_28 : decode cX4_placeAfter 28 = .ok (.getfield 117, 3) := by decide +kernel
theorem dX4_placeAfter_31 : decode cX4_placeAfter 31 = .ok (.iconst 2, 1) := by decide +kernel
theorem dX4_placeAfter_32 : decode cX4_placeAfter 32 = .ok (.iadd, 1) := by decide +kernel
theorem dX4_placeAfter_33 : decode cX4_placeAfter 33 = .ok (.ireturn, 1) := by decide +kernel
theorem dX4_placeAfter_34 : decode cX4_placeAfter 34 = .ok (.aload_n 0, 1) := by decide +kernel
theorem dX4_placeAfter_35 : decode cX4_placeAfter 35 = .ok (.getfield 117, 3) := by decide +kernel
theorem dX4_placeAfter_38 : decode cX4_placeAfter 38 = .ok (.iconst 1, 1) := by decide +kernel
theorem dX4_placeAfter_39 : decode cX4_placeAfter 39 = .ok (.iadd, 1) := by decide +kernel
theorem dX4_placeAfter_40 : decode cX4_placeAfter 40 = .ok (.ireturn, 1) := by decide +kernel
theorem dX4_perform_0 : decode cX4_perform 0 = .ok (.aload_n 0, 1) := by decide +kernel
theorem dX4_perform_1 : decode cX4_perform 1 = .ok (.getfield 11, 3) := by decide +kernel
theorem dX4_perform_4 : decode cX4_perform 4 = .ok (.iload_n 1, 1) := by decide +kernel
theorem dX4_perform_5 : decode cX4_perform 5 = .ok (.aaload, 1) := by decide +kernel
theorem dX4_perform_6 : decode cX4_perform 6 = .ok (.getfield 95, 3) := by decide +kernel
theorem dX4_perform_9 : decode cX4_perform 9 = .ok (.getfield 113, 3) := by decide +kernel
theorem dX4_perform_12 : decode cX4_perform 12 = .ok (.astore 5, 2) := by decide +kernel
theorem dX4_perform_14 : decode cX4_perform 14 = .ok (.iload_n 2, 1) := by decide +kernel
theorem dX4_perform_15 : decode cX4_perform 15 = .ok (.tableswitch 112 0 7 #[45, 53, 67, 112, 112, 81, 93, 102], 45) := by decide +kernel
theorem dX4_perform_60 : decode cX4_perform 60 = .ok (.aload 5, 2) := by decide +kernel
theorem dX4_perform_62 : decode cX4_perform 62 = .ok (.iload_n 3, 1) := by decide +kernel
theorem dX4_perform_63 : decode cX4_perform 63 = .ok (.iload 4, 2) := by decide +kernel
theorem dX4_perform_65 : decode cX4_perform 65 = .ok (.iastore, 1) := by decide +kernel
theorem dX4_perform_66 : decode cX4_perform 66 = .ok (.iconst 1, 1) := by decide +kernel
theorem dX4_perform_67 : decode cX4_perform 67 = .ok (.ireturn, 1) := by decide +kernel
theorem dX4_perform_68 : decode cX4_perform 68 = .ok (.aload 5, 2) := by decide +kernel
theorem dX4_perform_70 : decode cX4_perform 70 = .ok (.iload_n 3, 1) := by decide +kernel
theorem dX4_perform_71 : decode cX4_perform 71 = .ok (.dup2, 1) := by decide +kernel
theorem dX4_perform_72 : decode cX4_perform 72 = .ok (.iaload, 1) := by decide +kernel
theorem dX4_perform_73 : decode cX4_perform 73 = .ok (.aload 5, 2) := by decide +kernel
theorem dX4_perform_75 : decode cX4_perform 75 = .ok (.iload 4, 2) := by decide +kernel
theorem dX4_perform_77 : decode cX4_perform 77 = .ok (.iaload, 1) := by decide +kernel
theorem dX4_perform_78 : decode cX4_perform 78 = .ok (.iadd, 1) := by decide +kernel
theorem dX4_perform_79 : decode cX4_perform 79 = .ok (.iastore, 1) := by decide +kernel
theorem dX4_perform_80 : decode cX4_perform 80 = .ok (.iconst 1, 1) := by decide +kernel
theorem dX4_perform_81 : decode cX4_perform 81 = .ok (.ireturn, 1) := by decide +kernel
theorem dX4_perform_82 : decode cX4_perform 82 = .ok (.aload 5, 2) := by decide +kernel
theorem dX4_perform_84 : decode cX4_perform 84 = .ok (.iload_n 3, 1) := by decide +kernel
theorem dX4_perform_85 : decode cX4_perform 85 = .ok (.dup2, 1) := by decide +kernel
theorem dX4_perform_86 : decode cX4_perform 86 = .ok (.iaload, 1) := by decide +kernel
theorem dX4_perform_87 : decode cX4_perform 87 = .ok (.aload 5, 2) := by decide +kernel
theorem dX4_perform_89 : decode cX4_perform 89 = .ok (.iload 4, 2) := by decide +kernel
theorem dX4_perform_91 : decode cX4_perform 91 = .ok (.iaload, 1) := by decide +kernel
theorem dX4_perform_92 : decode cX4_perform 92 = .ok (.imul, 1) := by decide +kernel
theorem dX4_perform_93 : decode cX4_perform 93 = .ok (.iastore, 1) := by decide +kernel
theorem dX4_perform_94 : decode cX4_perform 94 = .ok (.iconst 1, 1) := by decide +kernel
theorem dX4_perform_95 : decode cX4_perform 95 = .ok (.ireturn, 1) := by decide +kernel
theorem dX4_perform_96 : decode cX4_perform 96 = .ok (.aload_n 0, 1) := by decide +kernel
theorem dX4_perform_97 : decode cX4_perform 97 = .ok (.iload_n 1, 1) := by decide +kernel
theorem dX4_perform_98 : decode cX4_perform 98 = .ok (.iload_n 3, 1) := by decide +kernel
theorem dX4_perform_99 : decode cX4_perform 99 = .ok (.aload 5, 2) := by decide +kernel
theorem dX4_perform_101 : decode cX4_perform 101 = .ok (.iload 4, 2) := by decide +kernel
theorem dX4_perform_103 : decode cX4_perform 103 = .ok (.iaload, 1) := by decide +kernel
theorem dX4_perform_104 : decode cX4_perform 104 = .ok (.invokevirtual 158, 3) := by decide +kernel
theorem dX4_perform_107 : decode cX4_perform 107 = .ok (.ireturn, 1) := by decide +kernel
theorem dX4_perform_108 : decode cX4_perform 108 = .ok (.aload_n 0, 1) := by decide +kernel
theorem dX4_perform_109 : decode cX4_perform 109 = .ok (.iload_n 1, 1) := by decide +kernel
theorem dX4_perform_110 : decode cX4_perform 110 = .ok (.iload_n 3, 1) := by decide +kernel
theorem dX4_perform_111 : decode cX4_perform 111 = .ok (.iload 4, 2) := by decide +kernel
theorem dX4_perform_113 : decode cX4_perform 113 = .ok (.invokevirtual 162, 3) := by decide +kernel
theorem dX4_perform_116 : decode cX4_perform 116 = .ok (.ireturn, 1) := by decide +kernel
theorem dX4_perform_117 : decode cX4_perform 117 = .ok (.aload_n 0, 1) := by decide +kernel
theorem dX4_perform_118 : decode cX4_perform 118 = .ok (.iload_n 1, 1) := by decide +kernel
theorem dX4_perform_119 : decode cX4_perform 119 = .ok (.aload 5, 2) := by decide +kernel
theorem dX4_perform_121 : decode cX4_perform 121 = .ok (.iload_n 3, 1) := by decide +kernel
theorem dX4_perform_122 : decode cX4_perform 122 = .ok (.iaload, 1) := by decide +kernel
theorem dX4_perform_123 : decode cX4_perform 123 = .ok (.invokevirtual 165, 3) := by decide +kernel
theorem dX4_perform_126 : decode cX4_perform 126 = .ok (.ireturn, 1) := by decide +kernel
theorem dX4_perform_127 : decode cX4_perform 127 = .ok (.iconst 1, 1) := by decide +kernel
theorem dX4_perform_128 : decode cX4_perform 128 = .ok (.ireturn, 1) := by decide +kernel
theorem dX4_trySend_0 : decode cX4_trySend 0 = .ok (.aload_n 0, 1) := by decide +kernel
theorem dX4_trySend_1 : decode cX4_trySend 1 = .ok (.getfield 11, 3) := by decide +kernel
theorem dX4_trySend_4 : decode cX4_trySend 4 = .ok (.iload_n 1, 1) := by decide +kernel
theorem dX4_trySend_5 : decode cX4_trySend 5 = .ok (.aaload, 1) := by decide +kernel
theorem dX4_trySend_6 : decode cX4_trySend 6 = .ok (.astore 4, 2) := by decide +kernel
theorem dX4_trySend_8 : decode cX4_trySend 8 = .ok (.aload_n 0, 1) := by decide +kernel
theorem dX4_trySend_9 : decode cX4_trySend 9 = .ok (.iload_n 1, 1) := by decide +kernel
theorem dX4_trySend_10 : decode cX4_trySend 10 = .ok (.iload_n 2, 1) := by decide +kernel
theorem dX4_trySend_11 : decode cX4_trySend 11 = .ok (.invokevirtual 69, 3) := by decide +kernel
theorem dX4_trySend_14 : decode cX4_trySend 14 = .ok (.astore 5, 2) := by decide +kernel
theorem dX4_trySend_16 : decode cX4_trySend 16 = .ok (.aload 4, 2) := by decide +kernel
theorem dX4_trySend_18 : decode cX4_trySend 18 = .ok (.getfield 95, 3) := by decide +kernel
theorem dX4_trySend_21 : decode cX4_trySend 21 = .ok (.getfield 126, 3) := by decide +kernel
theorem dX4_trySend_24 : decode cX4_trySend 24 = .ok (.iload_n 2, 1) := by decide +kernel
theorem dX4_trySend_25 : decode cX4_trySend 25 = .ok (.iaload, 1) := by decide +kernel
theorem dX4_trySend_26 : decode cX4_trySend 26 = .ok (.aload 5, 2) := by decide +kernel
theorem dX4_trySend_28 : decode cX4_trySend 28 = .ok (.getfield 107, 3) := by decide +kernel
theorem dX4_trySend_31 : decode cX4_trySend 31 = .ok (.if_icmp .ge 17, 3) := by decide +kernel
theorem dX4_trySend_34 : decode cX4_trySend 34 = .ok (.aload 4, 2) := by decide +kernel
theorem dX4_trySend_36 : decode cX4_trySend 36 = .ok (.dup, 1) := by decide +kernel
theorem dX4_trySend_37 : decode cX4_trySend 37 = .ok (.getfield 135, 3) := by decide +kernel
theorem dX4_trySend_40 : decode cX4_trySend 40 = .ok (.iconst 1, 1) := by decide +kernel
theorem dX4_trySend_41 : decode cX4_trySend 41 = .ok (.iadd, 1) := by decide +kernel
theorem dX4_trySend_42 : decode cX4_trySend 42 = .ok (.putfield 135, 3) := by decide +kernel
theorem dX4_trySend_45 : decode cX4_trySend 45 = .ok (.goto 21, 3) := by decide +kernel
theorem dX4_trySend_48 : decode cX4_trySend 48 = .ok (.aload 5, 2) := by decide +kernel
theorem dX4_trySend_50 : decode cX4_trySend 50 = .ok (.invokevirtual 61, 3) := by decide +kernel
theorem dX4_trySend_53 : decode cX4_trySend 53 = .ok (.ifCond .eq 5, 3) := by decide +kernel
theorem dX4_trySend_56 : decode cX4_trySend 56 = .ok (.iconst 0, 1) := by decide +kernel
theorem dX4_trySend_57 : decode cX4_trySend 57 = .ok (.ireturn, 1) := by decide +kernel
theorem dX4_trySend_58 : decode cX4_trySend 58 = .ok (.aload 5, 2) := by decide +kernel
theorem dX4_trySend_60 : decode cX4_trySend 60 = .ok (.iload_n 3, 1) := by decide +kernel
theorem dX4_trySend_61 : decode cX4_trySend 61 = .ok (.iload_n 1, 1) := by decide +kernel
theorem dX4_trySend_62 : decode cX4_trySend 62 = .ok (.invokevirtual 62, 3) := by decide +kernel
theorem dX4_trySend_65 : decode cX4_trySend 65 = .ok (.pop, 1) := by decide +kernel
theorem dX4_trySend_66 : decode cX4_trySend 66 = .ok (.aload 4, 2) := by decide +kernel
theorem dX4_trySend_68 : decode cX4_trySend 68 = .ok (.getfield 95, 3) := by decide +kernel
theorem dX4_trySend_71 : decode cX4_trySend 71 = .ok (.getfield 126, 3) := by decide +kernel
theorem dX4_trySend_74 : decode cX4_trySend 74 = .ok (.iload_n 2, 1) := by decide +kernel
theorem dX4_trySend_75 : decode cX4_trySend 75 = .ok (.dup2, 1) := by decide +kernel
theorem dX4_trySend_76 : decode cX4_trySend 76 = .ok (.iaload, 1) := by decide +kernel
theorem dX4_trySend_77 : decode cX4_trySend 77 = .ok (.iconst 1, 1) := by decide +kernel
theorem dX4_trySend_78 : decode cX4_trySend 78 = .ok (.iadd, 1) := by decide +kernel
theorem dX4_trySend_79 : decode cX4_trySend 79 = .ok (.iastore, 1) := by decide +kernel
theorem dX4_trySend_80 : decode cX4_trySend 80 = .ok (.iconst 1, 1) := by decide +kernel
theorem dX4_trySend_81 : decode cX4_trySend 81 = .ok (.ireturn, 1) := by decide +kernel
theorem dX4_tryReceive_0 : decode cX4_tryReceive 0 = .ok (.aload_n 0, 1) := by decide +kernel
theorem dX4_tryReceive_1 : decode cX4_tryReceive 1 = .ok (.getfield 11, 3) := by decide +kernel
theorem dX4_tryReceive_4 : decode cX4_tryReceive 4 = .ok (.iload_n 1, 1) := by decide +kernel
theorem dX4_tryReceive_5 : decode cX4_tryReceive 5 = .ok (.aaload, 1) := by decide +kernel
theorem dX4_tryReceive_6 : decode cX4_tryReceive 6 = .ok (.astore 4, 2) := by decide +kernel
theorem dX4_tryReceive_8 : decode cX4_tryReceive 8 = .ok (.aload 4, 2) := by decide +kernel
theorem dX4_tryReceive_10 : decode cX4_tryReceive 10 = .ok (.getfield 95, 3) := by decide +kernel
theorem dX4_tryReceive_13 : decode cX4_tryReceive 13 = .ok (.getfield 104, 3) := by decide +kernel
theorem dX4_tryReceive_16 : decode cX4_tryReceive 16 = .ok (.iconst 1, 1) := by decide +kernel
theorem dX4_tryReceive_17 : decode cX4_tryReceive 17 = .ok (.iadd, 1) := by decide +kernel
theorem dX4_tryReceive_18 : decode cX4_tryReceive 18 = .ok (.istore 5, 2) := by decide +kernel
theorem dX4_tryReceive_20 : decode cX4_tryReceive 20 = .ok (.aload 4, 2) := by decide +kernel
theorem dX4_tryReceive_22 : decode cX4_tryReceive 22 = .ok (.getfield 58, 3) := by decide +kernel
theorem dX4_tryReceive_25 : decode cX4_tryReceive 25 = .ok (.iload 5, 2) := by decide +kernel
theorem dX4_tryReceive_27 : decode cX4_tryReceive 27 = .ok (.invokevirtual 129, 3) := by decide +kernel
theorem dX4_tryReceive_30 : decode cX4_tryReceive 30 = .ok (.ifCond .ne 5, 3) := by decide +kernel
theorem dX4_tryReceive_33 : decode cX4_tryReceive 33 = .ok (.iconst 0, 1) := by decide +kernel
theorem dX4_tryReceive_34 : decode cX4_tryReceive 34 = .ok (.ireturn, 1) := by decide +kernel
theorem dX4_tryReceive_35 : decode cX4_tryReceive 35 = .ok (.aload 4, 2) := by decide +kernel
theorem dX4_tryReceive_37 : decode cX4_tryReceive 37 = .ok (.getfield 95, 3) := by decide +kernel
theorem dX4_tryReceive_40 : decode cX4_tryReceive 40 = .ok (.getfield 113, 3) := by decide +kernel
theorem dX4_tryReceive_43 : decode cX4_tryReceive 43 = .ok (.iload_n 3, 1) := by decide +kernel
theorem dX4_tryReceive_44 : decode cX4_tryReceive 44 = .ok (.aload 4, 2) := by decide +kernel
theorem dX4_tryReceive_46 : decode cX4_tryReceive 46 = .ok (.getfield 58, 3) := by decide +kernel
theorem dX4_tryReceive_49 : decode cX4_tryReceive 49 = .ok (.iload 5, 2) := by decide +kernel
theorem dX4_tryReceive_51 : decode cX4_tryReceive 51 = .ok (.invokevirtual 132, 3) := by decide +kernel
theorem dX4_tryReceive_54 : decode cX4_tryReceive 54 = .ok (.iastore, 1) := by decide +kernel
theorem dX4_tryReceive_55 : decode cX4_tryReceive 55 = .ok (.aload 4, 2) := by decide +kernel
theorem dX4_tryReceive_57 : decode cX4_tryReceive 57 = .ok (.getfield 95, 3) := by decide +kernel
theorem dX4_tryReceive_60 : decode cX4_tryReceive 60 = .ok (.getfield 113, 3) := by decide +kernel
theorem dX4_tryReceive_63 : decode cX4_tryReceive 63 = .ok (.iload_n 2, 1) := by decide +kernel
theorem dX4_tryReceive_64 : decode cX4_tryReceive 64 = .ok (.aload 4, 2) := by decide +kernel
theorem dX4_tryReceive_66 : decode cX4_tryReceive 66 = .ok (.getfield 58, 3) := by decide +kernel
theorem dX4_tryReceive_69 : decode cX4_tryReceive 69 = .ok (.iload 5, 2) := by decide +kernel
theorem dX4_tryReceive_71 : decode cX4_tryReceive 71 = .ok (.invokevirtual 81, 3) := by decide +kernel
theorem dX4_tryReceive_74 : decode cX4_tryReceive 74 = .ok (.iastore, 1) := by decide +kernel
theorem dX4_tryReceive_75 : decode cX4_tryReceive 75 = .ok (.aload 4, 2) := by decide +kernel
theorem dX4_tryReceive_77 : decode cX4_tryReceive 77 = .ok (.getfield 95, 3) := by decide +kernel
theorem dX4_tryReceive_80 : decode cX4_tryReceive 80 = .ok (.iload 5, 2) := by decide +kernel
theorem dX4_tryReceive_82 : decode cX4_tryReceive 82 = .ok (.putfield 104, 3) := by decide +kernel
theorem dX4_tryReceive_85 : decode cX4_tryReceive 85 = .ok (.iconst 1, 1) := by decide +kernel
theorem dX4_tryReceive_86 : decode cX4_tryReceive 86 = .ok (.ireturn, 1) := by decide +kernel
theorem dX4_tryPut_0 : decode cX4_tryPut 0 = .ok (.aload_n 0, 1) := by decide +kernel
theorem dX4_tryPut_1 : decode cX4_tryPut 1 = .ok (.getfield 11, 3) := by decide +kernel
theorem dX4_tryPut_4 : decode cX4_tryPut 4 = .ok (.iload_n 1, 1) := by decide +kernel
theorem dX4_tryPut_5 : decode cX4_tryPut 5 = .ok (.aaload, 1) := by decide +kernel
theorem dX4_tryPut_6 : decode cX4_tryPut 6 = .ok (.astore_n 3, 1) := by decide +kernel
theorem dX4_tryPut_7 : decode cX4_tryPut 7 = .ok (.aload_n 3, 1) := by decide +kernel
theorem dX4_tryPut_8 : decode cX4_tryPut 8 = .ok (.getfield 95, 3) := by decide +kernel
theorem dX4_tryPut_11 : decode cX4_tryPut 11 = .ok (.getfield 123, 3) := by decide +kernel
theorem dX4_tryPut_14 : decode cX4_tryPut 14 = .ok (.aload_n 3, 1) := by decide +kernel
theorem dX4_tryPut_15 : decode cX4_tryPut 15 = .ok (.getfield 168, 3) := by decide +kernel
theorem dX4_tryPut_18 : decode cX4_tryPut 18 = .ok (.if_icmp .ge 16, 3) := by decide +kernel
theorem dX4_tryPut_21 : decode cX4_tryPut 21 = .ok (.aload_n 3, 1) := by decide +kernel
theorem dX4_tryPut_22 : decode cX4_tryPut 22 = .ok (.dup, 1) := by decide +kernel
theorem dX4_tryPut_23 : decode cX4_tryPut 23 = .ok (.getfield 135, 3) := by decide +kernel
theorem dX4_tryPut_26 : decode cX4_tryPut 26 = .ok (.iconst 1, 1) := by decide +kernel
theorem dX4_tryPut_27 : decode cX4_tryPut 27 = .ok (.iadd, 1) := by decide +kernel
theorem dX4_tryPut_28 : decode cX4_tryPut 28 = .ok (.putfield 135, 3) := by decide +kernel
theorem dX4_tryPut_31 : decode cX4_tryPut 31 = .ok (.goto 35, 3) := by decide +kernel
theorem dX4_tryPut_34 : decode cX4_tryPut 34 = .ok (.aload_n 0, 1) := by decide +kernel
theorem dX4_tryPut_35 : decode cX4_tryPut 35 = .ok (.getfield 25, 3) := by decide +kernel
theorem dX4_tryPut_38 : decode cX4_tryPut 38 = .ok (.invokevirtual 61, 3) := by decide +kernel
theorem dX4_tryPut_41 : decode cX4_tryPut 41 = .ok (.ifCond .eq 5, 3) := by decide +kernel
theorem dX4_tryPut_44 : decode cX4_tryPut 44 = .ok (.iconst 0, 1) := by decide +kernel
theorem dX4_tryPut_45 : decode cX4_tryPut 45 = .ok (.ireturn, 1) := by decide +kernel
theorem dX4_tryPut_46 : decode cX4_tryPut 46 = .ok (.aload_n 0, 1) := by decide +kernel
theorem dX4_tryPut_47 : decode cX4_tryPut 47 = .ok (.getfield 25, 3) := by decide +kernel
theorem dX4_tryPut_50 : decode cX4_tryPut 50 = .ok (.iload_n 2, 1) := by decide +kernel
theorem dX4_tryPut_51 : decode cX4_tryPut 51 = .ok (.iload_n 1, 1) := by decide +kernel
theorem dX4_tryPut_52 : decode cX4_tryPut 52 = .ok (.invokevirtual 62, 3) := by decide +kernel
theorem dX4_tryPut_55 : decode cX4_tryPut 55 = .ok (.pop, 1) := by decide +kernel
theorem dX4_tryPut_56 : decode cX4_tryPut 56 = .ok (.aload_n 3, 1) := by decide +kernel
theorem dX4_tryPut_57 : decode cX4_tryPut 57 = .ok (.dup, 1) := by decide +kernel
theorem dX4_tryPut_58 : decode cX4_tryPut 58 = .ok (.getfield 168, 3) := by decide +kernel
theorem dX4_tryPut_61 : decode cX4_tryPut 61 = .ok (.iconst 1, 1) := by decide +kernel
theorem dX4_tryPut_62 : decode cX4_tryPut 62 = .ok (.iadd, 1) := by decide +kernel
theorem dX4_tryPut_63 : decode cX4_tryPut 63 = .ok (.putfield 168, 3) := by decide +kernel
theorem dX4_tryPut_66 : decode cX4_tryPut 66 = .ok (.aload_n 3, 1) := by decide +kernel
theorem dX4_tryPut_67 : decode cX4_tryPut 67 = .ok (.getfield 95, 3) := by decide +kernel
theorem dX4_tryPut_70 : decode cX4_tryPut 70 = .ok (.dup, 1) := by decide +kernel
theorem dX4_tryPut_71 : decode cX4_tryPut 71 = .ok (.getfield 123, 3) := by decide +kernel
theorem dX4_tryPut_74 : decode cX4_tryPut 74 = .ok (.iconst 1, 1) := by decide +kernel
theorem dX4_tryPut_75 : decode cX4_tryPut 75 = .ok (.iadd, 1) := by decide +kernel
theorem dX4_tryPut_76 : decode cX4_tryPut 76 = .ok (.putfield 123, 3) := by decide +kernel
theorem dX4_tryPut_79 : decode cX4_tryPut 79 = .ok (.iconst 1, 1) := by decide +kernel
theorem dX4_tryPut_80 : decode cX4_tryPut 80 = .ok (.ireturn, 1) := by decide +kernel
theorem dX4_run_0 : decode cX4_run 0 = .ok (.iload_n 1, 1) := by decide +kernel
theorem dX4_run_1 : decode cX4_run 1 = .ok (.invokestatic 29, 3) := by decide +kernel
theorem dX4_run_4 : decode cX4_run 4 = .ok (.ifCond .eq 14, 3) := by decide +kernel
theorem dX4_run_7 : decode cX4_run 7 = .ok (.iload_n 2, 1) := by decide +kernel
theorem dX4_run_8 : decode cX4_run 8 = .ok (.iconst 1, 1) := by decide +kernel
theorem dX4_run_9 : decode cX4_run 9 = .ok (.if_icmp .lt 9, 3) := by decide +kernel
theorem dX4_run_12 : decode cX4_run 12 = .ok (.iload_n 2, 1) := by decide +kernel
theorem dX4_run_13 : decode cX4_run 13 = .ok (.bipush 100, 2) := by decide +kernel
theorem dX4_run_15 : decode cX4_run 15 = .ok (.if_icmp .le 5, 3) := by decide +kernel
theorem dX4_run_18 : decode cX4_run 18 = .ok (.iconst (-1), 1) := by decide +kernel
theorem dX4_run_19 : decode cX4_run 19 = .ok (.ireturn, 1) := by decide +kernel
theorem dX4_run_20 : decode cX4_run 20 = .ok (.aload_n 0, 1) := by decide +kernel
theorem dX4_run_21 : decode cX4_run 21 = .ok (.getfield 11, 3) := by decide +kernel
theorem dX4_run_24 : decode cX4_run 24 = .ok (.iload_n 1, 1) := by decide +kernel
theorem dX4_run_25 : decode cX4_run 25 = .ok (.aaload, 1) := by decide +kernel
theorem dX4_run_26 : decode cX4_run 26 = .ok (.getfield 55, 3) := by decide +kernel
theorem dX4_run_29 : decode cX4_run 29 = .ok (.ifCond .ne 6, 3) := by decide +kernel
theorem dX4_run_32 : decode cX4_run 32 = .ok (.bipush (-2), 2) := by decide +kernel
theorem dX4_run_34 : decode cX4_run 34 = .ok (.ireturn, 1) := by decide +kernel
theorem dX4_run_35 : decode cX4_run 35 = .ok (.iconst 0, 1) := by decide +kernel
theorem dX4_run_36 : decode cX4_run 36 = .ok (.istore_n 3, 1) := by decide +kernel
theorem dX4_run_37 : decode cX4_run 37 = .ok (.iload_n 3, 1) := by decide +kernel
theorem dX4_run_38 : decode cX4_run 38 = .ok (.iload_n 2, 1) := by decide +kernel
theorem dX4_run_39 : decode cX4_run 39 = .ok (.if_icmp .ge 20, 3) := by decide +kernel
theorem dX4_run_42 : decode cX4_run 42 = .ok (.aload_n 0, 1) := by decide +kernel
theorem dX4_run_43 : decode cX4_run 43 = .ok (.iload_n 1, 1) := by decide +kernel
theorem dX4_run_44 : decode cX4_run 44 = .ok (.invokevirtual 88, 3) := by decide +kernel
theorem dX4_run_47 : decode cX4_run 47 = .ok (.iconst 1, 1) := by decide +kernel
theorem dX4_run_48 : decode cX4_run 48 = .ok (.if_icmp .eq 5, 3) := by decide +kernel
theorem dX4_run_51 : decode cX4_run 51 = .ok (.iload_n 3, 1) := by decide +kernel
theorem dX4_run_52 : decode cX4_run 52 = .ok (.ireturn, 1) := by decide +kernel
theorem dX4_run_53 : decode cX4_run 53 = .ok (.iinc 3 1, 3) := by decide +kernel
theorem dX4_run_56 : decode cX4_run 56 = .ok (.goto (-19), 3) := by decide +kernel
theorem dX4_run_59 : decode cX4_run 59 = .ok (.iload_n 2, 1) := by decide +kernel
theorem dX4_run_60 : decode cX4_run 60 = .ok (.ireturn, 1) := by decide +kernel
theorem dX4_checkpoint_0 : decode cX4_checkpoint 0 = .ok (.iload_n 1, 1) := by decide +kernel
theorem dX4_checkpoint_1 : decode cX4_checkpoint 1 = .ok (.invokestatic 29, 3) := by decide +kernel
theorem dX4_checkpoint_4 : decode cX4_checkpoint 4 = .ok (.ifCond .ne 5, 3) := by decide +kernel
theorem dX4_checkpoint_7 : decode cX4_checkpoint 7 = .ok (.iconst (-1), 1) := by decide +kernel
theorem dX4_checkpoint_8 : decode cX4_checkpoint 8 = .ok (.ireturn, 1) := by decide +kernel
theorem dX4_checkpoint_9 : decode cX4_checkpoint 9 = .ok (.aload_n 0, 1) := by decide +kernel
theorem dX4_checkpoint_10 : decode cX4_checkpoint 10 = .ok (.getfield 11, 3) := by decide +kernel
theorem dX4_checkpoint_13 : decode cX4_checkpoint 13 = .ok (.iload_n 1, 1) := by decide +kernel
theorem dX4_checkpoint_14 : decode cX4_checkpoint 14 = .ok (.aaload, 1) := by decide +kernel
theorem dX4_checkpoint_15 : decode cX4_checkpoint 15 = .ok (.astore_n 2, 1) := by decide +kernel
theorem dX4_checkpoint_16 : decode cX4_checkpoint 16 = .ok (.aload_n 2, 1) := by decide +kernel
theorem dX4_checkpoint_17 : decode cX4_checkpoint 17 = .ok (.getfield 55, 3) := by decide +kernel
theorem dX4_checkpoint_20 : decode cX4_checkpoint 20 = .ok (.ifCond .ne 6, 3) := by decide +kernel
theorem dX4_checkpoint_23 : decode cX4_checkpoint 23 = .ok (.bipush (-2), 2) := by decide +kernel
theorem dX4_checkpoint_25 : decode cX4_checkpoint 25 = .ok (.ireturn, 1) := by decide +kernel
theorem dX4_checkpoint_26 : decode cX4_checkpoint 26 = .ok (.aload_n 2, 1) := by decide +kernel
theorem dX4_checkpoint_27 : decode cX4_checkpoint 27 = .ok (.getfield 91, 3) := by decide +kernel
theorem dX4_checkpoint_30 : decode cX4_checkpoint 30 = .ok (.aload_n 2, 1) := by decide +kernel
theorem dX4_checkpoint_31 : decode cX4_checkpoint 31 = .ok (.getfield 95, 3) := by decide +kernel
theorem dX4_checkpoint_34 : decode cX4_checkpoint 34 = .ok (.invokevirtual 98, 3) := by decide +kernel
theorem dX4_checkpoint_37 : decode cX4_checkpoint 37 = .ok (.aload_n 2, 1) := by decide +kernel
theorem dX4_checkpoint_38 : decode cX4_checkpoint 38 = .ok (.getfield 58, 3) := by decide +kernel
theorem dX4_checkpoint_41 : decode cX4_checkpoint 41 = .ok (.aload_n 2, 1) := by decide +kernel
theorem dX4_checkpoint_42 : decode cX4_checkpoint 42 = .ok (.getfield 91, 3) := by decide +kernel
theorem dX4_checkpoint_45 : decode cX4_checkpoint 45 = .ok (.getfield 104, 3) := by decide +kernel
theorem dX4_checkpoint_48 : decode cX4_checkpoint 48 = .ok (.invokevirtual 85, 3) := by decide +kernel
theorem dX4_checkpoint_51 : decode cX4_checkpoint 51 = .ok (.ireturn, 1) := by decide +kernel
theorem dX4_crash_0 : decode cX4_crash 0 = .ok (.iload_n 1, 1) := by decide +kernel
theorem dX4_crash_1 : decode cX4_crash 1 = .ok (.invokestatic 29, 3) := by decide +kernel
theorem dX4_crash_4 : decode cX4_crash 4 = .ok (.ifCond .eq 15, 3) := by decide +kernel
theorem dX4_crash_7 : decode cX4_crash 7 = .ok (.aload_n 0, 1) := by decide +kernel
theorem dX4_crash_8 : decode cX4_crash 8 = .ok (.getfield 11, 3) := by decide +kernel
theorem dX4_crash_11 : decode cX4_crash 11 = .ok (.iload_n 1, 1) := by decide +kernel
theorem dX4_crash_12 : decode cX4_crash 12 = .ok (.aaload, 1) := by decide +kernel
theorem dX4_crash_13 : decode cX4_crash 13 = .ok (.getfield 55, 3) := by decide +kernel
theorem dX4_crash_16 : decode cX4_crash 16 = .ok (.ifCond .ne 5, 3) := by decide +kernel
theorem dX4_crash_19 : decode cX4_crash 19 = .ok (.iconst 0, 1) := by decide +kernel
theorem dX4_crash_20 : decode cX4_crash 20 = .ok (.ireturn, 1) := by decide +kernel
theorem dX4_crash_21 : decode cX4_crash 21 = .ok (.aload_n 0, 1) := by decide +kernel
theorem dX4_crash_22 : decode cX4_crash 22 = .ok (.getfield 11, 3) := by decide +kernel
theorem dX4_crash_25 : decode cX4_crash 25 = .ok (.iload_n 1, 1) := by decide +kernel
theorem dX4_crash_26 : decode cX4_crash 26 = .ok (.aaload, 1) := by decide +kernel
theorem dX4_crash_27 : decode cX4_crash 27 = .ok (.iconst 0, 1) := by decide +kernel
theorem dX4_crash_28 : decode cX4_crash 28 = .ok (.putfield 55, 3) := by decide +kernel
theorem dX4_crash_31 : decode cX4_crash 31 = .ok (.iconst 1, 1) := by decide +kernel
theorem dX4_crash_32 : decode cX4_crash 32 = .ok (.ireturn, 1) := by decide +kernel
theorem dX4_recover_0 : decode cX4_recover 0 = .ok (.iload_n 1, 1) := by decide +kernel
theorem dX4_recover_1 : decode cX4_recover 1 = .ok (.invokestatic 29, 3) := by decide +kernel
theorem dX4_recover_4 : decode cX4_recover 4 = .ok (.ifCond .ne 5, 3) := by decide +kernel
theorem dX4_recover_7 : decode cX4_recover 7 = .ok (.iconst (-1), 1) := by decide +kernel
theorem dX4_recover_8 : decode cX4_recover 8 = .ok (.ireturn, 1) := by decide +kernel
theorem dX4_recover_9 : decode cX4_recover 9 = .ok (.aload_n 0, 1) := by decide +kernel
theorem dX4_recover_10 : decode cX4_recover 10 = .ok (.getfield 11, 3) := by decide +kernel
theorem dX4_recover_13 : decode cX4_recover 13 = .ok (.iload_n 1, 1) := by decide +kernel
theorem dX4_recover_14 : decode cX4_recover 14 = .ok (.aaload, 1) := by decide +kernel
theorem dX4_recover_15 : decode cX4_recover 15 = .ok (.astore_n 2, 1) := by decide +kernel
theorem dX4_recover_16 : decode cX4_recover 16 = .ok (.aload_n 2, 1) := by decide +kernel
theorem dX4_recover_17 : decode cX4_recover 17 = .ok (.getfield 55, 3) := by decide +kernel
theorem dX4_recover_20 : decode cX4_recover 20 = .ok (.ifCond .eq 6, 3) := by decide +kernel
theorem dX4_recover_23 : decode cX4_recover 23 = .ok (.bipush (-3), 2) := by decide +kernel
theorem dX4_recover_25 : decode cX4_recover 25 = .ok (.ireturn, 1) := by decide +kernel
theorem dX4_recover_26 : decode cX4_recover 26 = .ok (.aload_n 2, 1) := by decide +kernel
theorem dX4_recover_27 : decode cX4_recover 27 = .ok (.getfield 95, 3) := by decide +kernel
theorem dX4_recover_30 : decode cX4_recover 30 = .ok (.aload_n 2, 1) := by decide +kernel
theorem dX4_recover_31 : decode cX4_recover 31 = .ok (.getfield 91, 3) := by decide +kernel
theorem dX4_recover_34 : decode cX4_recover 34 = .ok (.invokevirtual 98, 3) := by decide +kernel
theorem dX4_recover_37 : decode cX4_recover 37 = .ok (.aload_n 2, 1) := by decide +kernel
theorem dX4_recover_38 : decode cX4_recover 38 = .ok (.iconst 1, 1) := by decide +kernel
theorem dX4_recover_39 : decode cX4_recover 39 = .ok (.putfield 55, 3) := by decide +kernel
theorem dX4_recover_42 : decode cX4_recover 42 = .ok (.aload_n 2, 1) := by decide +kernel
theorem dX4_recover_43 : decode cX4_recover 43 = .ok (.getfield 58, 3) := by decide +kernel
theorem dX4_recover_46 : decode cX4_recover 46 = .ok (.getfield 107, 3) := by decide +kernel
theorem dX4_recover_49 : decode cX4_recover 49 = .ok (.aload_n 2, 1) := by decide +kernel
theorem dX4_recover_50 : decode cX4_recover 50 = .ok (.getfield 95, 3) := by decide +kernel
theorem dX4_recover_53 : decode cX4_recover 53 = .ok (.getfield 104, 3) := by decide +kernel
theorem dX4_recover_56 : decode cX4_recover 56 = .ok (.isub, 1) := by decide +kernel
theorem dX4_recover_57 : decode cX4_recover 57 = .ok (.ireturn, 1) := by decide +kernel
theorem dX4_register_0 : decode cX4_register 0 = .ok (.iload_n 1, 1) := by decide +kernel
theorem dX4_register_1 : decode cX4_register 1 = .ok (.invokestatic 29, 3) := by decide +kernel
theorem dX4_register_4 : decode cX4_register 4 = .ok (.ifCond .eq 22, 3) := by decide +kernel
theorem dX4_register_7 : decode cX4_register 7 = .ok (.iload_n 2, 1) := by decide +kernel
theorem dX4_register_8 : decode cX4_register 8 = .ok (.invokestatic 110, 3) := by decide +kernel
theorem dX4_register_11 : decode cX4_register 11 = .ok (.ifCond .eq 15, 3) := by decide +kernel
theorem dX4_register_14 : decode cX4_register 14 = .ok (.aload_n 0, 1) := by decide +kernel
theorem dX4_register_15 : decode cX4_register 15 = .ok (.getfield 11, 3) := by decide +kernel
theorem dX4_register_18 : decode cX4_register 18 = .ok (.iload_n 1, 1) := by decide +kernel
theorem dX4_register_19 : decode cX4_register 19 = .ok (.aaload, 1) := by decide +kernel
theorem dX4_register_20 : decode cX4_register 20 = .ok (.getfield 55, 3) := by decide +kernel
theorem dX4_register_23 : decode cX4_register 23 = .ok (.ifCond .ne 5, 3) := by decide +kernel
theorem dX4_register_26 : decode cX4_register 26 = .ok (.iconst 0, 1) := by decide +kernel
theorem dX4_register_27 : decode cX4_register 27 = .ok (.ireturn, 1) := by decide +kernel
theorem dX4_register_28 : decode cX4_register 28 = .ok (.aload_n 0, 1) := by decide +kernel
theorem dX4_register_29 : decode cX4_register 29 = .ok (.getfield 11, 3) := by decide +kernel
theorem dX4_register_32 : decode cX4_register 32 = .ok (.iload_n 1, 1) := by decide +kernel
theorem dX4_register_33 : decode cX4_register 33 = .ok (.aaload, 1) := by decide +kernel
theorem dX4_register_34 : decode cX4_register 34 = .ok (.getfield 95, 3) := by decide +kernel
theorem dX4_register_37 : decode cX4_register 37 = .ok (.getfield 113, 3) := by decide +kernel
theorem dX4_register_40 : decode cX4_register 40 = .ok (.iload_n 2, 1) := by decide +kernel
theorem dX4_register_41 : decode cX4_register 41 = .ok (.iaload, 1) := by decide +kernel
theorem dX4_register_42 : decode cX4_register 42 = .ok (.ireturn, 1) := by decide +kernel
theorem dX4_state_0 : decode cX4_state 0 = .ok (.iload_n 1, 1) := by decide +kernel
theorem dX4_state_1 : decode cX4_state 1 = .ok (.invokestatic 29, 3) := by decide +kernel
theorem dX4_state_4 : decode cX4_state 4 = .ok (.ifCond .eq 12, 3) := by decide +kernel
theorem dX4_state_7 : decode cX4_state 7 = .ok (.iload_n 2, 1) := by decide +kernel
theorem dX4_state_8 : decode cX4_state 8 = .ok (.ifCond .lt 8, 3) := by decide +kernel
theorem dX4_state_11 : decode cX4_state 11 = .ok (.iload_n 2, 1) := by decide +kernel
theorem dX4_state_12 : decode cX4_state 12 = .ok (.iconst 3, 1) := by decide +kernel
theorem dX4_state_13 : decode cX4_state 13 = .ok (.if_icmp .le 5, 3) := by decide +kernel
theorem dX4_state_16 : decode cX4_state 16 = .ok (.iconst (-1), 1) := by decide +kernel
theorem dX4_state_17 : decode cX4_state 17 = .ok (.ireturn, 1) := by decide +kernel
theorem dX4_state_18 : decode cX4_state 18 = .ok (.aload_n 0, 1) := by decide +kernel
theorem dX4_state_19 : decode cX4_state 19 = .ok (.getfield 11, 3) := by decide +kernel
theorem dX4_state_22 : decode cX4_state 22 = .ok (.iload_n 1, 1) := by decide +kernel
theorem dX4_state_23 : decode cX4_state 23 = .ok (.aaload, 1) := by decide +kernel
theorem dX4_state_24 : decode cX4_state 24 = .ok (.getfield 55, 3) := by decide +kernel
theorem dX4_state_27 : decode cX4_state 27 = .ok (.ifCond .ne 6, 3) := by decide +kernel
theorem dX4_state_30 : decode cX4_state 30 = .ok (.bipush (-2), 2) := by decide +kernel
theorem dX4_state_32 : decode cX4_state 32 = .ok (.ireturn, 1) := by decide +kernel
theorem dX4_state_33 : decode cX4_state 33 = .ok (.aload_n 0, 1) := by decide +kernel
theorem dX4_state_34 : decode cX4_state 34 = .ok (.getfield 11, 3) := by decide +kernel
theorem dX4_state_37 : decode cX4_state 37 = .ok (.iload_n 1, 1) := by decide +kernel
theorem dX4_state_38 : decode cX4_state 38 = .ok (.aaload, 1) := by decide +kernel
theorem dX4_state_39 : decode cX4_state 39 = .ok (.getfield 95, 3) := by decide +kernel
theorem dX4_state_42 : decode cX4_state 42 = .ok (.astore_n 3, 1) := by decide +kernel
theorem dX4_state_43 : decode cX4_state 43 = .ok (.iload_n 2, 1) := by decide +kernel
theorem dX4_state_44 : decode cX4_state 44 = .ok (.tableswitch 43 0 2 #[28, 33, 38], 28) := by decide +kernel
theorem dX4_state_72 : decode cX4_state 72 = .ok (.aload_n 3, 1) := by decide +kernel
theorem dX4_state_73 : decode cX4_state 73 = .ok (.getfield 117, 3) := by decide +kernel
theorem dX4_state_76 : decode cX4_state 76 = .ok (.ireturn, 1) := by decide +kernel
theorem dX4_state_77 : decode cX4_state 77 = .ok (.aload_n 3, 1) := by decide +kernel
theorem dX4_state_78 : decode cX4_state 78 = .ok (.getfield 120, 3) := by decide +kernel
theorem dX4_state_81 : decode cX4_state 81 = .ok (.ireturn, 1) := by decide +kernel
theorem dX4_state_82 : decode cX4_state 82 = .ok (.aload_n 3, 1) := by decide +kernel
theorem dX4_state_83 : decode cX4_state 83 = .ok (.getfield 104, 3) := by decide +kernel
theorem dX4_state_86 : decode cX4_state 86 = .ok (.ireturn, 1) := by decide +kernel
theorem dX4_state_87 : decode cX4_state 87 = .ok (.aload_n 3, 1) := by decide +kernel
theorem dX4_state_88 : decode cX4_state 88 = .ok (.getfield 123, 3) := by decide +kernel
theorem dX4_state_91 : decode cX4_state 91 = .ok (.ireturn, 1) := by decide +kernel
theorem dX4_sent_0 : decode cX4_sent 0 = .ok (.iload_n 1, 1) := by decide +kernel
theorem dX4_sent_1 : decode cX4_sent 1 = .ok (.iload_n 2, 1) := by decide +kernel
theorem dX4_sent_2 : decode cX4_sent 2 = .ok (.invokestatic 65, 3) := by decide +kernel
theorem dX4_sent_5 : decode cX4_sent 5 = .ok (.ifCond .ne 5, 3) := by decide +kernel
theorem dX4_sent_8 : decode cX4_sent 8 = .ok (.iconst (-1), 1) := by decide +kernel
theorem dX4_sent_9 : decode cX4_sent 9 = .ok (.ireturn, 1) := by decide +kernel
theorem dX4_sent_10 : decode cX4_sent 10 = .ok (.aload_n 0, 1) := by decide +kernel
theorem dX4_sent_11 : decode cX4_sent 11 = .ok (.getfield 11, 3) := by decide +kernel
theorem dX4_sent_14 : decode cX4_sent 14 = .ok (.iload_n 1, 1) := by decide +kernel
theorem dX4_sent_15 : decode cX4_sent 15 = .ok (.aaload, 1) := by decide +kernel
theorem dX4_sent_16 : decode cX4_sent 16 = .ok (.getfield 55, 3) := by decide +kernel
theorem dX4_sent_19 : decode cX4_sent 19 = .ok (.ifCond .ne 6, 3) := by decide +kernel
theorem dX4_sent_22 : decode cX4_sent 22 = .ok (.bipush (-2), 2) := by decide +kernel
theorem dX4_sent_24 : decode cX4_sent 24 = .ok (.ireturn, 1) := by decide +kernel
theorem dX4_sent_25 : decode cX4_sent 25 = .ok (.aload_n 0, 1) := by decide +kernel
theorem dX4_sent_26 : decode cX4_sent 26 = .ok (.getfield 11, 3) := by decide +kernel
theorem dX4_sent_29 : decode cX4_sent 29 = .ok (.iload_n 1, 1) := by decide +kernel
theorem dX4_sent_30 : decode cX4_sent 30 = .ok (.aaload, 1) := by decide +kernel
theorem dX4_sent_31 : decode cX4_sent 31 = .ok (.getfield 95, 3) := by decide +kernel
theorem dX4_sent_34 : decode cX4_sent 34 = .ok (.getfield 126, 3) := by decide +kernel
theorem dX4_sent_37 : decode cX4_sent 37 = .ok (.iload_n 2, 1) := by decide +kernel
theorem dX4_sent_38 : decode cX4_sent 38 = .ok (.iaload, 1) := by decide +kernel
theorem dX4_sent_39 : decode cX4_sent 39 = .ok (.ireturn, 1) := by decide +kernel
theorem dX4_kept_0 : decode cX4_kept 0 = .ok (.iload_n 1, 1) := by decide +kernel
theorem dX4_kept_1 : decode cX4_kept 1 = .ok (.invokestatic 29, 3) := by decide +kernel
theorem dX4_kept_4 : decode cX4_kept 4 = .ok (.ifCond .ne 5, 3) := by decide +kernel
theorem dX4_kept_7 : decode cX4_kept 7 = .ok (.iconst (-1), 1) := by decide +kernel
theorem dX4_kept_8 : decode cX4_kept 8 = .ok (.ireturn, 1) := by decide +kernel
theorem dX4_kept_9 : decode cX4_kept 9 = .ok (.aload_n 0, 1) := by decide +kernel
theorem dX4_kept_10 : decode cX4_kept 10 = .ok (.getfield 11, 3) := by decide +kernel
theorem dX4_kept_13 : decode cX4_kept 13 = .ok (.iload_n 1, 1) := by decide +kernel
theorem dX4_kept_14 : decode cX4_kept 14 = .ok (.aaload, 1) := by decide +kernel
theorem dX4_kept_15 : decode cX4_kept 15 = .ok (.getfield 58, 3) := by decide +kernel
theorem dX4_kept_18 : decode cX4_kept 18 = .ok (.invokevirtual 73, 3) := by decide +kernel
theorem dX4_kept_21 : decode cX4_kept 21 = .ok (.ireturn, 1) := by decide +kernel
theorem dX4_source_0 : decode cX4_source 0 = .ok (.iload_n 1, 1) := by decide +kernel
theorem dX4_source_1 : decode cX4_source 1 = .ok (.invokestatic 29, 3) := by decide +kernel
theorem dX4_source_4 : decode cX4_source 4 = .ok (.ifCond .ne 5, 3) := by decide +kernel
theorem dX4_source_7 : decode cX4_source 7 = .ok (.iconst (-1), 1) := by decide +kernel
theorem dX4_source_8 : decode cX4_source 8 = .ok (.ireturn, 1) := by decide +kernel
theorem dX4_source_9 : decode cX4_source 9 = .ok (.aload_n 0, 1) := by decide +kernel
theorem dX4_source_10 : decode cX4_source 10 = .ok (.getfield 11, 3) := by decide +kernel
theorem dX4_source_13 : decode cX4_source 13 = .ok (.iload_n 1, 1) := by decide +kernel
theorem dX4_source_14 : decode cX4_source 14 = .ok (.aaload, 1) := by decide +kernel
theorem dX4_source_15 : decode cX4_source 15 = .ok (.getfield 58, 3) := by decide +kernel
theorem dX4_source_18 : decode cX4_source 18 = .ok (.astore_n 3, 1) := by decide +kernel
theorem dX4_source_19 : decode cX4_source 19 = .ok (.aload_n 3, 1) := by decide +kernel
theorem dX4_source_20 : decode cX4_source 20 = .ok (.iload_n 2, 1) := by decide +kernel
theorem dX4_source_21 : decode cX4_source 21 = .ok (.invokevirtual 129, 3) := by decide +kernel
theorem dX4_source_24 : decode cX4_source 24 = .ok (.ifCond .ne 6, 3) := by decide +kernel
theorem dX4_source_27 : decode cX4_source 27 = .ok (.bipush (-3), 2) := by decide +kernel
theorem dX4_source_29 : decode cX4_source 29 = .ok (.ireturn, 1) := by decide +kernel
theorem dX4_source_30 : decode cX4_source 30 = .ok (.aload_n 3, 1) := by decide +kernel
theorem dX4_source_31 : decode cX4_source 31 = .ok (.iload_n 2, 1) := by decide +kernel
theorem dX4_source_32 : decode cX4_source 32 = .ok (.invokevirtual 132, 3) := by decide +kernel
theorem dX4_source_35 : decode cX4_source 35 = .ok (.ireturn, 1) := by decide +kernel
theorem dX4_waiting_0 : decode cX4_waiting 0 = .ok (.iload_n 1, 1) := by decide +kernel
theorem dX4_waiting_1 : decode cX4_waiting 1 = .ok (.iload_n 2, 1) := by decide +kernel
theorem dX4_waiting_2 : decode cX4_waiting 2 = .ok (.invokestatic 65, 3) := by decide +kernel
theorem dX4_waiting_5 : decode cX4_waiting 5 = .ok (.ifCond .ne 5, 3) := by decide +kernel
theorem dX4_waiting_8 : decode cX4_waiting 8 = .ok (.iconst (-1), 1) := by decide +kernel
theorem dX4_waiting_9 : decode cX4_waiting 9 = .ok (.ireturn, 1) := by decide +kernel
theorem dX4_waiting_10 : decode cX4_waiting 10 = .ok (.aload_n 0, 1) := by decide +kernel
theorem dX4_waiting_11 : decode cX4_waiting 11 = .ok (.iload_n 1, 1) := by decide +kernel
theorem dX4_waiting_12 : decode cX4_waiting 12 = .ok (.iload_n 2, 1) := by decide +kernel
theorem dX4_waiting_13 : decode cX4_waiting 13 = .ok (.invokevirtual 69, 3) := by decide +kernel
theorem dX4_waiting_16 : decode cX4_waiting 16 = .ok (.invokevirtual 73, 3) := by decide +kernel
theorem dX4_waiting_19 : decode cX4_waiting 19 = .ok (.ireturn, 1) := by decide +kernel
theorem dX4_held_0 : decode cX4_held 0 = .ok (.iload_n 1, 1) := by decide +kernel
theorem dX4_held_1 : decode cX4_held 1 = .ok (.invokestatic 29, 3) := by decide +kernel
theorem dX4_held_4 : decode cX4_held 4 = .ok (.ifCond .ne 5, 3) := by decide +kernel
theorem dX4_held_7 : decode cX4_held 7 = .ok (.iconst (-1), 1) := by decide +kernel
theorem dX4_held_8 : decode cX4_held 8 = .ok (.ireturn, 1) := by decide +kernel
theorem dX4_held_9 : decode cX4_held 9 = .ok (.aload_n 0, 1) := by decide +kernel
theorem dX4_held_10 : decode cX4_held 10 = .ok (.getfield 11, 3) := by decide +kernel
theorem dX4_held_13 : decode cX4_held 13 = .ok (.iload_n 1, 1) := by decide +kernel
theorem dX4_held_14 : decode cX4_held 14 = .ok (.aaload, 1) := by decide +kernel
theorem dX4_held_15 : decode cX4_held 15 = .ok (.getfield 135, 3) := by decide +kernel
theorem dX4_held_18 : decode cX4_held 18 = .ok (.ireturn, 1) := by decide +kernel
theorem dX4_outputs_0 : decode cX4_outputs 0 = .ok (.aload_n 0, 1) := by decide +kernel
theorem dX4_outputs_1 : decode cX4_outputs 1 = .ok (.getfield 25, 3) := by decide +kernel
theorem dX4_outputs_4 : decode cX4_outputs 4 = .ok (.invokevirtual 73, 3) := by decide +kernel
theorem dX4_outputs_7 : decode cX4_outputs 7 = .ok (.ireturn, 1) := by decide +kernel
theorem dX4_author_0 : decode cX4_author 0 = .ok (.iload_n 1, 1) := by decide +kernel
theorem dX4_author_1 : decode cX4_author 1 = .ok (.invokestatic 138, 3) := by decide +kernel
theorem dX4_author_4 : decode cX4_author 4 = .ok (.istore_n 2, 1) := by decide +kernel
theorem dX4_author_5 : decode cX4_author 5 = .ok (.aload_n 0, 1) := by decide +kernel
theorem dX4_author_6 : decode cX4_author 6 = .ok (.getfield 25, 3) := by decide +kernel
theorem dX4_author_9 : decode cX4_author 9 = .ok (.iload_n 2, 1) := by decide +kernel
theorem dX4_author_10 : decode cX4_author 10 = .ok (.invokevirtual 129, 3) := by decide +kernel
theorem dX4_author_13 : decode cX4_author 13 = .ok (.ifCond .ne 5, 3) := by decide +kernel
theorem dX4_author_16 : decode cX4_author 16 = .ok (.iconst (-1), 1) := by decide +kernel
theorem dX4_author_17 : decode cX4_author 17 = .ok (.ireturn, 1) := by decide +kernel
theorem dX4_author_18 : decode cX4_author 18 = .ok (.aload_n 0, 1) := by decide +kernel
theorem dX4_author_19 : decode cX4_author 19 = .ok (.getfield 25, 3) := by decide +kernel
theorem dX4_author_22 : decode cX4_author 22 = .ok (.iload_n 2, 1) := by decide +kernel
theorem dX4_author_23 : decode cX4_author 23 = .ok (.invokevirtual 132, 3) := by decide +kernel
theorem dX4_author_26 : decode cX4_author 26 = .ok (.ireturn, 1) := by decide +kernel
theorem dX4_outputNumber_0 : decode cX4_outputNumber 0 = .ok (.iload_n 0, 1) := by decide +kernel
theorem dX4_outputNumber_1 : decode cX4_outputNumber 1 = .ok (.iconst 1, 1) := by decide +kernel
theorem dX4_outputNumber_2 : decode cX4_outputNumber 2 = .ok (.iadd, 1) := by decide +kernel
theorem dX4_outputNumber_3 : decode cX4_outputNumber 3 = .ok (.ireturn, 1) := by decide +kernel
theorem dX4_output_0 : decode cX4_output 0 = .ok (.iload_n 1, 1) := by decide +kernel
theorem dX4_output_1 : decode cX4_output 1 = .ok (.invokestatic 138, 3) := by decide +kernel
theorem dX4_output_4 : decode cX4_output 4 = .ok (.istore_n 2, 1) := by decide +kernel
theorem dX4_output_5 : decode cX4_output 5 = .ok (.aload_n 0, 1) := by decide +kernel
theorem dX4_output_6 : decode cX4_output 6 = .ok (.getfield 25, 3) := by decide +kernel
theorem dX4_output_9 : decode cX4_output 9 = .ok (.iload_n 2, 1) := by decide +kernel
theorem dX4_output_10 : decode cX4_output 10 = .ok (.invokevirtual 129, 3) := by decide +kernel
theorem dX4_output_13 : decode cX4_output 13 = .ok (.ifCond .ne 5, 3) := by decide +kernel
theorem dX4_output_16 : decode cX4_output 16 = .ok (.iconst 0, 1) := by decide +kernel
theorem dX4_output_17 : decode cX4_output 17 = .ok (.ireturn, 1) := by decide +kernel
theorem dX4_output_18 : decode cX4_output 18 = .ok (.aload_n 0, 1) := by decide +kernel
theorem dX4_output_19 : decode cX4_output 19 = .ok (.getfield 25, 3) := by decide +kernel
theorem dX4_output_22 : decode cX4_output 22 = .ok (.iload_n 2, 1) := by decide +kernel
theorem dX4_output_23 : decode cX4_output 23 = .ok (.invokevirtual 81, 3) := by decide +kernel
theorem dX4_output_26 : decode cX4_output 26 = .ok (.ireturn, 1) := by decide +kernel
end
section
theorem dX5_init_0 : decode cX5_init 0 = .ok (.aload_n 0, 1) := by decide +kernel
theorem dX5_init_1 : decode cX5_init 1 = .ok (.invokespecial 1, 3) := by decide +kernel
theorem dX5_init_4 : decode cX5_init 4 = .ok (.aload_n 0, 1) := by decide +kernel
theorem dX5_init_5 : decode cX5_init 5 = .ok (.iconst 3, 1) := by decide +kernel
theorem dX5_init_6 : decode cX5_init 6 = .ok (.newarray .int, 2) := by decide +kernel
theorem dX5_init_8 : decode cX5_init 8 = .ok (.putfield 7, 3) := by decide +kernel
theorem dX5_init_11 : decode cX5_init 11 = .ok (.aload_n 0, 1) := by decide +kernel
theorem dX5_init_12 : decode cX5_init 12 = .ok (.bipush 48, 2) := by decide +kernel
theorem dX5_init_14 : decode cX5_init 14 = .ok (.newarray .int, 2) := by decide +kernel
theorem dX5_init_16 : decode cX5_init 16 = .ok (.putfield 13, 3) := by decide +kernel
theorem dX5_init_19 : decode cX5_init 19 = .ok (.aload_n 0, 1) := by decide +kernel
theorem dX5_init_20 : decode cX5_init 20 = .ok (.bipush 48, 2) := by decide +kernel
theorem dX5_init_22 : decode cX5_init 22 = .ok (.newarray .int, 2) := by decide +kernel
theorem dX5_init_24 : decode cX5_init 24 = .ok (.putfield 16, 3) := by decide +kernel
theorem dX5_init_27 : decode cX5_init 27 = .ok (.aload_n 0, 1) := by decide +kernel
theorem dX5_init_28 : decode cX5_init 28 = .ok (.bipush 48, 2) := by decide +kernel
theorem dX5_init_30 : decode cX5_init 30 = .ok (.newarray .int, 2) := by decide +kernel
theorem dX5_init_32 : decode cX5_init 32 = .ok (.putfield 19, 3) := by decide +kernel
theorem dX5_init_35 : decode cX5_init 35 = .ok (.aload_n 0, 1) := by decide +kernel
theorem dX5_init_36 : decode cX5_init 36 = .ok (.iconst 3, 1) := by decide +kernel
theorem dX5_init_37 : decode cX5_init 37 = .ok (.newarray .boolean, 2) := by decide +kernel
theorem dX5_init_39 : decode cX5_init 39 = .ok (.putfield 22, 3) := by decide +kernel
theorem dX5_init_42 : decode cX5_init 42 = .ok (.aload_n 0, 1) := by decide +kernel
theorem dX5_init_43 : decode cX5_init 43 = .ok (.iconst 3, 1) := by decide +kernel
theorem dX5_init_44 : decode cX5_init 44 = .ok (.newarray .int, 2) := by decide +kernel
theorem dX5_init_46 : decode cX5_init 46 = .ok (.putfield 26, 3) := by decide +kernel
theorem dX5_init_49 : decode cX5_init 49 = .ok (.aload_n 0, 1) := by decide +kernel
theorem dX5_init_50 : decode cX5_init 50 = .ok (.iconst 3, 1) := by decide +kernel
theorem dX5_init_51 : decode cX5_init 51 = .ok (.newarray .int, 2) := by decide +kernel
theorem dX5_init_53 : decode cX5_init 53 = .ok (.putfield 29, 3) := by decide +kernel
theorem dX5_init_56 : decode cX5_init 56 = .ok (.aload_n 0, 1) := by decide +kernel
theorem dX5_init_57 : decode cX5_init 57 = .ok (.iconst 3, 1) := by decide +kernel
theorem dX5_init_58 : decode cX5_init 58 = .ok (.newarray .int, 2) := by decide +kernel
theorem dX5_init_60 : decode cX5_init 60 = .ok (.putfield 32, 3) := by decide +kernel
theorem dX5_init_63 : decode cX5_init 63 = .ok (.aload_n 0, 1) := by decide +kernel
theorem dX5_init_64 : decode cX5_init 64 = .ok (.iconst 3, 1) := by decide +kernel
theorem dX5_init_65 : decode cX5_init 65 = .ok (.newarray .boolean, 2) := by decide +kernel
theorem dX5_init_67 : decode cX5_init 67 = .ok (.putfield 35, 3) := by decide +kernel
theorem dX5_init_70 : decode cX5_init 70 = .ok (.aload_n 0, 1) := by decide +kernel
theorem dX5_init_71 : decode cX5_init 71 = .ok (.iconst 3, 1) := by decide +kernel
theorem dX5_init_72 : decode cX5_init 72 = .ok (.newarray .int, 2) := by decide +kernel
theorem dX5_init_74 : decode cX5_init 74 = .ok (.putfield 38, 3) := by decide +kernel
theorem dX5_init_77 : decode cX5_init 77 = .ok (.aload_n 0, 1) := by decide +kernel
theorem dX5_init_78 : decode cX5_init 78 = .ok (.iconst 3, 1) := by decide +kernel
theorem dX5_init_79 : decode cX5_init 79 = .ok (.newarray .int, 2) := by decide +kernel
theorem dX5_init_81 : decode cX5_init 81 = .ok (.putfield 41, 3) := by decide +kernel
theorem dX5_init_84 : decode cX5_init 84 = .ok (.aload_n 0, 1) := by decide +kernel
theorem dX5_init_85 : decode cX5_init 85 = .ok (.sipush 1536, 3) := by decide +kernel
theorem dX5_init_88 : decode cX5_init 88 = .ok (.newarray .int, 2) := by decide +kernel
theorem dX5_init_90 : decode cX5_init 90 = .ok (.putfield 44, 3) := by decide +kernel
theorem dX5_init_93 : decode cX5_init 93 = .ok (.aload_n 0, 1) := by decide +kernel
theorem dX5_init_94 : decode cX5_init 94 = .ok (.sipush 1536, 3) := by decide +kernel
theorem dX5_init_97 : decode cX5_init 97 = .ok (.newarray .int, 2) := by decide +kernel
theorem dX5_init_99 : decode cX5_init 99 = .ok (.putfield 47, 3) := by decide +kernel
theorem dX5_init_102 : decode cX5_init 102 = .ok (.aload_n 0, 1) := by decide +kernel
theorem dX5_init_103 : decode cX5_init 103 = .ok (.bipush 9, 2) := by decide +kernel
theorem dX5_init_105 : decode cX5_init 105 = .ok (.newarray .int, 2) := by decide +kernel
theorem dX5_init_107 : decode cX5_init 107 = .ok (.putfield 50, 3) := by decide +kernel
theorem dX5_init_110 : decode cX5_init 110 = .ok (.aload_n 0, 1) := by decide +kernel
theorem dX5_init_111 : decode cX5_init 111 = .ok (.bipush 9, 2) := by decide +kernel
theorem dX5_init_113 : decode cX5_init 113 = .ok (.newarray .int, 2) := by decide +kernel
theorem dX5_init_115 : decode cX5_init 115 = .ok (.putfield 53, 3) := by decide +kernel
theorem dX5_init_118 : decode cX5_init 118 = .ok (.aload_n 0, 1) := by decide +kernel
theorem dX5_init_119 : decode cX5_init 119 = .ok (.bipush 72, 2) := by decide +kernel
theorem dX5_init_121 : decode cX5_init 121 = .ok (.newarray .int, 2) := by decide +kernel
theorem dX5_init_123 : decode cX5_init 123 = .ok (.putfield 56, 3) := by decide +kernel
theorem dX5_init_126 : decode cX5_init 126 = .ok (.aload_n 0, 1) := by decide +kernel
theorem dX5_init_127 : decode cX5_init 127 = .ok (.bipush 60, 2) := by decide +kernel
theorem dX5_init_129 : decode cX5_init 129 = .ok (.newarray .int, 2) := by decide +kernel
theorem dX5_init_131 : decode cX5_init 131 = .ok (.putfield 59, 3) := by decide +kernel
theorem dX5_init_134 : decode cX5_init 134 = .ok (.aload_n 0, 1) := by decide +kernel
theorem dX5_init_135 : decode cX5_init 135 = .ok (.bipush 60, 2) := by decide +kernel
theorem dX5_init_137 : decode cX5_init 137 = .ok (.newarray .int, 2) := by decide +kernel
theorem dX5_init_139 : decode cX5_init 139 = .ok (.putfield 62, 3) := by decide +kernel
theorem dX5_init_142 : decode cX5_init 142 = .ok (.aload_n 0, 1) := by decide +kernel
theorem dX5_init_143 : decode cX5_init 143 = .ok (.iconst 3, 1) := by decide +kernel
theorem dX5_init_144 : decode cX5_init 144 = .ok (.newarray .int, 2) := by decide +kernel
theorem dX5_init_146 : decode cX5_init 146 = .ok (.putfield 65, 3) := by decide +kernel
theorem dX5_init_149 : decode cX5_init 149 = .ok (.aload_n 0, 1) := by decide +kernel
theorem dX5_init_150 : decode cX5_init 150 = .ok (.iconst 4, 1) := by decide +kernel
theorem dX5_init_151 : decode cX5_init 151 = .ok (.newarray .int, 2) := by decide +kernel
theorem dX5_init_153 : decode cX5_init 153 = .ok (.putfield 68, 3) := by decide +kernel
theorem dX5_init_156 : decode cX5_init 156 = .ok (.aload_n 0, 1) := by decide +kernel
theorem dX5_init_157 : decode cX5_init 157 = .ok (.iconst 3, 1) := by decide +kernel
theorem dX5_init_158 : decode cX5_init 158 = .ok (.newarray .int, 2) := by decide +kernel
theorem dX5_init_160 : decode cX5_init 160 = .ok (.putfield 71, 3) := by decide +kernel
theorem dX5_init_163 : decode cX5_init 163 = .ok (.return_, 1) := by decide +kernel
theorem dX5_code_0 : decode cX5_code 0 = .ok (.iload_n 1, 1) := by decide +kernel
theorem dX5_code_1 : decode cX5_code 1 = .ok (.invokestatic 74, 3) := by decide +kernel
theorem dX5_code_4 : decode cX5_code 4 = .ok (.ifCond .eq 33, 3) := by decide +kernel
theorem dX5_code_7 : decode cX5_code 7 = .ok (.aload_n 0, 1) := by decide +kernel
theorem dX5_code_8 : decode cX5_code 8 = .ok (.getfield 35, 3) := by decide +kernel
theorem dX5_code_11 : decode cX5_code 11 = .ok (.iload_n 1, 1) := by decide +kernel
theorem dX5_code_12 : decode cX5_code 12 = .ok (.baload, 1) := by decide +kernel
theorem dX5_code_13 : decode cX5_code 13 = .ok (.ifCond .ne 24, 3) := by decide +kernel
theorem dX5_code_16 : decode cX5_code 16 = .ok (.aload_n 0, 1) := by decide +kernel
theorem dX5_code_17 : decode cX5_code 17 = .ok (.getfield 7, 3) := by decide +kernel
theorem dX5_code_20 : decode cX5_code 20 = .ok (.iload_n 1, 1) := by decide +kernel
theorem dX5_code_21 : decode cX5_code 21 = .ok (.iaload, 1) := by decide +kernel
theorem dX5_code_22 : decode cX5_code 22 = .ok (.bipush 16, 2) := by decide +kernel
theorem dX5_code_24 : decode cX5_code 24 = .ok (.if_icmp .eq 13, 3) := by decide +kernel
theorem dX5_code_27 : decode cX5_code 27 = .ok (.iload_n 2, 1) := by decide +kernel
theorem dX5_code_28 : decode cX5_code 28 = .ok (.ifCond .lt 9, 3) := by decide +kernel
theorem dX5_code_31 : decode cX5_code 31 = .ok (.iload_n 2, 1) := by decide +kernel
theorem dX5_code_32 : decode cX5_code 32 = .ok (.bipush 7, 2) := by decide +kernel
theorem dX5_code_34 : decode cX5_code 34 = .ok (.if_icmp .le 5, 3) := by decide +kernel
theorem dX5_code_37 : decode cX5_code 37 = .ok (.iconst 0, 1) := by decide +kernel
theorem dX5_code_38 : decode cX5_code 38 = .ok (.ireturn, 1) := by decide +kernel
theorem dX5_code_39 : decode cX5_code 39 = .ok (.iload_n 2, 1) := by decide +kernel
theorem dX5_code_40 : decode cX5_code 40 = .ok (.iconst 4, 1) := by decide +kernel
theorem dX5_code_41 : decode cX5_code 41 = .ok (.if_icmp .ne 21, 3) := by decide +kernel
theorem dX5_code_44 : decode cX5_code 44 = .ok (.iload_n 3, 1) := by decide +kernel
theorem dX5_code_45 : decode cX5_code 45 = .ok (.ifCond .lt 13, 3) := by decide +kernel
theorem dX5_code_48 : decode cX5_code 48 = .ok (.iload_n 3, 1) := by decide +kernel
theorem dX5_code_49 : decode cX5_code 49 = .ok (.bipush 15, 2) := by decide +kernel
theorem dX5_code_51 : decode cX5_code 51 = .ok (.if_icmp .gt 7, 3) := by decide +kernel
theorem dX5_code_54 : decode cX5_code 54 = .ok (.iconst 1, 1) := by decide +kernel
theorem dX5_code_55 : decode cX5_code 55 = .ok (.goto 24, 3) := by decide +kernel
theorem dX5_code_58 : decode cX5_code 58 = .ok (.iconst 0, 1) := by decide +kernel
theorem dX5_code_59 : decode cX5_code 59 = .ok (.goto 20, 3) := by decide +kernel
theorem dX5_code_62 : decode cX5_code 62 = .ok (.iload_n 2, 1) := by decide +kernel
theorem dX5_code_63 : decode cX5_code 63 = .ok (.iconst 5, 1) := by decide +kernel
theorem dX5_code_64 : decode cX5_code 64 = .ok (.if_icmp .ne 11, 3) := by decide +kernel
theorem dX5_code_67 : decode cX5_code 67 = .ok (.iload_n 1, 1) := by decide +kernel
theorem dX5_code_68 : decode cX5_code 68 = .ok (.iload_n 3, 1) := by decide +kernel
theorem dX5_code_69 : decode cX5_code 69 = .ok (.invokestatic 78, 3) := by decide +kernel
theorem dX5_code_72 : decode cX5_code 72 = .ok (.goto 7, 3) := by decide +kernel
theorem dX5_code_75 : decode cX5_code 75 = .ok (.iload_n 3, 1) := by decide +kernel
theorem dX5_code_76 : decode cX5_code 76 = .ok (.invokestatic 82, 3) := by decide +kernel
theorem dX5_code_79 : decode cX5_code 79 = .ok (.istore 5, 2) := by decide +kernel
theorem dX5_code_81 : decode cX5_code 81 = .ok (.iload 5, 2) := by decide +kernel
theorem dX5_code_83 : decode cX5_code 83 = .ok (.ifCond .eq 18, 3) := by decide +kernel
theorem dX5_code_86 : decode cX5_code 86 = .ok (.iload_n 2, 1) := by decide +kernel
theorem dX5_code_87 : decode cX5_code 87 = .ok (.invokestatic 85, 3) := by decide +kernel
theorem dX5_code_90 : decode cX5_code 90 = .ok (.ifCond .eq 13, 3) := by decide +kernel
theorem dX5_code_93 : decode cX5_code 93 = .ok (.iload 4, 2) := by decide +kernel
theorem dX5_code_95 : decode cX5_code 95 = .ok (.invokestatic 82, 3) := by decide +kernel
theorem dX5_code_98 : decode cX5_code 98 = .ok (.ifCond .ne 5, 3) := by decide +kernel
theorem dX5_code_101 : decode cX5_code 101 = .ok (.iconst 0, 1) := by decide +kernel
theorem dX5_code_102 : decode cX5_code 102 = .ok (.ireturn, 1) := by decide +kernel
theorem dX5_code_103 : decode cX5_code 103 = .ok (.bipush 16, 2) := by decide +kernel
theorem dX5_code_105 : decode cX5_code 105 = .ok (.iload_n 1, 1) := by decide +kernel
theorem dX5_code_106 : decode cX5_code 106 = .ok (.imul, 1) := by decide +kernel
theorem dX5_code_107 : decode cX5_code 107 = .ok (.aload_n 0, 1) := by decide +kernel
theorem dX5_code_108 : decode cX5_code 108 = .ok (.getfield 7, 3) := by decide +kernel
theorem dX5_code_111 : decode cX5_code 111 = .ok (.iload_n 1, 1) := by decide +kernel
theorem dX5_code_112 : decode cX5_code 112 = .ok (.iaload, 1) := by decide +kernel
theorem dX5_code_113 : decode cX5_code 113 = .ok (.iadd, 1) := by decide +kernel
theorem dX5_code_114 : decode cX5_code 114 = .ok (.istore 6, 2) := by decide +kernel
theorem dX5_code_116 : decode cX5_code 116 = .ok (.aload_n 0, 1) := by decide +kernel
theorem dX5_code_117 : decode cX5_code 117 = .ok (.getfield 13, 3) := by decide +kernel
theorem dX5_code_120 : decode cX5_code 120 = .ok (.iload 6, 2) := by decide +kernel
theorem dX5_code_122 : decode cX5_code 122 = .ok (.iload_n 2, 1) := by decide +kernel
theorem dX5_code_123 : decode cX5_code 123 = .ok (.iastore, 1) := by decide +kernel
theorem dX5_code_124 : decode cX5_code 124 = .ok (.aload_n 0, 1) := by decide +kernel
theorem dX5_code_125 : decode cX5_code 125 = .ok (.getfield 16, 3) := by decide +kernel
theorem dX5_code_128 : decode cX5_code 128 = .ok (.iload 6, 2) := by decide +kernel
theorem dX5_code_130 : decode cX5_code 130 = .ok (.iload_n 3, 1) := by decide +kernel
theorem dX5_code_131 : decode cX5_code 131 = .ok (.iastore, 1) := by decide +kernel
theorem dX5_code_132 : decode cX5_code 132 = .ok (.aload_n 0, 1) := by decide +kernel
theorem dX5_code_133 : decode cX5_code 133 = .ok (.getfield 19, 3) := by decide +kernel
theorem dX5_code_136 : decode cX5_code 136 = .ok (.iload 6, 2) := by decide +kernel
theorem dX5_code_138 : decode cX5_code 138 = .ok (.iload 4, 2) := by decide +kernel
theorem dX5_code_140 : decode cX5_code 140 = .ok (.iastore, 1) := by decide +kernel
theorem dX5_code_141 : decode cX5_code 141 = .ok (.aload_n 0, 1) := by decide +kernel
theorem dX5_code_142 : decode cX5_code 142 = .ok (.getfield 7, 3) := by decide +kernel
theorem dX5_code_145 : decode cX5_code 145 = .ok (.iload_n 1, 1) := by decide +kernel
theorem dX5_code_146 : decode cX5_code 146 = .ok (.dup2, 1) := by decide +kernel
theorem dX5_code_147 : decode cX5_code 147 = .ok (.iaload, 1) := by decide +kernel
theorem dX5_code_148 : decode cX5_code 148 = .ok (.iconst 1, 1) := by decide +kernel
theorem dX5_code_149 : decode cX5_code 149 = .ok (.iadd, 1) := by decide +kernel
theorem dX5_code_150 : decode cX5_code 150 = .ok (.iastore, 1) := by decide +kernel
theorem dX5_code_151 : decode cX5_code 151 = .ok (.iconst 1, 1) := by decide +kernel
theorem dX5_code_152 : decode cX5_code 152 = .ok (.ireturn, 1) := by decide +kernel
theorem dX5_isProcess_0 : decode cX5_isProcess 0 = .ok (.iload_n 0, 1) := by decide +kernel
theorem dX5_isProcess_1 : decode cX5_isProcess 1 = .ok (.ifCond .lt 12, 3) := by decide +kernel
theorem dX5_isProcess_4 : decode cX5_isProcess 4 = .ok (.iload_n 0, 1) := by decide +kernel
theorem dX5_isProcess_5 : decode cX5_isProcess 5 = .ok (.iconst 3, 1) := by decide +kernel
theorem dX5_isProcess_6 : decode cX5_isProcess 6 = .ok (.if_icmp .ge 7, 3) := by decide +kernel
theorem dX5_isProcess_9 : decode cX5_isProcess 9 = .ok (.iconst 1, 1) := by decide +kernel
theorem dX5_isProcess_10 : decode cX5_isProcess 10 = .ok (.goto 4, 3) := by decide +kernel
theorem dX5_isProcess_13 : decode cX5_isProcess 13 = .ok (.iconst 0, 1) := by decide +kernel
theorem dX5_isProcess_14 : decode cX5_isProcess 14 = .ok (.ireturn, 1) := by decide +kernel
theorem dX5_isChannel_0 : decode cX5_isChannel 0 = .ok (.iload_n 0, 1) := by decide +kernel
theorem dX5_isChannel_1 : decode cX5_isChannel 1 = .ok (.invokestatic 74, 3) := by decide +kernel
theorem dX5_isChannel_4 : decode cX5_isChannel 4 = .ok (.ifCond .eq 19, 3) := by decide +kernel
theorem dX5_isChannel_7 : decode cX5_isChannel 7 = .ok (.iload_n 1, 1) := by decide +kernel
theorem dX5_isChannel_8 : decode cX5_isChannel 8 = .ok (.invokestatic 74, 3) := by decide +kernel
theorem dX5_isChannel_11 : decode cX5_isChannel 11 = .ok (.ifCond .eq 12, 3) := by decide +kernel
theorem dX5_isChannel_14 : decode cX5_isChannel 14 = .ok (.iload_n 0, 1) := by decide +kernel
theorem dX5_isChannel_15 : decode cX5_isChannel 15 = .ok (.iload_n 1, 1) := by decide +kernel
theorem dX5_isChannel_16 : decode cX5_isChannel 16 = .ok (.if_icmp .eq 7, 3) := by decide +kernel
theorem dX5_isChannel_19 : decode cX5_isChannel 19 = .ok (.iconst 1, 1) := by decide +kernel
theorem dX5_isChannel_20 : decode cX5_isChannel 20 = .ok (.goto 4, 3) := by decide +kernel
theorem dX5_isChannel_23 : decode cX5_isChannel 23 = .ok (.iconst 0, 1) := by decide +kernel
theorem dX5_isChannel_24 : decode cX5_isChannel 24 = .ok (.ireturn, 1) := by decide +kernel
theorem dX5_isRegister_0 : decode cX5_isRegister 0 = .ok (.iload_n 0, 1) := by decide +kernel
theorem dX5_isRegister_1 : decode cX5_isRegister 1 = .ok (.ifCond .lt 12, 3) := by decide +kernel
theorem dX5_isRegister_4 : decode cX5_isRegister 4 = .ok (.iload_n 0, 1) := by decide +kernel
theorem dX5_isRegister_5 : decode cX5_isRegister 5 = .ok (.iconst 4, 1) := by decide +kernel
theorem dX5_isRegister_6 : decode cX5_isRegister 6 = .ok (.if_icmp .ge 7, 3) := by decide +kernel
theorem dX5_isRegister_9 : decode cX5_isRegister 9 = .ok (.iconst 1, 1) := by decide +kernel
theorem dX5_isRegister_10 : decode cX5_isRegister 10 = .ok (.goto 4, 3) := by decide +kernel
theorem dX5_isRegister_13 : decode cX5_isRegister 13 = .ok (.iconst 0, 1) := by decide +kernel
theorem dX5_isRegister_14 : decode cX5_isRegister 14 = .ok (.ireturn, 1) := by decide +kernel
theorem dX5_usesB_0 : decode cX5_usesB 0 = .ok (.iload_n 0, 1) := by decide +kernel
theorem dX5_usesB_1 : decode cX5_usesB 1 = .ok (.iconst 1, 1) := by decide +kernel
theorem dX5_usesB_2 : decode cX5_usesB 2 = .ok (.if_icmp .eq 24, 3) := by decide +kernel
theorem dX5_usesB_5 : decode cX5_usesB 5 = .ok (.iload_n 0, 1) := by decide +kernel
theorem dX5_usesB_6 : decode cX5_usesB 6 = .ok (.iconst 2, 1) := by decide +kernel
theorem dX5_usesB_7 : decode cX5_usesB 7 = .ok (.if_icmp .eq 19, 3) := by decide +kernel
theorem dX5_usesB_10 : decode cX5_usesB 10 = .ok (.iload_n 0, 1) := by decide +kernel
theorem dX5_usesB_11 : decode cX5_usesB 11 = .ok (.iconst 3, 1) := by decide +kernel
theorem dX5_usesB_12 : decode cX5_usesB 12 = .ok (.if_icmp .eq 14, 3) := by decide +kernel
theorem dX5_usesB_15 : decode cX5_usesB 15 = .ok (.iload_n 0, 1) := by decide +kernel
theorem dX5_usesB_16 : decode cX5_usesB 16 = .ok (.iconst 5, 1) := by decide +kernel
theorem dX5_usesB_17 : decode cX5_usesB 17 = .ok (.if_icmp .eq 9, 3) := by decide +kernel
theorem dX5_usesB_20 : decode cX5_usesB 20 = .ok (.iload_n 0, 1) := by decide +kernel
theorem dX5_usesB_21 : decode cX5_usesB 21 = .ok (.bipush 6, 2) := by decide +kernel
theorem dX5_usesB_23 : decode cX5_usesB 23 = .ok (.if_icmp .ne 7, 3) := by decide +kernel
theorem dX5_usesB_26 : decode cX5_usesB 26 = .ok (.iconst 1, 1) := by decide +kernel
theorem dX5_usesB_27 : decode cX5_usesB 27 = .ok (.goto 4, 3) := by decide +kernel
theorem dX5_usesB_30 : decode cX5_usesB 30 = .ok (.iconst 0, 1) := by decide +kernel
theorem dX5_usesB_31 : decode cX5_usesB 31 = .ok (.ireturn, 1) := by decide +kernel
theorem dX5_input_0 : decode cX5_input 0 = .ok (.iload_n 1, 1) := by decide +kernel
theorem dX5_input_1 : decode cX5_input 1 = .ok (.invokestatic 74, 3) := by decide +kernel
theorem dX5_input_4 : decode cX5_input 4 = .ok (.ifCond .ne 5, 3) := by decide +kernel
theorem dX5_input_7 : decode cX5_input 7 = .ok (.iconst (-1), 1) := by decide +kernel
theorem dX5_input_8 : decode cX5_input 8 = .ok (.ireturn, 1) := by decide +kernel
theorem dX5_input_9 : decode cX5_input 9 = .ok (.aload_n 0, 1) := by decide +kernel
theorem dX5_input_10 : decode cX5_input 10 = .ok (.getfield 22, 3) := by decide +kernel
theorem dX5_input_13 : decode cX5_input 13 = .ok (.iload_n 1, 1) := by decide +kernel
theorem dX5_input_14 : decode cX5_input 14 = .ok (.baload, 1) := by decide +kernel
theorem dX5_input_15 : decode cX5_input 15 = .ok (.ifCond .eq 6, 3) := by decide +kernel
theorem dX5_input_18 : decode cX5_input 18 = .ok (.bipush (-2), 2) := by decide +kernel
theorem dX5_input_20 : decode cX5_input 20 = .ok (.ireturn, 1) := by decide +kernel
theorem dX5_input_21 : decode cX5_input 21 = .ok (.aload_n 0, 1) := by decide +kernel
theorem dX5_input_22 : decode cX5_input 22 = .ok (.iload_n 1, 1) := by decide +kernel
theorem dX5_input_23 : decode cX5_input 23 = .ok (.invokevirtual 115, 3) := by decide +kernel
theorem dX5_input_26 : decode cX5_input 26 = .ok (.bipush 20, 2) := by decide +kernel
theorem dX5_input_28 : decode cX5_input 28 = .ok (.if_icmp .ne 8, 3) := by decide +kernel
theorem dX5_input_31 : decode cX5_input 31 = .ok (.bipush (-4), 2) := by decide +kernel
theorem dX5_input_33 : decode cX5_input 33 = .ok (.goto 10, 3) := by decide +kernel
theorem dX5_input_36 : decode cX5_input 36 = .ok (.aload_n 0, 1) := by decide +kernel
theorem dX5_input_37 : decode cX5_input 37 = .ok (.iload_n 1, 1) := by decide +kernel
theorem dX5_input_38 : decode cX5_input 38 = .ok (.iload_n 2, 1) := by decide +kernel
theorem dX5_input_39 : decode cX5_input 39 = .ok (.iconst 3, 1) := by decide +kernel
theorem dX5_input_40 : decode cX5_input 40 = .ok (.invokevirtual 119, 3) := by decide +kernel
theorem dX5_input_43 : decode cX5_input 43 = .ok (.ireturn, 1) := by decide +kernel
theorem dX5_kept0_0 : decode cX5_kept0 0 = .ok (.aload_n 0, 1) := by decide +kernel
theorem dX5_kept0_1 : decode cX5_kept0 1 = .ok (.getfield 41, 3) := by decide +kernel
theorem dX5_kept0_4 : decode cX5_kept0 4 = .ok (.iload_n 1, 1) := by decide +kernel
theorem dX5_kept0_5 : decode cX5_kept0 5 = .ok (.iaload, 1) := by decide +kernel
theorem dX5_kept0_6 : decode cX5_kept0 6 = .ok (.aload_n 0, 1) := by decide +kernel
theorem dX5_kept0_7 : decode cX5_kept0 7 = .ok (.getfield 32, 3) := by decide +kernel
theorem dX5_kept0_10 : decode cX5_kept0 10 = .ok (.iload_n 1, 1) := by decide +kernel
theorem dX5_kept0_11 : decode cX5_kept0 11 = .ok (.iaload, 1) := by decide +kernel
theorem dX5_kept0_12 : decode cX5_kept0 12 = .ok (.isub, 1) := by decide +kernel
theorem dX5_kept0_13 : decode cX5_kept0 13 = .ok (.ireturn, 1) := by decide +kernel
theorem dX5_append_0 : decode cX5_append 0 = .ok (.aload_n 0, 1) := by decide +kernel
theorem dX5_append_1 : decode cX5_append 1 = .ok (.getfield 44, 3) := by decide +kernel
theorem dX5_append_4 : decode cX5_append 4 = .ok (.sipush 512, 3) := by decide +kernel
theorem dX5_append_7 : decode cX5_append 7 = .ok (.iload_n 1, 1) := by decide +kernel
theorem dX5_append_8 : decode cX5_append 8 = .ok (.imul, 1) := by decide +kernel
theorem dX5_append_9 : decode cX5_append 9 = .ok (.aload_n 0, 1) := by decide +kernel
theorem dX5_append_10 : decode cX5_append 10 = .ok (.getfield 41, 3) := by decide +kernel
theorem dX5_append_13 : decode cX5_append 13 = .ok (.iload_n 1, 1) := by decide +kernel
theorem dX5_append_14 : decode cX5_append 14 = .ok (.iaload, 1) := by decide +kernel
theorem dX5_append_15 : decode cX5_append 15 = .ok (.iadd, 1) := by decide +kernel
theorem dX5_append_16 : decode cX5_append 16 = .ok (.iload_n 2, 1) := by decide +kernel
theorem dX5_append_17 : decode cX5_append 17 = .ok (.iastore, 1) := by decide +kernel
theorem dX5_append_18 : decode cX5_append 18 = .ok (.aload_n 0, 1) := by decide +kernel
theorem dX5_append_19 : decode cX5_append 19 = .ok (.getfield 47, 3) := by decide +kernel
theorem dX5_append_22 : decode cX5_append 22 = .ok (.sipush 512, 3) := by decide +kernel
theorem dX5_append_25 : decode cX5_append 25 = .ok (.iload_n 1, 1) := by decide +kernel
theorem dX5_append_26 : decode cX5_append 26 = .ok (.imul, 1) := by decide +kernel
theorem dX5_append_27 : decode cX5_append 27 = .ok (.aload_n 0, 1) := by decide +kernel
theorem dX5_append_28 : decode cX5_append 28 = .ok (.getfield 41, 3) := by decide +kernel
theorem dX5_append_31 : decode cX5_append 31 = .ok (.iload_n 1, 1) := by decide +kernel
theorem dX5_append_32 : decode cX5_append 32 = .ok (.iaload, 1) := by decide +kernel
theorem dX5_append_33 : decode cX5_append 33 = .ok (.iadd, 1) := by decide +kernel
theorem dX5_append_34 : decode cX5_append 34 = .ok (.iload_n 3, 1) := by decide +kernel
theorem dX5_append_35 : decode cX5_append 35 = .ok (.iastore, 1) := by decide +kernel
theorem dX5_append_36 : decode cX5_append 36 = .ok (.aload_n 0, 1) := by decide +kernel
theorem dX5_append_37 : decode cX5_append 37 = .ok (.getfield 41, 3) := by decide +kernel
theorem dX5_append_40 : decode cX5_append 40 = .ok (.iload_n 1, 1) := by decide +kernel
theorem dX5_append_41 : decode cX5_append 41 = .ok (.dup2, 1) := by decide +kernel
theorem dX5_append_42 : decode cX5_append 42 = .ok (.iaload, 1) := by decide +kernel
theorem dX5_append_43 : decode cX5_append 43 = .ok (.iconst 1, 1) := by decide +kernel
theorem dX5_append_44 : decode cX5_append 44 = .ok (.iadd, 1) := by decide +kernel
theorem dX5_append_45 : decode cX5_append 45 = .ok (.iastore, 1) := by decide +kernel
theorem dX5_append_46 : decode cX5_append 46 = .ok (.aload_n 0, 1) := by decide +kernel
theorem dX5_append_47 : decode cX5_append 47 = .ok (.getfield 41, 3) := by decide +kernel
theorem dX5_append_50 : decode cX5_append 50 = .ok (.iload_n 1, 1) := by decide +kernel
theorem dX5_append_51 : decode cX5_append 51 = .ok (.iaload, 1) := by decide +kernel
theorem dX5_append_52 : decode cX5_append 52 = .ok (.ireturn, 1) := by decide +kernel
theorem dX5_deliver_0 : decode cX5_deliver 0 = .ok (.iload_n 1, 1) := by decide +kernel
theorem dX5_deliver_1 : decode cX5_deliver 1 = .ok (.iload_n 2, 1) := by decide +kernel
theorem dX5_deliver_2 : decode cX5_deliver 2 = .ok (.invokestatic 78, 3) := by decide +kernel
theorem dX5_deliver_5 : decode cX5_deliver 5 = .ok (.ifCond .ne 5, 3) := by decide +kernel
theorem dX5_deliver_8 : decode cX5_deliver 8 = .ok (.iconst (-1), 1) := by decide +kernel
theorem dX5_deliver_9 : decode cX5_deliver 9 = .ok (.ireturn, 1) := by decide +kernel
theorem dX5_deliver_10 : decode cX5_deliver 10 = .ok (.aload_n 0, 1) := by decide +kernel
theorem dX5_deliver_11 : decode cX5_deliver 11 = .ok (.getfield 22, 3) := by decide +kernel
theorem dX5_deliver_14 : decode cX5_deliver 14 = .ok (.iload_n 2, 1) := by decide +kernel
theorem dX5_deliver_15 : decode cX5_deliver 15 = .ok (.baload, 1) := by decide +kernel
theorem dX5_deliver_16 : decode cX5_deliver 16 = .ok (.ifCond .eq 6, 3) := by decide +kernel
theorem dX5_deliver_19 : decode cX5_deliver 19 = .ok (.bipush (-2), 2) := by decide +kernel
theorem dX5_deliver_21 : decode cX5_deliver 21 = .ok (.ireturn, 1) := by decide +kernel
theorem dX5_deliver_22 : decode cX5_deliver 22 = .ok (.iconst 3, 1) := by decide +kernel
theorem dX5_deliver_23 : decode cX5_deliver 23 = .ok (.iload_n 1, 1) := by decide +kernel
theorem dX5_deliver_24 : decode cX5_deliver 24 = .ok (.imul, 1) := by decide +kernel
theorem dX5_deliver_25 : decode cX5_deliver 25 = .ok (.iload_n 2, 1) := by decide +kernel
theorem dX5_deliver_26 : decode cX5_deliver 26 = .ok (.iadd, 1) := by decide +kernel
theorem dX5_deliver_27 : decode cX5_deliver 27 = .ok (.istore_n 3, 1) := by decide +kernel
theorem dX5_deliver_28 : decode cX5_deliver 28 = .ok (.aload_n 0, 1) := by decide +kernel
theorem dX5_deliver_29 : decode cX5_deliver 29 = .ok (.getfield 53, 3) := by decide +kernel
theorem dX5_deliver_32 : decode cX5_deliver 32 = .ok (.iload_n 3, 1) := by decide +kernel
theorem dX5_deliver_33 : decode cX5_deliver 33 = .ok (.iaload, 1) := by decide +kernel
theorem dX5_deliver_34 : decode cX5_deliver 34 = .ok (.aload_n 0, 1) := by decide +kernel
theorem dX5_deliver_35 : decode cX5_deliver 35 = .ok (.getfield 50, 3) := by decide +kernel
theorem dX5_deliver_38 : decode cX5_deliver 38 = .ok (.iload_n 3, 1) := by decide +kernel
theorem dX5_deliver_39 : decode cX5_deliver 39 = .ok (.iaload, 1) := by decide +kernel
theorem dX5_deliver_40 : decode cX5_deliver 40 = .ok (.if_icmp .ne 6, 3) := by decide +kernel
theorem dX5_deliver_43 : decode cX5_deliver 43 = .ok (.bipush (-3), 2) := by decide +kernel
theorem dX5_deliver_45 : decode cX5_deliver 45 = .ok (.ireturn, 1) := by decide +kernel
theorem dX5_deliver_46 : decode cX5_deliver 46 = .ok (.aload_n 0, 1) := by decide +kernel
theorem dX5_deliver_47 : decode cX5_deliver 47 = .ok (.iload_n 2, 1) := by decide +kernel
theorem dX5_deliver_48 : decode cX5_deliver 48 = .ok (.invokevirtual 115, 3) := by decide +kernel
theorem dX5_deliver_51 : decode cX5_deliver 51 = .ok (.bipush 20, 2) := by decide +kernel
theorem dX5_deliver_53 : decode cX5_deliver 53 = .ok (.if_icmp .ne 6, 3) := by decide +kernel
theorem dX5_deliver_56 : decode cX5_deliver 56 = .ok (.bipush (-4), 2) := by decide +kernel
theorem dX5_deliver_58 : decode cX5_deliver 58 = .ok (.ireturn, 1) := by decide +kernel
theorem dX5_deliver_59 : decode cX5_deliver 59 = .ok (.aload_n 0, 1) := by decide +kernel
theorem dX5_deliver_60 : decode cX5_deliver 60 = .ok (.getfield 56, 3) := by decide +kernel
theorem dX5_deliver_63 : decode cX5_deliver 63 = .ok (.bipush 8, 2) := by decide +kernel
theorem dX5_deliver_65 : decode cX5_deliver 65 = .ok (.iload_n 3, 1) := by decide +kernel
theorem dX5_deliver_66 : decode cX5_deliver 66 = .ok (.imul, 1) := by decide +kernel
theorem dX5_deliver_67 : decode cX5_deliver 67 = .ok (.aload_n 0, 1) := by decide +kernel
theorem dX5_deliver_68 : decode cX5_deliver 68 = .ok (.getfield 53, 3) := by decide +kernel
theorem dX5_deliver_71 : decode cX5_deliver 71 = .ok (.iload_n 3, 1) := by decide +kernel
theorem dX5_deliver_72 : decode cX5_deliver 72 = .ok (.iaload, 1) := by decide +kernel
theorem dX5_deliver_73 : decode cX5_deliver 73 = .ok (.bipush 8, 2) := by decide +kernel
theorem dX5_deliver_75 : decode cX5_deliver 75 = .ok (.irem, 1) := by decide +kernel
theorem dX5_deliver_76 : decode cX5_deliver 76 = .ok (.iadd, 1) := by decide +kernel
theorem dX5_deliver_77 : decode cX5_deliver 77 = .ok (.iaload, 1) := by decide +kernel
theorem dX5_deliver_78 : decode cX5_deliver 78 = .ok (.istore 4, 2) := by decide +kernel
theorem dX5_deliver_80 : decode cX5_deliver 80 = .ok (.aload_n 0, 1) := by decide +kernel
theorem dX5_deliver_81 : decode cX5_deliver 81 = .ok (.getfield 53, 3) := by decide +kernel
theorem dX5_deliver_84 : decode cX5_deliver 84 = .ok (.iload_n 3, 1) := by decide +kernel
theorem dX5_deliver_85 : decode cX5_deliver 85 = .ok (.dup2, 1) := by decide +kernel
theorem dX5_deliver_86 : decode cX5_deliver 86 = .ok (.iaload, 1) := by decide +kernel
theorem dX5_deliver_87 : decode cX5_deliver 87 = .ok (.iconst 1, 1) := by decide +kernel
theorem dX5_deliver_88 : decode cX5_deliver 88 = .ok (.iadd, 1) := by decide +kernel
theorem dX5_deliver_89 : decode cX5_deliver 89 = .ok (.iastore, 1) := by decide +kernel
theorem dX5_deliver_90 : decode cX5_deliver 90 = .ok (.aload_n 0, 1) := by decide +kernel
theorem dX5_deliver_91 : decode cX5_deliver 91 = .ok (.iload_n 2, 1) := by decide +kernel
theorem dX5_deliver_92 : decode cX5_deliver 92 = .ok (.iload 4, 2) := by decide +kernel
theorem dX5_deliver_94 : decode cX5_deliver 94 = .ok (.iload_n 1, 1) := by decide +kernel
theorem dX5_deliver_95 : decode cX5_deliver 95 = .ok (.invokevirtual 119, 3) := by decide +kernel
theorem dX5_deliver_98 : decode cX5_deliver 98 = .ok (.ireturn, 1) := by decide +kernel
theorem dX5_step_0 : decode cX5_step 0 = .ok (.iload_n 1, 1) := by decide +kernel
theorem dX5_step_1 : decode cX5_step 1 = .ok (.invokestatic 74, 3) := by decide +kernel
theorem dX5_step_4 : decode cX5_step 4 = .ok (.ifCond .ne 5, 3) := by decide +kernel
theorem dX5_step_7 : decode cX5_step 7 = .ok (.iconst (-1), 1) := by decide +kernel
theorem dX5_step_8 : decode cX5_step 8 = .ok (.ireturn, 1) := by decide +kernel
theorem dX5_step_9 : decode cX5_step 9 = .ok (.aload_n 0, 1) := by decide +kernel
theorem dX5_step_10 : decode cX5_step 10 = .ok (.getfield 22, 3) := by decide +kernel
theorem dX5_step_13 : decode cX5_step 13 = .ok (.iload_n 1, 1) := by decide +kernel
theorem dX5_step_14 : decode cX5_step 14 = .ok (.baload, 1) := by decide +kernel
theorem dX5_step_15 : decode cX5_step 15 = .ok (.ifCond .eq 6, 3) := by decide +kernel
theorem dX5_step_18 : decode cX5_step 18 = .ok (.bipush (-2), 2) := by decide +kernel
theorem dX5_step_20 : decode cX5_step 20 = .ok (.ireturn, 1) := by decide +kernel
theorem dX5_step_21 : decode cX5_step 21 = .ok (.aload_n 0, 1) := by decide +kernel
theorem dX5_step_22 : decode cX5_step 22 = .ok (.iload_n 1, 1) := by decide +kernel
theorem dX5_step_23 : decode cX5_step 23 = .ok (.invokevirtual 123, 3) := by decide +kernel
theorem dX5_step_26 : decode cX5_step 26 = .ok (.aload_n 0, 1) := by decide +kernel
theorem dX5_step_27 : decode cX5_step 27 = .ok (.iload_n 1, 1) := by decide +kernel
theorem dX5_step_28 : decode cX5_step 28 = .ok (.iconst 0, 1) := by decide +kernel
theorem dX5_step_29 : decode cX5_step 29 = .ok (.invokevirtual 111, 3) := by decide +kernel
theorem dX5_step_32 : decode cX5_step 32 = .ok (.istore_n 2, 1) := by decide +kernel
theorem dX5_step_33 : decode cX5_step 33 = .ok (.iload_n 2, 1) := by decide +kernel
theorem dX5_step_34 : decode cX5_step 34 = .ok (.iconst 1, 1) := by decide +kernel
theorem dX5_step_35 : decode cX5_step 35 = .ok (.if_icmp .ne 20, 3) := by decide +kernel
theorem dX5_step_38 : decode cX5_step 38 = .ok (.aload_n 0, 1) := by decide +kernel
theorem dX5_step_39 : decode cX5_step 39 = .ok (.getfield 26, 3) := by decide +kernel
theorem dX5_step_42 : decode cX5_step 42 = .ok (.iload_n 1, 1) := by decide +kernel
theorem dX5_step_43 : decode cX5_step 43 = .ok (.dup2, 1) := by decide +kernel
theorem dX5_step_44 : decode cX5_step 44 = .ok (.iaload, 1) := by decide +kernel
theorem dX5_step_45 : decode cX5_step 45 = .ok (.iconst 1, 1) := by decide +kernel
theorem dX5_step_46 : decode cX5_step 46 = .ok (.iadd, 1) := by decide +kernel
theorem dX5_step_47 : decode cX5_step 47 = .ok (.iastore, 1) := by decide +kernel
theorem dX5_step_48 : decode cX5_step 48 = .ok (.aload_n 0, 1) := by decide +kernel
theorem dX5_step_49 : decode cX5_step 49 = .ok (.getfield 35, 3) := by decide +kernel
theorem dX5_step_52 : decode cX5_step 52 = .ok (.iload_n 1, 1) := by decide +kernel
theorem dX5_step_53 : decode cX5_step 53 = .ok (.iconst 1, 1) := by decide +kernel
theorem dX5_step_54 : decode cX5_step 54 = .ok (.bastore, 1) := by decide +kernel
theorem dX5_step_55 : decode cX5_step 55 = .ok (.iload_n 2, 1) := by decide +kernel
theorem dX5_step_56 : decode cX5_step 56 = .ok (.ireturn, 1) := by decide +kernel
theorem dX5_load_0 : decode cX5_load 0 = .ok (.iconst 0, 1) := by decide +kernel
theorem dX5_load_1 : decode cX5_load 1 = .ok (.istore_n 2, 1) := by decide +kernel
theorem dX5_load_2 : decode cX5_load 2 = .ok (.iload_n 2, 1) := by decide +kernel
theorem dX5_load_3 : decode cX5_load 3 = .ok (.iconst 4, 1) := by decide +kernel
theorem dX5_load_4 : decode cX5_load 4 = .ok (.if_icmp .ge 16, 3) := by decide +kernel
theorem dX5_load_7 : decode cX5_load 7 = .ok (.aload_n 0, 1) := by decide +kernel
theorem dX5_load_8 : decode cX5_load 8 = .ok (.getfield 68, 3) := by decide +kernel
theorem dX5_load_11 : decode cX5_load 11 = .ok (.iload_n 2, 1) := by decide +kernel
theorem dX5_load_12 : decode cX5_load 12 = .ok (.iconst 0, 1) := by decide +kernel
theorem dX5_load_13 : decode cX5_load 13 = .ok (.iastore, 1) := by decide +kernel
theorem dX5_load_14 : decode cX5_load 14 = .ok (.iinc 2 1, 3) := by decide +kernel
theorem dX5_load_17 : decode cX5_load 17 = .ok (.goto (-15), 3) := by decide +kernel
theorem dX5_load_20 : decode cX5_load 20 = .ok (.iconst 0, 1) := by decide +kernel
theorem dX5_load_21 : decode cX5_load 21 = .ok (.istore_n 2, 1) := by decide +kernel
theorem dX5_load_22 : decode cX5_load 22 = .ok (.iload_n 2, 1) := by decide +kernel
theorem dX5_load_23 : decode cX5_load 23 = .ok (.iconst 3, 1) := by decide +kernel
theorem dX5_load_24 : decode cX5_load 24 = .ok (.if_icmp .ge 16, 3) := by decide +kernel
theorem dX5_load_27 : decode cX5_load 27 = .ok (.aload_n 0, 1) := by decide +kernel
theorem dX5_load_28 : decode cX5_load 28 = .ok (.getfield 71, 3) := by decide +kernel
theorem dX5_load_31 : decode cX5_load 31 = .ok (.iload_n 2, 1) := by decide +kernel
theorem dX5_load_32 : decode cX5_load 32 = .ok (.iconst 0, 1) := by decide +kernel
theorem dX5_load_33 : decode cX5_load 33 = .ok (.iastore, 1) := by decide +kernel
theorem dX5_load_34 : decode cX5_load 34 = .ok (.iinc 2 1, 3) := by decide +kernel
theorem dX5_load_37 : decode cX5_load 37 = .ok (.goto (-15), 3) := by decide +kernel
theorem dX5_load_40 : decode cX5_load 40 = .ok (.aload_n 0, 1) := by decide +kernel
theorem dX5_load_41 : decode cX5_load 41 = .ok (.iconst 0, 1) := by decide +kernel
theorem dX5_load_42 : decode cX5_load 42 = .ok (.putfield 88, 3) := by decide +kernel
theorem dX5_load_45 : decode cX5_load 45 = .ok (.aload_n 0, 1) := by decide +kernel
theorem dX5_load_46 : decode cX5_load 46 = .ok (.iconst 0, 1) := by decide +kernel
theorem dX5_load_47 : decode cX5_load 47 = .ok (.putfield 96, 3) := by decide +kernel
theorem dX5_load_50 : decode cX5_load 50 = .ok (.aload_n 0, 1) := by decide +kernel
theorem dX5_load_51 : decode cX5_load 51 = .ok (.iconst 0, 1) := by decide +kernel
theorem dX5_load_52 : decode cX5_load 52 = .ok (.putfield 102, 3) := by decide +kernel
theorem dX5_load_55 : decode cX5_load 55 = .ok (.aload_n 0, 1) := by decide +kernel
theorem dX5_load_56 : decode cX5_load 56 = .ok (.iconst 0, 1) := by decide +kernel
theorem dX5_load_57 : decode cX5_load 57 = .ok (.putfield 105, 3) := by decide +kernel
theorem dX5_load_60 : decode cX5_load 60 = .ok (.iconst 0, 1) := by decide +kernel
theorem dX5_load_61 : decode cX5_load 61 = .ok (.istore_n 2, 1) := by decide +kernel
theorem dX5_load_62 : decode cX5_load 62 = .ok (.iload_n 2, 1) := by decide +kernel
theorem dX5_load_63 : decode cX5_load 63 = .ok (.aload_n 0, 1) := by decide +kernel
theorem dX5_load_64 : decode cX5_load 64 = .ok (.getfield 26, 3) := by decide +kernel
theorem dX5_load_67 : decode cX5_load 67 = .ok (.iload_n 1, 1) := by decide +kernel
theorem dX5_load_68 : decode cX5_load 68 = .ok (.iaload, 1) := by decide +kernel
theorem dX5_load_69 : decode cX5_load 69 = .ok (.if_icmp .ge 16, 3) := by decide +kernel
theorem dX5_load_72 : decode cX5_load 72 = .ok (.aload_n 0, 1) := by decide +kernel
theorem dX5_load_73 : decode cX5_load 73 = .ok (.iload_n 1, 1) := by decide +kernel
theorem dX5_load_74 : decode cX5_load 74 = .ok (.iconst 1, 1) := by decide +kernel
theorem dX5_load_75 : decode cX5_load 75 = .ok (.invokevirtual 111, 3) := by decide +kernel
theorem dX5_load_78 : decode cX5_load 78 = .ok (.pop, 1) := by decide +kernel
theorem dX5_load_79 : decode cX5_load 79 = .ok (.iinc 2 1, 3) := by decide +kernel
theorem dX5_load_82 : decode cX5_load 82 = .ok (.goto (-20), 3) := by decide +kernel
theorem dX5_load_85 : decode cX5_load 85 = .ok (.return_, 1) := by decide +kernel
theorem dX5_go_0 : decode cX5_go 0 = .ok (.aload_n 0, 1) := by decide +kernel
theorem dX5_go_1 : decode cX5_go 1 = .ok (.getfield 88, 3) := by decide +kernel
theorem dX5_go_4 : decode cX5_go 4 = .ok (.aload_n 0, 1) := by decide +kernel
theorem dX5_go_5 : decode cX5_go 5 = .ok (.getfield 7, 3) := by decide +kernel
theorem dX5_go_8 : decode cX5_go 8 = .ok (.iload_n 1, 1) := by decide +kernel
theorem dX5_go_9 : decode cX5_go 9 = .ok (.iaload, 1) := by decide +kernel
theorem dX5_go_10 : decode cX5_go 10 = .ok (.if_icmp .lt 5, 3) := by decide +kernel
theorem dX5_go_13 : decode cX5_go 13 = .ok (.iconst 2, 1) := by decide +kernel
theorem dX5_go_14 : decode cX5_go 14 = .ok (.ireturn, 1) := by decide +kernel
theorem dX5_go_15 : decode cX5_go 15 = .ok (.bipush 16, 2) := by decide +kernel
theorem dX5_go_17 : decode cX5_go 17 = .ok (.iload_n 1, 1) := by decide +kernel
theorem dX5_go_18 : decode cX5_go 18 = .ok (.imul, 1) := by decide +kernel
theorem dX5_go_19 : decode cX5_go 19 = .ok (.aload_n 0, 1) := by decide +kernel
theorem dX5_go_20 : decode cX5_go 20 = .ok (.getfield 88, 3) := by decide +kernel
theorem dX5_go_23 : decode cX5_go 23 = .ok (.iadd, 1) := by decide +kernel
theorem dX5_go_24 : decode cX5_go 24 = .ok (.istore_n 3, 1) := by decide +kernel
theorem dX5_go_25 : decode cX5_go 25 = .ok (.aload_n 0, 1) := by decide +kernel
theorem dX5_go_26 : decode cX5_go 26 = .ok (.getfield 16, 3) := by decide +kernel
theorem dX5_go_29 : decode cX5_go 29 = .ok (.iload_n 3, 1) := by decide +kernel
theorem dX5_go_30 : decode cX5_go 30 = .ok (.iaload, 1) := by decide +kernel
theorem dX5_go_31 : decode cX5_go 31 = .ok (.istore 4, 2) := by decide +kernel
theorem dX5_go_33 : decode cX5_go 33 = .ok (.aload_n 0, 1) := by decide +kernel
theorem dX5_go_34 : decode cX5_go 34 = .ok (.getfield 19, 3) := by decide +kernel
theorem dX5_go_37 : decode cX5_go 37 = .ok (.iload_n 3, 1) := by decide +kernel
theorem dX5_go_38 : decode cX5_go 38 = .ok (.iaload, 1) := by decide +kernel
theorem dX5_go_39 : decode cX5_go 39 = .ok (.istore 5, 2) := by decide +kernel
theorem dX5_go_41 : decode cX5_go 41 = .ok (.aload_n 0, 1) := by decide +kernel
theorem dX5_go_42 : decode cX5_go 42 = .ok (.getfield 88, 3) := by decide +kernel
theorem dX5_go_45 : decode cX5_go 45 = .ok (.iconst 1, 1) := by decide +kernel
theorem dX5_go_46 : decode cX5_go 46 = .ok (.iadd, 1) := by decide +kernel
theorem dX5_go_47 : decode cX5_go 47 = .ok (.istore 6, 2) := by decide +kernel
theorem dX5_go_49 : decode cX5_go 49 = .ok (.aload_n 0, 1) := by decide +kernel
theorem dX5_go_50 : decode cX5_go 50 = .ok (.getfield 13, 3) := by decide +kernel
theorem dX5_go_53 : decode cX5_go 53 = .ok (.iload_n 3, 1) := by decide +kernel
theorem dX5_go_54 : decode cX5_go 54 = .ok (.iaload, 1) := by decide +kernel
theorem dX5_go_55 : decode cX5_go 55 = .ok (.tableswitch 252 0 6 #[41, 53, 78, 103, 136, 143, 180], 41) := by decide +kernel
theorem dX5_go_96 : decode cX5_go 96 = .ok (.aload_n 0, 1) := by decide +kernel
theorem dX5_go_97 : decode cX5_go 97 = .ok (.getfield 68, 3) := by decide +kernel
theorem dX5_go_100 : decode cX5_go 100 = .ok (.iload 4, 2) := by decide +kernel
theorem dX5_go_102 : decode cX5_go 102 = .ok (.iload 5, 2) := by decide +kernel
theorem dX5_go_104 : decode cX5_go 104 = .ok (.iastore, 1) := by decide +kernel
theorem dX5_go_105 : decode cX5_go 105 = .ok (.goto 233, 3) := by decide +kernel
theorem dX5_go_108 : decode cX5_go 108 = .ok (.aload_n 0, 1) := by decide +kernel
theorem dX5_go_109 : decode cX5_go 109 = .ok (.getfield 68, 3) := by decide +kernel
theorem dX5_go_112 : decode cX5_go 112 = .ok (.iload 4, 2) := by decide +kernel
theorem dX5_go_114 : decode cX5_go 114 = .ok (.aload_n 0, 1) := by decide +kernel
theorem dX5_go_115 : decode cX5_go 115 = .ok (.getfield 68, 3) := by decide +kernel
theorem dX5_go_118 : decode cX5_go 118 = .ok (.iload 4, 2) := by decide +kernel
theorem dX5_go_120 : decode cX5_go 120 = .ok (.iaload, 1) := by decide +kernel
theorem dX5_go_121 : decode cX5_go 121 = .ok (.aload_n 0, 1) := by decide +kernel
theorem dX5_go_122 : decode cX5_go 122 = .ok (.getfield 68, 3) := by decide +kernel
theorem dX5_go_125 : decode cX5_go 125 = .ok (.iload 5, 2) := by decide +kernel
theorem dX5_go_127 : decode cX5_go 127 = .ok (.iaload, 1) := by decide +kernel
theorem dX5_go_128 : decode cX5_go 128 = .ok (.iadd, 1) := by decide +kernel
theorem dX5_go_129 : decode cX5_go 129 = .ok (.iastore, 1) := by decide +kernel
theorem dX5_go_130 : decode cX5_go 130 = .ok (.goto 208, 3) := by decide +kernel
theorem dX5_go_133 : decode cX5_go 133 = .ok (.aload_n 0, 1) := by decide +kernel
theorem dX5_go_134 : decode cX5_go 134 = .ok (.getfield 68, 3) := by decide +kernel
theorem dX5_go_137 : decode cX5_go 137 = .ok (.iload 4, 2) := by decide +kernel
theorem dX5_go_139 : decode cX5_go 139 = .ok (.aload_n 0, 1) := by decide +kernel
theorem dX5_go_140 : decode cX5_go 140 = .ok (.getfield 68, 3) := by decide +kernel
theorem dX5_go_143 : decode cX5_go 143 = .ok (.iload 4, 2) := by decide +kernel
theorem dX5_go_145 : decode cX5_go 145 = .ok (.iaload, 1) := by decide +kernel
theorem dX5_go_146 : decode cX5_go 146 = .ok (.aload_n 0, 1) := by decide +kernel
theorem dX5_go_147 : decode cX5_go 147 = .ok (.getfield 68, 3) := by decide +kernel
theorem dX5_go_150 : decode cX5_go 150 = .ok (.iload 5, 2) := by decide +kernel
theorem dX5_go_152 : decode cX5_go 152 = .ok (.iaload, 1) := by decide +kernel
theorem dX5_go_153 : decode cX5_go 153 = .ok (.imul, 1) := by decide +kernel
theorem dX5_go_154 : decode cX5_go 154 = .ok (.iastore, 1) := by decide +kernel
theorem dX5_go_155 : decode cX5_go 155 = .ok (.goto 183, 3) := by decide +kernel
theorem dX5_go_158 : decode cX5_go 158 = .ok (.aload_n 0, 1) := by decide +kernel
theorem dX5_go_159 : decode cX5_go 159 = .ok (.getfield 68, 3) := by decide +kernel
theorem dX5_go_162 : decode cX5_go 162 = .ok (.iload 4, 2) := by decide +kernel
theorem dX5_go_164 : decode cX5_go 164 = .ok (.iaload, 1) := by decide +kernel
theorem dX5_go_165 : decode cX5_go 165 = .ok (.aload_n 0, 1) := by decide +kernel
theorem dX5_go_166 : decode cX5_go 166 = .ok (.getfield 68, 3) := by decide +kernel
theorem dX5_go_169 : decode cX5_go 169 = .ok (.iload 5, 2) := by decide +kernel
theorem dX5_go_171 : decode cX5_go 171 = .ok (.iaload, 1) := by decide +kernel
theorem dX5_go_172 : decode cX5_go 172 = .ok (.if_icmp .ge 12, 3) := by decide +kernel
theorem dX5_go_175 : decode cX5_go 175 = .ok (.aload_n 0, 1) := by decide +kernel
theorem dX5_go_176 : decode cX5_go 176 = .ok (.getfield 88, 3) := by decide +kernel
theorem dX5_go_179 : decode cX5_go 179 = .ok (.iconst 2, 1) := by decide +kernel
theorem dX5_go_180 : decode cX5_go 180 = .ok (.iadd, 1) := by decide +kernel
theorem dX5_go_181 : decode cX5_go 181 = .ok (.goto 5, 3) := by decide +kernel
theorem dX5_go_184 : decode cX5_go 184 = .ok (.iload 6, 2) := by decide +kernel
theorem dX5_go_186 : decode cX5_go 186 = .ok (.istore 6, 2) := by decide +kernel
theorem dX5_go_188 : decode cX5_go 188 = .ok (.goto 150, 3) := by decide +kernel
theorem dX5_go_191 : decode cX5_go 191 = .ok (.iload 4, 2) := by decide +kernel
theorem dX5_go_193 : decode cX5_go 193 = .ok (.istore 6, 2) := by decide +kernel
theorem dX5_go_195 : decode cX5_go 195 = .ok (.goto 143, 3) := by decide +kernel
theorem dX5_go_198 : decode cX5_go 198 = .ok (.iload_n 2, 1) := by decide +kernel
theorem dX5_go_199 : decode cX5_go 199 = .ok (.ifCond .ne 22, 3) := by decide +kernel
theorem dX5_go_202 : decode cX5_go 202 = .ok (.aload_n 0, 1) := by decide +kernel
theorem dX5_go_203 : decode cX5_go 203 = .ok (.iload_n 1, 1) := by decide +kernel
theorem dX5_go_204 : decode cX5_go 204 = .ok (.iload 4, 2) := by decide +kernel
theorem dX5_go_206 : decode cX5_go 206 = .ok (.aload_n 0, 1) := by decide +kernel
theorem dX5_go_207 : decode cX5_go 207 = .ok (.getfield 68, 3) := by decide +kernel
theorem dX5_go_210 : decode cX5_go 210 = .ok (.iload 5, 2) := by decide +kernel
theorem dX5_go_212 : decode cX5_go 212 = .ok (.iaload, 1) := by decide +kernel
theorem dX5_go_213 : decode cX5_go 213 = .ok (.invokevirtual 92, 3) := by decide +kernel
theorem dX5_go_216 : decode cX5_go 216 = .ok (.ifCond .ne 5, 3) := by decide +kernel
theorem dX5_go_219 : decode cX5_go 219 = .ok (.iconst 0, 1) := by decide +kernel
theorem dX5_go_220 : decode cX5_go 220 = .ok (.ireturn, 1) := by decide +kernel
theorem dX5_go_221 : decode cX5_go 221 = .ok (.aload_n 0, 1) := by decide +kernel
theorem dX5_go_222 : decode cX5_go 222 = .ok (.getfield 71, 3) := by decide +kernel
theorem dX5_go_225 : decode cX5_go 225 = .ok (.iload 4, 2) := by decide +kernel
theorem dX5_go_227 : decode cX5_go 227 = .ok (.dup2, 1) := by decide +kernel
theorem dX5_go_228 : decode cX5_go 228 = .ok (.iaload, 1) := by decide +kernel
theorem dX5_go_229 : decode cX5_go 229 = .ok (.iconst 1, 1) := by decide +kernel
theorem dX5_go_230 : decode cX5_go 230 = .ok (.iadd, 1) := by decide +kernel
theorem dX5_go_231 : decode cX5_go 231 = .ok (.iastore, 1) := by decide +kernel
theorem dX5_go_232 : decode cX5_go 232 = .ok (.goto 106, 3) := by decide +kernel
theorem dX5_go_235 : decode cX5_go 235 = .ok (.aload_n 0, 1) := by decide +kernel
theorem dX5_go_236 : decode cX5_go 236 = .ok (.getfield 96, 3) := by decide +kernel
theorem dX5_go_239 : decode cX5_go 239 = .ok (.aload_n 0, 1) := by decide +kernel
theorem dX5_go_240 : decode cX5_go 240 = .ok (.getfield 41, 3) := by decide +kernel
theorem dX5_go_243 : decode cX5_go 243 = .ok (.iload_n 1, 1) := by decide +kernel
theorem dX5_go_244 : decode cX5_go 244 = .ok (.iaload, 1) := by decide +kernel
theorem dX5_go_245 : decode cX5_go 245 = .ok (.if_icmp .ne 5, 3) := by decide +kernel
theorem dX5_go_248 : decode cX5_go 248 = .ok (.iconst 0, 1) := by decide +kernel
theorem dX5_go_249 : decode cX5_go 249 = .ok (.ireturn, 1) := by decide +kernel
theorem dX5_go_250 : decode cX5_go 250 = .ok (.aload_n 0, 1) := by decide +kernel
theorem dX5_go_251 : decode cX5_go 251 = .ok (.getfield 68, 3) := by decide +kernel
theorem dX5_go_254 : decode cX5_go 254 = .ok (.iload 5, 2) := by decide +kernel
theorem dX5_go_256 : decode cX5_go 256 = .ok (.aload_n 0, 1) := by decide +kernel
theorem dX5_go_257 : decode cX5_go 257 = .ok (.getfield 47, 3) := by decide +kernel
theorem dX5_go_260 : decode cX5_go 260 = .ok (.sipush 512, 3) := by decide +kernel
theorem dX5_go_263 : decode cX5_go 263 = .ok (.iload_n 1, 1) := by decide +kernel
theorem dX5_go_264 : decode cX5_go 264 = .ok (.imul, 1) := by decide +kernel
theorem dX5_go_265 : decode cX5_go 265 = .ok (.aload_n 0, 1) := by decide +kernel
theorem dX5_go_266 : decode cX5_go 266 = .ok (.getfield 96, 3) := by decide +kernel
theorem dX5_go_269 : decode cX5_go 269 = .ok (.iadd, 1) := by decide +kernel
theorem dX5_go_270 : decode cX5_go 270 = .ok (.iaload, 1) := by decide +kernel
theorem dX5_go_271 : decode cX5_go 271 = .ok (.iastore, 1) := by decide +kernel
theorem dX5_go_272 : decode cX5_go 272 = .ok (.aload_n 0, 1) := by decide +kernel
theorem dX5_go_273 : decode cX5_go 273 = .ok (.getfield 68, 3) := by decide +kernel
theorem dX5_go_276 : decode cX5_go 276 = .ok (.iload 4, 2) := by decide +kernel
theorem dX5_go_278 : decode cX5_go 278 = .ok (.aload_n 0, 1) := by decide +kernel
theorem dX5_go_279 : decode cX5_go 279 = .ok (.getfield 44, 3) := by decide +kernel
theorem dX5_go_282 : decode cX5_go 282 = .ok (.sipush 512, 3) := by decide +kernel
theorem dX5_go_285 : decode cX5_go 285 = .ok (.iload_n 1, 1) := by decide +kernel
theorem dX5_go_286 : decode cX5_go 286 = .ok (.imul, 1) := by decide +kernel
theorem dX5_go_287 : decode cX5_go 287 = .ok (.aload_n 0, 1) := by decide +kernel
theorem dX5_go_288 : decode cX5_go 288 = .ok (.getfield 96, 3) := by decide +kernel
theorem dX5_go_291 : decode cX5_go 291 = .ok (.iadd, 1) := by decide +kernel
theorem dX5_go_292 : decode cX5_go 292 = .ok (.iaload, 1) := by decide +kernel
theorem dX5_go_293 : decode cX5_go 293 = .ok (.iastore, 1) := by decide +kernel
theorem dX5_go_294 : decode cX5_go 294 = .ok (.aload_n 0, 1) := by decide +kernel
theorem dX5_go_295 : decode cX5_go 295 = .ok (.dup, 1) := by decide +kernel
theorem dX5_go_296 : decode cX5_go 296 = .ok (.getfield 96, 3) := by decide +kernel
theorem dX5_go_299 : decode cX5_go 299 = .ok (.iconst 1, 1) := by decide +kernel
theorem dX5_go_300 : decode cX5_go 300 = .ok (.iadd, 1) := by decide +kernel
theorem dX5_go_301 : decode cX5_go 301 = .ok (.putfield 96, 3) := by decide +kernel
theorem dX5_go_304 : decode cX5_go 304 = .ok (.goto 34, 3) := by decide +kernel
theorem dX5_go_307 : decode cX5_go 307 = .ok (.iload_n 2, 1) := by decide +kernel
theorem dX5_go_308 : decode cX5_go 308 = .ok (.ifCond .ne 20, 3) := by decide +kernel
theorem dX5_go_311 : decode cX5_go 311 = .ok (.aload_n 0, 1) := by decide +kernel
theorem dX5_go_312 : decode cX5_go 312 = .ok (.iload_n 1, 1) := by decide +kernel
theorem dX5_go_313 : decode cX5_go 313 = .ok (.aload_n 0, 1) := by decide +kernel
theorem dX5_go_314 : decode cX5_go 314 = .ok (.getfield 68, 3) := by decide +kernel
theorem dX5_go_317 : decode cX5_go 317 = .ok (.iload 4, 2) := by decide +kernel
theorem dX5_go_319 : decode cX5_go 319 = .ok (.iaload, 1) := by decide +kernel
theorem dX5_go_320 : decode cX5_go 320 = .ok (.invokevirtual 99, 3) := by decide +kernel
theorem dX5_go_323 : decode cX5_go 323 = .ok (.ifCond .ne 5, 3) := by decide +kernel
theorem dX5_go_326 : decode cX5_go 326 = .ok (.iconst 0, 1) := by decide +kernel
theorem dX5_go_327 : decode cX5_go 327 = .ok (.ireturn, 1) := by decide +kernel
theorem dX5_go_328 : decode cX5_go 328 = .ok (.aload_n 0, 1) := by decide +kernel
theorem dX5_go_329 : decode cX5_go 329 = .ok (.dup, 1) := by decide +kernel
theorem dX5_go_330 : decode cX5_go 330 = .ok (.getfield 102, 3) := by decide +kernel
theorem dX5_go_333 : decode cX5_go 333 = .ok (.iconst 1, 1) := by decide +kernel
theorem dX5_go_334 : decode cX5_go 334 = .ok (.iadd, 1) := by decide +kernel
theorem dX5_go_335 : decode cX5_go 335 = .ok (.putfield 102, 3) := by decide +kernel
theorem dX5_go_338 : decode cX5_go 338 = .ok (.aload_n 0, 1) := by decide +kernel
theorem dX5_go_339 : decode cX5_go 339 = .ok (.iload 6, 2) := by decide +kernel
theorem dX5_go_341 : decode cX5_go 341 = .ok (.putfield 88, 3) := by decide +kernel
theorem dX5_go_344 : decode cX5_go 344 = .ok (.aload_n 0, 1) := by decide +kernel
theorem dX5_go_345 : decode cX5_go 345 = .ok (.dup, 1) := by decide +kernel
theorem dX5_go_346 : decode cX5_go 346 = .ok (.getfield 105, 3) := by decide +kernel
theorem dX5_go_349 : decode cX5_go 349 = .ok (.iconst 1, 1) := by decide +kernel
theorem dX5_go_350 : decode cX5_go 350 = .ok (.iadd, 1) := by decide +kernel
theorem dX5_go_351 : decode cX5_go 351 = .ok (.putfield 105, 3) := by decide +kernel
theorem dX5_go_354 : decode cX5_go 354 = .ok (.iconst 1, 1) := by decide +kernel
theorem dX5_go_355 : decode cX5_go 355 = .ok (.ireturn, 1) := by decide +kernel
theorem dX5_sends_0 : decode cX5_sends 0 = .ok (.iconst 3, 1) := by decide +kernel
theorem dX5_sends_1 : decode cX5_sends 1 = .ok (.iload_n 1, 1) := by decide +kernel
theorem dX5_sends_2 : decode cX5_sends 2 = .ok (.imul, 1) := by decide +kernel
theorem dX5_sends_3 : decode cX5_sends 3 = .ok (.iload_n 2, 1) := by decide +kernel
theorem dX5_sends_4 : decode cX5_sends 4 = .ok (.iadd, 1) := by decide +kernel
theorem dX5_sends_5 : decode cX5_sends 5 = .ok (.istore 4, 2) := by decide +kernel
theorem dX5_sends_7 : decode cX5_sends 7 = .ok (.aload_n 0, 1) := by decide +kernel
theorem dX5_sends_8 : decode cX5_sends 8 = .ok (.getfield 71, 3) := by decide +kernel
theorem dX5_sends_11 : decode cX5_sends 11 = .ok (.iload_n 2, 1) := by decide +kernel
theorem dX5_sends_12 : decode cX5_sends 12 = .ok (.iaload, 1) := by decide +kernel
theorem dX5_sends_13 : decode cX5_sends 13 = .ok (.aload_n 0, 1) := by decide +kernel
theorem dX5_sends_14 : decode cX5_sends 14 = .ok (.getfield 50, 3) := by decide +kernel
theorem dX5_sends_17 : decode cX5_sends 17 = .ok (.iload 4, 2) := by decide +kernel
theorem dX5_sends_19 : decode cX5_sends 19 = .ok (.iaload, 1) := by decide +kernel
theorem dX5_sends_20 : decode cX5_sends 20 = .ok (.if_icmp .ge 15, 3) := by decide +kernel
theorem dX5_sends_23 : decode cX5_sends 23 = .ok (.aload_n 0, 1) := by decide +kernel
theorem dX5_sends_24 : decode cX5_sends 24 = .ok (.getfield 38, 3) := by decide +kernel
theorem dX5_sends_27 : decode cX5_sends 27 = .ok (.iload_n 1, 1) := by decide +kernel
theorem dX5_sends_28 : decode cX5_sends 28 = .ok (.dup2, 1) := by decide +kernel
theorem dX5_sends_29 : decode cX5_sends 29 = .ok (.iaload, 1) := by decide +kernel
theorem dX5_sends_30 : decode cX5_sends 30 = .ok (.iconst 1, 1) := by decide +kernel
theorem dX5_sends_31 : decode cX5_sends 31 = .ok (.iadd, 1) := by decide +kernel
theorem dX5_sends_32 : decode cX5_sends 32 = .ok (.iastore, 1) := by decide +kernel
theorem dX5_sends_33 : decode cX5_sends 33 = .ok (.iconst 1, 1) := by decide +kernel
theorem dX5_sends_34 : decode cX5_sends 34 = .ok (.ireturn, 1) := by decide +kernel
theorem dX5_sends_35 : decode cX5_sends 35 = .ok (.aload_n 0, 1) := by decide +kernel
theorem dX5_sends_36 : decode cX5_sends 36 = .ok (.getfield 50, 3) := by decide +kernel
theorem dX5_sends_39 : decode cX5_sends 39 = .ok (.iload 4, 2) := by decide +kernel
theorem dX5_sends_41 : decode cX5_sends 41 = .ok (.iaload, 1) := by decide +kernel
theorem dX5_sends_42 : decode cX5_sends 42 = .ok (.aload_n 0, 1) := by decide +kernel
theorem dX5_sends_43 : decode cX5_sends 43 = .ok (.getfield 53, 3) := by decide +kernel
theorem dX5_sends_46 : decode cX5_sends 46 = .ok (.iload 4, 2) := by decide +kernel
theorem dX5_sends_48 : decode cX5_sends 48 = .ok (.iaload, 1) := by decide +kernel
theorem dX5_sends_49 : decode cX5_sends 49 = .ok (.isub, 1) := by decide +kernel
theorem dX5_sends_50 : decode cX5_sends 50 = .ok (.bipush 8, 2) := by decide +kernel
theorem dX5_sends_52 : decode cX5_sends 52 = .ok (.if_icmp .ne 5, 3) := by decide +kernel
theorem dX5_sends_55 : decode cX5_sends 55 = .ok (.iconst 0, 1) := by decide +kernel
theorem dX5_sends_56 : decode cX5_sends 56 = .ok (.ireturn, 1) := by decide +kernel
theorem dX5_sends_57 : decode cX5_sends 57 = .ok (.aload_n 0, 1) := by decide +kernel
theorem dX5_sends_58 : decode cX5_sends 58 = .ok (.getfield 56, 3) := by decide +kernel
theorem dX5_sends_61 : decode cX5_sends 61 = .ok (.bipush 8, 2) := by decide +kernel
theorem dX5_sends_63 : decode cX5_sends 63 = .ok (.iload 4, 2) := by decide +kernel
theorem dX5_sends_65 : decode cX5_sends 65 = .ok (.imul, 1) := by decide +kernel
theorem dX5_sends_66 : decode cX5_sends 66 = .ok (.aload_n 0, 1) := by decide +kernel
theorem dX5_sends_67 : decode cX5_sends 67 = .ok (.getfield 50, 3) := by decide +kernel
theorem dX5_sends_70 : decode cX5_sends 70 = .ok (.iload 4, 2) := by decide +kernel
theorem dX5_sends_72 : decode cX5_sends 72 = .ok (.iaload, 1) := by decide +kernel
theorem dX5_sends_73 : decode cX5_sends 73 = .ok (.bipush 8, 2) := by decide +kernel
theorem dX5_sends_75 : decode cX5_sends 75 = .ok (.irem, 1) := by decide +kernel
theorem dX5_sends_76 : decode cX5_sends 76 = .ok (.iadd, 1) := by decide +kernel
theorem dX5_sends_77 : decode cX5_sends 77 = .ok (.iload_n 3, 1) := by decide +kernel
theorem dX5_sends_78 : decode cX5_sends 78 = .ok (.iastore, 1) := by decide +kernel
theorem dX5_sends_79 : decode cX5_sends 79 = .ok (.aload_n 0, 1) := by decide +kernel
theorem dX5_sends_80 : decode cX5_sends 80 = .ok (.getfield 50, 3) := by decide +kernel
theorem dX5_sends_83 : decode cX5_sends 83 = .ok (.iload 4, 2) := by decide +kernel
theorem dX5_sends_85 : decode cX5_sends 85 = .ok (.dup2, 1) := by decide +kernel
theorem dX5_sends_86 : decode cX5_sends 86 = .ok (.iaload, 1) := by decide +kernel
theorem dX5_sends_87 : decode cX5_sends 87 = .ok (.iconst 1, 1) := by decide +kernel
theorem dX5_sends_88 : decode cX5_sends 88 = .ok (.iadd, 1) := by decide +kernel
theorem dX5_sends_89 : decode cX5_sends 89 = .ok (.iastore, 1) := by decide +kernel
theorem dX5_sends_90 : decode cX5_sends 90 = .ok (.iconst 1, 1) := by decide +kernel
theorem dX5_sends_91 : decode cX5_sends 91 = .ok (.ireturn, 1) := by decide +kernel
theorem dX5_puts_0 : decode cX5_puts 0 = .ok (.aload_n 0, 1) := by decide +kernel
theorem dX5_puts_1 : decode cX5_puts 1 = .ok (.getfield 102, 3) := by decide +kernel
theorem dX5_puts_4 : decode cX5_puts 4 = .ok (.aload_n 0, 1) := by decide +kernel
theorem dX5_puts_5 : decode cX5_puts 5 = .ok (.getfield 65, 3) := by decide +kernel
theorem dX5_puts_8 : decode cX5_puts 8 = .ok (.iload_n 1, 1) := by decide +kernel
theorem dX5_puts_9 : decode cX5_puts 9 = .ok (.iaload, 1) := by decide +kernel
theorem dX5_puts_10 : decode cX5_puts 10 = .ok (.if_icmp .ge 15, 3) := by decide +kernel
theorem dX5_puts_13 : decode cX5_puts 13 = .ok (.aload_n 0, 1) := by decide +kernel
theorem dX5_puts_14 : decode cX5_puts 14 = .ok (.getfield 38, 3) := by decide +kernel
theorem dX5_puts_17 : decode cX5_puts 17 = .ok (.iload_n 1, 1) := by decide +kernel
theorem dX5_puts_18 : decode cX5_puts 18 = .ok (.dup2, 1) := by decide +kernel
theorem dX5_puts_19 : decode cX5_puts 19 = .ok (.iaload, 1) := by decide +kernel
theorem dX5_puts_20 : decode cX5_puts 20 = .ok (.iconst 1, 1) := by decide +kernel
theorem dX5_puts_21 : decode cX5_puts 21 = .ok (.iadd, 1) := by decide +kernel
theorem dX5_puts_22 : decode cX5_puts 22 = .ok (.iastore, 1) := by decide +kernel
theorem dX5_puts_23 : decode cX5_puts 23 = .ok (.iconst 1, 1) := by decide +kernel
theorem dX5_puts_24 : decode cX5_puts 24 = .ok (.ireturn, 1) := by decide +kernel
theorem dX5_puts_25 : decode cX5_puts 25 = .ok (.aload_n 0, 1) := by decide +kernel
theorem dX5_puts_26 : decode cX5_puts 26 = .ok (.getfield 108, 3) := by decide +kernel
theorem dX5_puts_29 : decode cX5_puts 29 = .ok (.bipush 60, 2) := by decide +kernel
theorem dX5_puts_31 : decode cX5_puts 31 = .ok (.if_icmp .ne 5, 3) := by decide +kernel
theorem dX5_puts_34 : decode cX5_puts 34 = .ok (.iconst 0, 1) := by decide +kernel
theorem dX5_puts_35 : decode cX5_puts 35 = .ok (.ireturn, 1) := by decide +kernel
theorem dX5_puts_36 : decode cX5_puts 36 = .ok (.aload_n 0, 1) := by decide +kernel
theorem dX5_puts_37 : decode cX5_puts 37 = .ok (.getfield 59, 3) := by decide +kernel
theorem dX5_puts_40 : decode cX5_puts 40 = .ok (.aload_n 0, 1) := by decide +kernel
theorem dX5_puts_41 : decode cX5_puts 41 = .ok (.getfield 108, 3) := by decide +kernel
theorem dX5_puts_44 : decode cX5_puts 44 = .ok (.iload_n 1, 1) := by decide +kernel
theorem dX5_puts_45 : decode cX5_puts 45 = .ok (.iastore, 1) := by decide +kernel
theorem dX5_puts_46 : decode cX5_puts 46 = .ok (.aload_n 0, 1) := by decide +kernel
theorem dX5_puts_47 : decode cX5_puts 47 = .ok (.getfield 62, 3) := by decide +kernel
theorem dX5_puts_50 : decode cX5_puts 50 = .ok (.aload_n 0, 1) := by decide +kernel
theorem dX5_puts_51 : decode cX5_puts 51 = .ok (.getfield 108, 3) := by decide +kernel
theorem dX5_puts_54 : decode cX5_puts 54 = .ok (.iload_n 2, 1) := by decide +kernel
theorem dX5_puts_55 : decode cX5_puts 55 = .ok (.iastore, 1) := by decide +kernel
theorem dX5_puts_56 : decode cX5_puts 56 = .ok (.aload_n 0, 1) := by decide +kernel
theorem dX5_puts_57 : decode cX5_puts 57 = .ok (.dup, 1) := by decide +kernel
theorem dX5_puts_58 : decode cX5_puts 58 = .ok (.getfield 108, 3) := by decide +kernel
theorem dX5_puts_61 : decode cX5_puts 61 = .ok (.iconst 1, 1) := by decide +kernel
theorem dX5_puts_62 : decode cX5_puts 62 = .ok (.iadd, 1) := by decide +kernel
theorem dX5_puts_63 : decode cX5_puts 63 = .ok (.putfield 108, 3) := by decide +kernel
theorem dX5_puts_66 : decode cX5_puts 66 = .ok (.aload_n 0, 1) := by decide +kernel
theorem dX5_puts_67 : decode cX5_puts 67 = .ok (.getfield 65, 3) := by decide +kernel
theorem dX5_puts_70 : decode cX5_puts 70 = .ok (.iload_n 1, 1) := by decide +kernel
theorem dX5_puts_71 : decode cX5_puts 71 = .ok (.dup2, 1) := by decide +kernel
theorem dX5_puts_72 : decode cX5_puts 72 = .ok (.iaload, 1) := by decide +kernel
theorem dX5_puts_73 : decode cX5_puts 73 = .ok (.iconst 1, 1) := by decide +kernel
theorem dX5_puts_74 : decode cX5_puts 74 = .ok (.iadd, 1) := by decide +kernel
theorem dX5_puts_75 : decode cX5_puts 75 = .ok (.iastore, 1) := by decide +kernel
theorem dX5_puts_76 : decode cX5_puts 76 = .ok (.iconst 1, 1) := by decide +kernel
theorem dX5_puts_77 : decode cX5_puts 77 = .ok (.ireturn, 1) := by decide +kernel
theorem dX5_run_0 : decode cX5_run 0 = .ok (.iload_n 1, 1) := by decide +kernel
theorem dX5_run_1 : decode cX5_run 1 = .ok (.invokestatic 74, 3) := by decide +kernel
theorem dX5_run_4 : decode cX5_run 4 = .ok (.ifCond .eq 14, 3) := by decide +kernel
theorem dX5_run_7 : decode cX5_run 7 = .ok (.iload_n 2, 1) := by decide +kernel
theorem dX5_run_8 : decode cX5_run 8 = .ok (.iconst 1, 1) := by decide +kernel
theorem dX5_run_9 : decode cX5_run 9 = .ok (.if_icmp .lt 9, 3) := by decide +kernel
theorem dX5_run_12 : decode cX5_run 12 = .ok (.iload_n 2, 1) := by decide +kernel
theorem dX5_run_13 : decode cX5_run 13 = .ok (.bipush 100, 2) := by decide +kernel
theorem dX5_run_15 : decode cX5_run 15 = .ok (.if_icmp .le 5, 3) := by decide +kernel
theorem dX5_run_18 : decode cX5_run 18 = .ok (.iconst (-1), 1) := by decide +kernel
theorem dX5_run_19 : decode cX5_run 19 = .ok (.ireturn, 1) := by decide +kernel
theorem dX5_run_20 : decode cX5_run 20 = .ok (.aload_n 0, 1) := by decide +kernel
theorem dX5_run_21 : decode cX5_run 21 = .ok (.getfield 22, 3) := by decide +kernel
theorem dX5_run_24 : decode cX5_run 24 = .ok (.iload_n 1, 1) := by decide +kernel
theorem dX5_run_25 : decode cX5_run 25 = .ok (.baload, 1) := by decide +kernel
theorem dX5_run_26 : decode cX5_run 26 = .ok (.ifCond .eq 6, 3) := by decide +kernel
theorem dX5_run_29 : decode cX5_run 29 = .ok (.bipush (-2), 2) := by decide +kernel
theorem dX5_run_31 : decode cX5_run 31 = .ok (.ireturn, 1) := by decide +kernel
theorem dX5_run_32 : decode cX5_run 32 = .ok (.aload_n 0, 1) := by decide +kernel
theorem dX5_run_33 : decode cX5_run 33 = .ok (.iload_n 1, 1) := by decide +kernel
theorem dX5_run_34 : decode cX5_run 34 = .ok (.invokevirtual 123, 3) := by decide +kernel
theorem dX5_run_37 : decode cX5_run 37 = .ok (.iconst 0, 1) := by decide +kernel
theorem dX5_run_38 : decode cX5_run 38 = .ok (.istore_n 3, 1) := by decide +kernel
theorem dX5_run_39 : decode cX5_run 39 = .ok (.iload_n 3, 1) := by decide +kernel
theorem dX5_run_40 : decode cX5_run 40 = .ok (.iload_n 2, 1) := by decide +kernel
theorem dX5_run_41 : decode cX5_run 41 = .ok (.if_icmp .ge 19, 3) := by decide +kernel
theorem dX5_run_44 : decode cX5_run 44 = .ok (.aload_n 0, 1) := by decide +kernel
theorem dX5_run_45 : decode cX5_run 45 = .ok (.iload_n 1, 1) := by decide +kernel
theorem dX5_run_46 : decode cX5_run 46 = .ok (.iconst 0, 1) := by decide +kernel
theorem dX5_run_47 : decode cX5_run 47 = .ok (.invokevirtual 111, 3) := by decide +kernel
theorem dX5_run_50 : decode cX5_run 50 = .ok (.iconst 1, 1) := by decide +kernel
theorem dX5_run_51 : decode cX5_run 51 = .ok (.if_icmp .ne 9, 3) := by decide +kernel
theorem dX5_run_54 : decode cX5_run 54 = .ok (.iinc 3 1, 3) := by decide +kernel
theorem dX5_run_57 : decode cX5_run 57 = .ok (.goto (-18), 3) := by decide +kernel
theorem dX5_run_60 : decode cX5_run 60 = .ok (.aload_n 0, 1) := by decide +kernel
theorem dX5_run_61 : decode cX5_run 61 = .ok (.getfield 26, 3) := by decide +kernel
theorem dX5_run_64 : decode cX5_run 64 = .ok (.iload_n 1, 1) := by decide +kernel
theorem dX5_run_65 : decode cX5_run 65 = .ok (.dup2, 1) := by decide +kernel
theorem dX5_run_66 : decode cX5_run 66 = .ok (.iaload, 1) := by decide +kernel
theorem dX5_run_67 : decode cX5_run 67 = .ok (.iload_n 3, 1) := by decide +kernel
theorem dX5_run_68 : decode cX5_run 68 = .ok (.iadd, 1) := by decide +kernel
theorem dX5_run_69 : decode cX5_run 69 = .ok (.iastore, 1) := by decide +kernel
theorem dX5_run_70 : decode cX5_run 70 = .ok (.aload_n 0, 1) := by decide +kernel
theorem dX5_run_71 : decode cX5_run 71 = .ok (.getfield 35, 3) := by decide +kernel
theorem dX5_run_74 : decode cX5_run 74 = .ok (.iload_n 1, 1) := by decide +kernel
theorem dX5_run_75 : decode cX5_run 75 = .ok (.aload_n 0, 1) := by decide +kernel
theorem dX5_run_76 : decode cX5_run 76 = .ok (.getfield 35, 3) := by decide +kernel
theorem dX5_run_79 : decode cX5_run 79 = .ok (.iload_n 1, 1) := by decide +kernel
theorem dX5_run_80 : decode cX5_run 80 = .ok (.baload, 1) := by decide +kernel
theorem dX5_run_81 : decode cX5_run 81 = .ok (.ifCond .ne 7, 3) := by decide +kernel
theorem dX5_run_84 : decode cX5_run 84 = .ok (.iload_n 3, 1) := by decide +kernel
theorem dX5_run_85 : decode cX5_run 85 = .ok (.ifCond .le 7, 3) := by decide +kernel
theorem dX5_run_88 : decode cX5_run 88 = .ok (.iconst 1, 1) := by decide +kernel
theorem dX5_run_89 : decode cX5_run 89 = .ok (.goto 4, 3) := by decide +kernel
theorem dX5_run_92 : decode cX5_run 92 = .ok (.iconst 0, 1) := by decide +kernel
theorem dX5_run_93 : decode cX5_run 93 = .ok (.bastore, 1) := by decide +kernel
theorem dX5_run_94 : decode cX5_run 94 = .ok (.iload_n 3, 1) := by decide +kernel
theorem dX5_run_95 : decode cX5_run 95 = .ok (.ireturn, 1) := by decide +kernel
theorem dX5_checkpoint_0 : decode cX5_checkpoint 0 = .ok (.iload_n 1, 1) := by decide +kernel
theorem dX5_checkpoint_1 : decode cX5_checkpoint 1 = .ok (.invokestatic 74, 3) := by decide +kernel
theorem dX5_checkpoint_4 : decode cX5_checkpoint 4 = .ok (.ifCond .ne 5, 3) := by decide +kernel
theorem dX5_checkpoint_7 : decode cX5_checkpoint 7 = .ok (.iconst (-1), 1) := by decide +kernel
theorem dX5_checkpoint_8 : decode cX5_checkpoint 8 = .ok (.ireturn, 1) := by decide +kernel
theorem dX5_checkpoint_9 : decode cX5_checkpoint 9 = .ok (.aload_n 0, 1) := by decide +kernel
theorem dX5_checkpoint_10 : decode cX5_checkpoint 10 = .ok (.getfield 22, 3) := by decide +kernel
theorem dX5_checkpoint_13 : decode cX5_checkpoint 13 = .ok (.iload_n 1, 1) := by decide +kernel
theorem dX5_checkpoint_14 : decode cX5_checkpoint 14 = .ok (.baload, 1) := by decide +kernel
theorem dX5_checkpoint_15 : decode cX5_checkpoint 15 = .ok (.ifCond .eq 6, 3) := by decide +kernel
theorem dX5_checkpoint_18 : decode cX5_checkpoint 18 = .ok (.bipush (-2), 2) := by decide +kernel
theorem dX5_checkpoint_20 : decode cX5_checkpoint 20 = .ok (.ireturn, 1) := by decide +kernel
theorem dX5_checkpoint_21 : decode cX5_checkpoint 21 = .ok (.aload_n 0, 1) := by decide +kernel
theorem dX5_checkpoint_22 : decode cX5_checkpoint 22 = .ok (.iload_n 1, 1) := by decide +kernel
theorem dX5_checkpoint_23 : decode cX5_checkpoint 23 = .ok (.invokevirtual 123, 3) := by decide +kernel
theorem dX5_checkpoint_26 : decode cX5_checkpoint 26 = .ok (.aload_n 0, 1) := by decide +kernel
theorem dX5_checkpoint_27 : decode cX5_checkpoint 27 = .ok (.getfield 96, 3) := by decide +kernel
theorem dX5_checkpoint_30 : decode cX5_checkpoint 30 = .ok (.aload_n 0, 1) := by decide +kernel
theorem dX5_checkpoint_31 : decode cX5_checkpoint 31 = .ok (.getfield 32, 3) := by decide +kernel
theorem dX5_checkpoint_34 : decode cX5_checkpoint 34 = .ok (.iload_n 1, 1) := by decide +kernel
theorem dX5_checkpoint_35 : decode cX5_checkpoint 35 = .ok (.iaload, 1) := by decide +kernel
theorem dX5_checkpoint_36 : decode cX5_checkpoint 36 = .ok (.isub, 1) := by decide +kernel
theorem dX5_checkpoint_37 : decode cX5_checkpoint 37 = .ok (.istore_n 2, 1) := by decide +kernel
theorem dX5_checkpoint_38 : decode cX5_checkpoint 38 = .ok (.aload_n 0, 1) := by decide +kernel
theorem dX5_checkpoint_39 : decode cX5_checkpoint 39 = .ok (.getfield 29, 3) := by decide +kernel
theorem dX5_checkpoint_42 : decode cX5_checkpoint 42 = .ok (.iload_n 1, 1) := by decide +kernel
theorem dX5_checkpoint_43 : decode cX5_checkpoint 43 = .ok (.aload_n 0, 1) := by decide +kernel
theorem dX5_checkpoint_44 : decode cX5_checkpoint 44 = .ok (.getfield 26, 3) := by decide +kernel
theorem dX5_checkpoint_47 : decode cX5_checkpoint 47 = .ok (.iload_n 1, 1) := by decide +kernel
theorem dX5_checkpoint_48 : decode cX5_checkpoint 48 = .ok (.iaload, 1) := by decide +kernel
theorem dX5_checkpoint_49 : decode cX5_checkpoint 49 = .ok (.iastore, 1) := by decide +kernel
theorem dX5_checkpoint_50 : decode cX5_checkpoint 50 = .ok (.aload_n 0, 1) := by decide +kernel
theorem dX5_checkpoint_51 : decode cX5_checkpoint 51 = .ok (.getfield 32, 3) := by decide +kernel
theorem dX5_checkpoint_54 : decode cX5_checkpoint 54 = .ok (.iload_n 1, 1) := by decide +kernel
theorem dX5_checkpoint_55 : decode cX5_checkpoint 55 = .ok (.aload_n 0, 1) := by decide +kernel
theorem dX5_checkpoint_56 : decode cX5_checkpoint 56 = .ok (.getfield 96, 3) := by decide +kernel
theorem dX5_checkpoint_59 : decode cX5_checkpoint 59 = .ok (.iastore, 1) := by decide +kernel
theorem dX5_checkpoint_60 : decode cX5_checkpoint 60 = .ok (.iload_n 2, 1) := by decide +kernel
theorem dX5_checkpoint_61 : decode cX5_checkpoint 61 = .ok (.ireturn, 1) := by decide +kernel
theorem dX5_crash_0 : decode cX5_crash 0 = .ok (.iload_n 1, 1) := by decide +kernel
theorem dX5_crash_1 : decode cX5_crash 1 = .ok (.invokestatic 74, 3) := by decide +kernel
theorem dX5_crash_4 : decode cX5_crash 4 = .ok (.ifCond .eq 12, 3) := by decide +kernel
theorem dX5_crash_7 : decode cX5_crash 7 = .ok (.aload_n 0, 1) := by decide +kernel
theorem dX5_crash_8 : decode cX5_crash 8 = .ok (.getfield 22, 3) := by decide +kernel
theorem dX5_crash_11 : decode cX5_crash 11 = .ok (.iload_n 1, 1) := by decide +kernel
theorem dX5_crash_12 : decode cX5_crash 12 = .ok (.baload, 1) := by decide +kernel
theorem dX5_crash_13 : decode cX5_crash 13 = .ok (.ifCond .eq 5, 3) := by decide +kernel
theorem dX5_crash_16 : decode cX5_crash 16 = .ok (.iconst 0, 1) := by decide +kernel
theorem dX5_crash_17 : decode cX5_crash 17 = .ok (.ireturn, 1) := by decide +kernel
theorem dX5_crash_18 : decode cX5_crash 18 = .ok (.aload_n 0, 1) := by decide +kernel
theorem dX5_crash_19 : decode cX5_crash 19 = .ok (.getfield 22, 3) := by decide +kernel
theorem dX5_crash_22 : decode cX5_crash 22 = .ok (.iload_n 1, 1) := by decide +kernel
theorem dX5_crash_23 : decode cX5_crash 23 = .ok (.iconst 1, 1) := by decide +kernel
theorem dX5_crash_24 : decode cX5_crash 24 = .ok (.bastore, 1) := by decide +kernel
theorem dX5_crash_25 : decode cX5_crash 25 = .ok (.iconst 1, 1) := by decide +kernel
theorem dX5_crash_26 : decode cX5_crash 26 = .ok (.ireturn, 1) := by decide +kernel
theorem dX5_recover_0 : decode cX5_recover 0 = .ok (.iload_n 1, 1) := by decide +kernel
theorem dX5_recover_1 : decode cX5_recover 1 = .ok (.invokestatic 74, 3) := by decide +kernel
theorem dX5_recover_4 : decode cX5_recover 4 = .ok (.ifCond .ne 5, 3) := by decide +kernel
theorem dX5_recover_7 : decode cX5_recover 7 = .ok (.iconst (-1), 1) := by decide +kernel
theorem dX5_recover_8 : decode cX5_recover 8 = .ok (.ireturn, 1) := by decide +kernel
theorem dX5_recover_9 : decode cX5_recover 9 = .ok (.aload_n 0, 1) := by decide +kernel
theorem dX5_recover_10 : decode cX5_recover 10 = .ok (.getfield 22, 3) := by decide +kernel
theorem dX5_recover_13 : decode cX5_recover 13 = .ok (.iload_n 1, 1) := by decide +kernel
theorem dX5_recover_14 : decode cX5_recover 14 = .ok (.baload, 1) := by decide +kernel
theorem dX5_recover_15 : decode cX5_recover 15 = .ok (.ifCond .ne 6, 3) := by decide +kernel
theorem dX5_recover_18 : decode cX5_recover 18 = .ok (.bipush (-3), 2) := by decide +kernel
theorem dX5_recover_20 : decode cX5_recover 20 = .ok (.ireturn, 1) := by decide +kernel
theorem dX5_recover_21 : decode cX5_recover 21 = .ok (.aload_n 0, 1) := by decide +kernel
theorem dX5_recover_22 : decode cX5_recover 22 = .ok (.getfield 22, 3) := by decide +kernel
theorem dX5_recover_25 : decode cX5_recover 25 = .ok (.iload_n 1, 1) := by decide +kernel
theorem dX5_recover_26 : decode cX5_recover 26 = .ok (.iconst 0, 1) := by decide +kernel
theorem dX5_recover_27 : decode cX5_recover 27 = .ok (.bastore, 1) := by decide +kernel
theorem dX5_recover_28 : decode cX5_recover 28 = .ok (.aload_n 0, 1) := by decide +kernel
theorem dX5_recover_29 : decode cX5_recover 29 = .ok (.getfield 26, 3) := by decide +kernel
theorem dX5_recover_32 : decode cX5_recover 32 = .ok (.iload_n 1, 1) := by decide +kernel
theorem dX5_recover_33 : decode cX5_recover 33 = .ok (.aload_n 0, 1) := by decide +kernel
theorem dX5_recover_34 : decode cX5_recover 34 = .ok (.getfield 29, 3) := by decide +kernel
theorem dX5_recover_37 : decode cX5_recover 37 = .ok (.iload_n 1, 1) := by decide +kernel
theorem dX5_recover_38 : decode cX5_recover 38 = .ok (.iaload, 1) := by decide +kernel
theorem dX5_recover_39 : decode cX5_recover 39 = .ok (.iastore, 1) := by decide +kernel
theorem dX5_recover_40 : decode cX5_recover 40 = .ok (.aload_n 0, 1) := by decide +kernel
theorem dX5_recover_41 : decode cX5_recover 41 = .ok (.iload_n 1, 1) := by decide +kernel
theorem dX5_recover_42 : decode cX5_recover 42 = .ok (.invokevirtual 115, 3) := by decide +kernel
theorem dX5_recover_45 : decode cX5_recover 45 = .ok (.ireturn, 1) := by decide +kernel
theorem dX5_register_0 : decode cX5_register 0 = .ok (.iload_n 1, 1) := by decide +kernel
theorem dX5_register_1 : decode cX5_register 1 = .ok (.invokestatic 74, 3) := by decide +kernel
theorem dX5_register_4 : decode cX5_register 4 = .ok (.ifCond .eq 19, 3) := by decide +kernel
theorem dX5_register_7 : decode cX5_register 7 = .ok (.iload_n 2, 1) := by decide +kernel
theorem dX5_register_8 : decode cX5_register 8 = .ok (.invokestatic 82, 3) := by decide +kernel
theorem dX5_register_11 : decode cX5_register 11 = .ok (.ifCond .eq 12, 3) := by decide +kernel
theorem dX5_register_14 : decode cX5_register 14 = .ok (.aload_n 0, 1) := by decide +kernel
theorem dX5_register_15 : decode cX5_register 15 = .ok (.getfield 22, 3) := by decide +kernel
theorem dX5_register_18 : decode cX5_register 18 = .ok (.iload_n 1, 1) := by decide +kernel
theorem dX5_register_19 : decode cX5_register 19 = .ok (.baload, 1) := by decide +kernel
theorem dX5_register_20 : decode cX5_register 20 = .ok (.ifCond .eq 5, 3) := by decide +kernel
theorem dX5_register_23 : decode cX5_register 23 = .ok (.iconst 0, 1) := by decide +kernel
theorem dX5_register_24 : decode cX5_register 24 = .ok (.ireturn, 1) := by decide +kernel
theorem dX5_register_25 : decode cX5_register 25 = .ok (.aload_n 0, 1) := by decide +kernel
theorem dX5_register_26 : decode cX5_register 26 = .ok (.iload_n 1, 1) := by decide +kernel
theorem dX5_register_27 : decode cX5_register 27 = .ok (.invokevirtual 123, 3) := by decide +kernel
theorem dX5_register_30 : decode cX5_register 30 = .ok (.aload_n 0, 1) := by decide +kernel
theorem dX5_register_31 : decode cX5_register 31 = .ok (.getfield 68, 3) := by decide +kernel
theorem dX5_register_34 : decode cX5_register 34 = .ok (.iload_n 2, 1) := by decide +kernel
theorem dX5_register_35 : decode cX5_register 35 = .ok (.iaload, 1) := by decide +kernel
theorem dX5_register_36 : decode cX5_register 36 = .ok (.ireturn, 1) := by decide +kernel
theorem dX5_state_0 : decode cX5_state 0 = .ok (.iload_n 1, 1) := by decide +kernel
theorem dX5_state_1 : decode cX5_state 1 = .ok (.invokestatic 74, 3) := by decide +kernel
theorem dX5_state_4 : decode cX5_state 4 = .ok (.ifCond .eq 12, 3) := by decide +kernel
theorem dX5_state_7 : decode cX5_state 7 = .ok (.iload_n 2, 1) := by decide +kernel
theorem dX5_state_8 : decode cX5_state 8 = .ok (.ifCond .lt 8, 3) := by decide +kernel
theorem dX5_state_11 : decode cX5_state 11 = .ok (.iload_n 2, 1) := by decide +kernel
theorem dX5_state_12 : decode cX5_state 12 = .ok (.iconst 3, 1) := by decide +kernel
theorem dX5_state_13 : decode cX5_state 13 = .ok (.if_icmp .le 5, 3) := by decide +kernel
theorem dX5_state_16 : decode cX5_state 16 = .ok (.iconst (-1), 1) := by decide +kernel
theorem dX5_state_17 : decode cX5_state 17 = .ok (.ireturn, 1) := by decide +kernel
theorem dX5_state_18 : decode cX5_state 18 = .ok (.aload_n 0, 1) := by decide +kernel
theorem dX5_state_19 : decode cX5_state 19 = .ok (.getfield 22, 3) := by decide +kernel
theorem dX5_state_22 : decode cX5_state 22 = .ok (.iload_n 1, 1) := by decide +kernel
theorem dX5_state_23 : decode cX5_state 23 = .ok (.baload, 1) := by decide +kernel
theorem dX5_state_24 : decode cX5_state 24 = .ok (.ifCond .eq 6, 3) := by decide +kernel
theorem dX5_state_27 : decode cX5_state 27 = .ok (.bipush (-2), 2) := by decide +kernel
theorem dX5_state_29 : decode cX5_state 29 = .ok (.ireturn, 1) := by decide +kernel
theorem dX5_state_30 : decode cX5_state 30 = .ok (.aload_n 0, 1) := by decide +kernel
theorem dX5_state_31 : decode cX5_state 31 = .ok (.iload_n 1, 1) := by decide +kernel
theorem dX5_state_32 : decode cX5_state 32 = .ok (.invokevirtual 123, 3) := by decide +kernel
theorem dX5_state_35 : decode cX5_state 35 = .ok (.iload_n 2, 1) := by decide +kernel
theorem dX5_state_36 : decode cX5_state 36 = .ok (.ifCond .ne 10, 3) := by decide +kernel
theorem dX5_state_39 : decode cX5_state 39 = .ok (.aload_n 0, 1) := by decide +kernel
theorem dX5_state_40 : decode cX5_state 40 = .ok (.getfield 88, 3) := by decide +kernel
theorem dX5_state_43 : decode cX5_state 43 = .ok (.goto 31, 3) := by decide +kernel
theorem dX5_state_46 : decode cX5_state 46 = .ok (.iload_n 2, 1) := by decide +kernel
theorem dX5_state_47 : decode cX5_state 47 = .ok (.iconst 1, 1) := by decide +kernel
theorem dX5_state_48 : decode cX5_state 48 = .ok (.if_icmp .ne 10, 3) := by decide +kernel
theorem dX5_state_51 : decode cX5_state 51 = .ok (.aload_n 0, 1) := by decide +kernel
theorem dX5_state_52 : decode cX5_state 52 = .ok (.getfield 105, 3) := by decide +kernel
theorem dX5_state_55 : decode cX5_state 55 = .ok (.goto 19, 3) := by decide +kernel
theorem dX5_state_58 : decode cX5_state 58 = .ok (.iload_n 2, 1) := by decide +kernel
theorem dX5_state_59 : decode cX5_state 59 = .ok (.iconst 2, 1) := by decide +kernel
theorem dX5_state_60 : decode cX5_state 60 = .ok (.if_icmp .ne 10, 3) := by decide +kernel
theorem dX5_state_63 : decode cX5_state 63 = .ok (.aload_n 0, 1) := by decide +kernel
theorem dX5_state_64 : decode cX5_state 64 = .ok (.getfield 96, 3) := by decide +kernel
theorem dX5_state_67 : decode cX5_state 67 = .ok (.goto 7, 3) := by decide +kernel
theorem dX5_state_70 : decode cX5_state 70 = .ok (.aload_n 0, 1) := by decide +kernel
theorem dX5_state_71 : decode cX5_state 71 = .ok (.getfield 102, 3) := by decide +kernel
theorem dX5_state_74 : decode cX5_state 74 = .ok (.ireturn, 1) := by decide +kernel
theorem dX5_sent_0 : decode cX5_sent 0 = .ok (.iload_n 1, 1) := by decide +kernel
theorem dX5_sent_1 : decode cX5_sent 1 = .ok (.iload_n 2, 1) := by decide +kernel
theorem dX5_sent_2 : decode cX5_sent 2 = .ok (.invokestatic 78, 3) := by decide +kernel
theorem dX5_sent_5 : decode cX5_sent 5 = .ok (.ifCond .ne 5, 3) := by decide +kernel
theorem dX5_sent_8 : decode cX5_sent 8 = .ok (.iconst (-1), 1) := by decide +kernel
theorem dX5_sent_9 : decode cX5_sent 9 = .ok (.ireturn, 1) := by decide +kernel
theorem dX5_sent_10 : decode cX5_sent 10 = .ok (.aload_n 0, 1) := by decide +kernel
theorem dX5_sent_11 : decode cX5_sent 11 = .ok (.getfield 22, 3) := by decide +kernel
theorem dX5_sent_14 : decode cX5_sent 14 = .ok (.iload_n 1, 1) := by decide +kernel
theorem dX5_sent_15 : decode cX5_sent 15 = .ok (.baload, 1) := by decide +kernel
theorem dX5_sent_16 : decode cX5_sent 16 = .ok (.ifCond .eq 6, 3) := by decide +kernel
theorem dX5_sent_19 : decode cX5_sent 19 = .ok (.bipush (-2), 2) := by decide +kernel
theorem dX5_sent_21 : decode cX5_sent 21 = .ok (.ireturn, 1) := by decide +kernel
theorem dX5_sent_22 : decode cX5_sent 22 = .ok (.aload_n 0, 1) := by decide +kernel
theorem dX5_sent_23 : decode cX5_sent 23 = .ok (.iload_n 1, 1) := by decide +kernel
theorem dX5_sent_24 : decode cX5_sent 24 = .ok (.invokevirtual 123, 3) := by decide +kernel
theorem dX5_sent_27 : decode cX5_sent 27 = .ok (.aload_n 0, 1) := by decide +kernel
theorem dX5_sent_28 : decode cX5_sent 28 = .ok (.getfield 71, 3) := by decide +kernel
theorem dX5_sent_31 : decode cX5_sent 31 = .ok (.iload_n 2, 1) := by decide +kernel
theorem dX5_sent_32 : decode cX5_sent 32 = .ok (.iaload, 1) := by decide +kernel
theorem dX5_sent_33 : decode cX5_sent 33 = .ok (.ireturn, 1) := by decide +kernel
theorem dX5_kept_0 : decode cX5_kept 0 = .ok (.iload_n 1, 1) := by decide +kernel
theorem dX5_kept_1 : decode cX5_kept 1 = .ok (.invokestatic 74, 3) := by decide +kernel
theorem dX5_kept_4 : decode cX5_kept 4 = .ok (.ifCond .eq 11, 3) := by decide +kernel
theorem dX5_kept_7 : decode cX5_kept 7 = .ok (.aload_n 0, 1) := by decide +kernel
theorem dX5_kept_8 : decode cX5_kept 8 = .ok (.iload_n 1, 1) := by decide +kernel
theorem dX5_kept_9 : decode cX5_kept 9 = .ok (.invokevirtual 115, 3) := by decide +kernel
theorem dX5_kept_12 : decode cX5_kept 12 = .ok (.goto 4, 3) := by decide +kernel
theorem dX5_kept_15 : decode cX5_kept 15 = .ok (.iconst (-1), 1) := by decide +kernel
theorem dX5_kept_16 : decode cX5_kept 16 = .ok (.ireturn, 1) := by decide +kernel
theorem dX5_source_0 : decode cX5_source 0 = .ok (.iload_n 1, 1) := by decide +kernel
theorem dX5_source_1 : decode cX5_source 1 = .ok (.invokestatic 74, 3) := by decide +kernel
theorem dX5_source_4 : decode cX5_source 4 = .ok (.ifCond .ne 5, 3) := by decide +kernel
theorem dX5_source_7 : decode cX5_source 7 = .ok (.iconst (-1), 1) := by decide +kernel
theorem dX5_source_8 : decode cX5_source 8 = .ok (.ireturn, 1) := by decide +kernel
theorem dX5_source_9 : decode cX5_source 9 = .ok (.iload_n 2, 1) := by decide +kernel
theorem dX5_source_10 : decode cX5_source 10 = .ok (.aload_n 0, 1) := by decide +kernel
theorem dX5_source_11 : decode cX5_source 11 = .ok (.getfield 32, 3) := by decide +kernel
theorem dX5_source_14 : decode cX5_source 14 = .ok (.iload_n 1, 1) := by decide +kernel
theorem dX5_source_15 : decode cX5_source 15 = .ok (.iaload, 1) := by decide +kernel
theorem dX5_source_16 : decode cX5_source 16 = .ok (.if_icmp .le 30, 3) := by decide +kernel
theorem dX5_source_19 : decode cX5_source 19 = .ok (.iload_n 2, 1) := by decide +kernel
theorem dX5_source_20 : decode cX5_source 20 = .ok (.aload_n 0, 1) := by decide +kernel
theorem dX5_source_21 : decode cX5_source 21 = .ok (.getfield 41, 3) := by decide +kernel
theorem dX5_source_24 : decode cX5_source 24 = .ok (.iload_n 1, 1) := by decide +kernel
theorem dX5_source_25 : decode cX5_source 25 = .ok (.iaload, 1) := by decide +kernel
theorem dX5_source_26 : decode cX5_source 26 = .ok (.if_icmp .gt 20, 3) := by decide +kernel
theorem dX5_source_29 : decode cX5_source 29 = .ok (.aload_n 0, 1) := by decide +kernel
theorem dX5_source_30 : decode cX5_source 30 = .ok (.getfield 47, 3) := by decide +kernel
theorem dX5_source_33 : decode cX5_source 33 = .ok (.sipush 512, 3) := by decide +kernel
theorem dX5_source_36 : decode cX5_source 36 = .ok (.iload_n 1, 1) := by decide +kernel
theorem dX5_source_37 : decode cX5_source 37 = .ok (.imul, 1) := by decide +kernel
theorem dX5_source_38 : decode cX5_source 38 = .ok (.iload_n 2, 1) := by decide +kernel
theorem dX5_source_39 : decode cX5_source 39 = .ok (.iadd, 1) := by decide +kernel
theorem dX5_source_40 : decode cX5_source 40 = .ok (.iconst 1, 1) := by decide +kernel
theorem dX5_source_41 : decode cX5_source 41 = .ok (.isub, 1) := by decide +kernel
theorem dX5_source_42 : decode cX5_source 42 = .ok (.iaload, 1) := by decide +kernel
theorem dX5_source_43 : decode cX5_source 43 = .ok (.goto 5, 3) := by decide +kernel
theorem dX5_source_46 : decode cX5_source 46 = .ok (.bipush (-3), 2) := by decide +kernel
theorem dX5_source_48 : decode cX5_source 48 = .ok (.ireturn, 1) := by decide +kernel
theorem dX5_waiting_0 : decode cX5_waiting 0 = .ok (.iload_n 1, 1) := by decide +kernel
theorem dX5_waiting_1 : decode cX5_waiting 1 = .ok (.iload_n 2, 1) := by decide +kernel
theorem dX5_waiting_2 : decode cX5_waiting 2 = .ok (.invokestatic 78, 3) := by decide +kernel
theorem dX5_waiting_5 : decode cX5_waiting 5 = .ok (.ifCond .eq 27, 3) := by decide +kernel
theorem dX5_waiting_8 : decode cX5_waiting 8 = .ok (.aload_n 0, 1) := by decide +kernel
theorem dX5_waiting_9 : decode cX5_waiting 9 = .ok (.getfield 50, 3) := by decide +kernel
theorem dX5_waiting_12 : decode cX5_waiting 12 = .ok (.iconst 3, 1) := by decide +kernel
theorem dX5_waiting_13 : decode cX5_waiting 13 = .ok (.iload_n 1, 1) := by decide +kernel
theorem dX5_waiting_14 : decode cX5_waiting 14 = .ok (.imul, 1) := by decide +kernel
theorem dX5_waiting_15 : decode cX5_waiting 15 = .ok (.iload_n 2, 1) := by decide +kernel
theorem dX5_waiting_16 : decode cX5_waiting 16 = .ok (.iadd, 1) := by decide +kernel
theorem dX5_waiting_17 : decode cX5_waiting 17 = .ok (.iaload, 1) := by decide +kernel
theorem dX5_waiting_18 : decode cX5_waiting 18 = .ok (.aload_n 0, 1) := by decide +kernel
theorem dX5_waiting_19 : decode cX5_waiting 19 = .ok (.getfield 53, 3) := by decide +kernel
theorem dX5_waiting_22 : decode cX5_waiting 22 = .ok (.iconst 3, 1) := by decide +kernel
theorem dX5_waiting_23 : decode cX5_waiting 23 = .ok (.iload_n 1, 1) := by decide +kernel
theorem dX5_waiting_24 : decode cX5_waiting 24 = .ok (.imul, 1) := by decide +kernel
theorem dX5_waiting_25 : decode cX5_waiting 25 = .ok (.iload_n 2, 1) := by decide +kernel
theorem dX5_waiting_26 : decode cX5_waiting 26 = .ok (.iadd, 1) := by decide +kernel
theorem dX5_waiting_27 : decode cX5_waiting 27 = .ok (.iaload, 1) := by decide +kernel
theorem dX5_waiting_28 : decode cX5_waiting 28 = .ok (.isub, 1) := by decide +kernel
theorem dX5_waiting_29 : decode cX5_waiting 29 = .ok (.goto 4, 3) := by decide +kernel
theorem dX5_waiting_32 : decode cX5_waiting 32 = .ok (.iconst (-1), 1) := by decide +kernel
theorem dX5_waiting_33 : decode cX5_waiting 33 = .ok (.ireturn, 1) := by decide +kernel
theorem dX5_held_0 : decode cX5_held 0 = .ok (.iload_n 1, 1) := by decide +kernel
theorem dX5_held_1 : decode cX5_held 1 = .ok (.invokestatic 74, 3) := by decide +kernel
theorem dX5_held_4 : decode cX5_held 4 = .ok (.ifCond .eq 12, 3) := by decide +kernel
theorem dX5_held_7 : decode cX5_held 7 = .ok (.aload_n 0, 1) := by decide +kernel
theorem dX5_held_8 : decode cX5_held 8 = .ok (.getfield 38, 3) := by decide +kernel
theorem dX5_held_11 : decode cX5_held 11 = .ok (.iload_n 1, 1) := by decide +kernel
theorem dX5_held_12 : decode cX5_held 12 = .ok (.iaload, 1) := by decide +kernel
theorem dX5_held_13 : decode cX5_held 13 = .ok (.goto 4, 3) := by decide +kernel
theorem dX5_held_16 : decode cX5_held 16 = .ok (.iconst (-1), 1) := by decide +kernel
theorem dX5_held_17 : decode cX5_held 17 = .ok (.ireturn, 1) := by decide +kernel
theorem dX5_outputs_0 : decode cX5_outputs 0 = .ok (.aload_n 0, 1) := by decide +kernel
theorem dX5_outputs_1 : decode cX5_outputs 1 = .ok (.getfield 108, 3) := by decide +kernel
theorem dX5_outputs_4 : decode cX5_outputs 4 = .ok (.ireturn, 1) := by decide +kernel
theorem dX5_author_0 : decode cX5_author 0 = .ok (.iload_n 1, 1) := by decide +kernel
theorem dX5_author_1 : decode cX5_author 1 = .ok (.ifCond .lt 20, 3) := by decide +kernel
theorem dX5_author_4 : decode cX5_author 4 = .ok (.iload_n 1, 1) := by decide +kernel
theorem dX5_author_5 : decode cX5_author 5 = .ok (.aload_n 0, 1) := by decide +kernel
theorem dX5_author_6 : decode cX5_author 6 = .ok (.getfield 108, 3) := by decide +kernel
theorem dX5_author_9 : decode cX5_author 9 = .ok (.if_icmp .ge 12, 3) := by decide +kernel
theorem dX5_author_12 : decode cX5_author 12 = .ok (.aload_n 0, 1) := by decide +kernel
theorem dX5_author_13 : decode cX5_author 13 = .ok (.getfield 59, 3) := by decide +kernel
theorem dX5_author_16 : decode cX5_author 16 = .ok (.iload_n 1, 1) := by decide +kernel
theorem dX5_author_17 : decode cX5_author 17 = .ok (.iaload, 1) := by decide +kernel
theorem dX5_author_18 : decode cX5_author 18 = .ok (.goto 4, 3) := by decide +kernel
theorem dX5_author_21 : decode cX5_author 21 = .ok (.iconst (-1), 1) := by decide +kernel
theorem dX5_author_22 : decode cX5_author 22 = .ok (.ireturn, 1) := by decide +kernel
theorem dX5_output_0 : decode cX5_output 0 = .ok (.iload_n 1, 1) := by decide +kernel
theorem dX5_output_1 : decode cX5_output 1 = .ok (.ifCond .lt 20, 3) := by decide +kernel
theorem dX5_output_4 : decode cX5_output 4 = .ok (.iload_n 1, 1) := by decide +kernel
theorem dX5_output_5 : decode cX5_output 5 = .ok (.aload_n 0, 1) := by decide +kernel
theorem dX5_output_6 : decode cX5_output 6 = .ok (.getfield 108, 3) := by decide +kernel
theorem dX5_output_9 : decode cX5_output 9 = .ok (.if_icmp .ge 12, 3) := by decide +kernel
theorem dX5_output_12 : decode cX5_output 12 = .ok (.aload_n 0, 1) := by decide +kernel
theorem dX5_output_13 : decode cX5_output 13 = .ok (.getfield 62, 3) := by decide +kernel
theorem dX5_output_16 : decode cX5_output 16 = .ok (.iload_n 1, 1) := by decide +kernel
theorem dX5_output_17 : decode cX5_output 17 = .ok (.iaload, 1) := by decide +kernel
theorem dX5_output_18 : decode cX5_output 18 = .ok (.goto 4, 3) := by decide +kernel
theorem dX5_output_21 : decode cX5_output 21 = .ok (.iconst 0, 1) := by decide +kernel
theorem dX5_output_22 : decode cX5_output 22 = .ok (.ireturn, 1) := by decide +kernel
end
section
-- THE MEMORY: the 97 cells of the class (0..74) and of the reference (75..96), at addresses 'ad'; what they hold is ints alone: I (cell, place)
abbrev Mm : Type := Nat → Nat → Int32
def u1 (I : Mm) (k : Nat) (f : Nat → Int32) : Mm := fun a => if a = k then f else I a
def u2 (I : Mm) (k j : Nat) (v : Int32) : Mm := u1 I k (upd (I k) j v)
theorem u1_s {I : Mm} {k : Nat} {f : Nat → Int32} : u1 I k f k = f := by simp [u1]
theorem u1_n {I : Mm} {k a : Nat} {f : Nat → Int32} (h : a ≠ k) : u1 I k f a = I a := by simp [u1, h]
theorem u2_s {I : Mm} {k j : Nat} {v : Int32} : u2 I k j v k j = v := by simp [u2, u1, upd]
theorem u2_k {I : Mm} {k a j : Nat} {v : Int32} (h : a ≠ k) : u2 I k j v a = I a := by simp [u2, u1, h]
theorem u2_j {I : Mm} {k j b : Nat} {v : Int32} (h : b ≠ j) : u2 I k j v k b = I k b := by simp [u2, u1, upd, h]
-- kinds: .inl 0 the group, 1 a member, 2 a program, 3 a state, 4 a row, 5 the reference, 6 the members' array, 7 the channels' array, 8 a boolean[3]; .inr n an int[n]
def kdl : List (Nat ⊕ Nat) := [.inl 0, .inl 6, .inl 1, .inl 2, .inr 16, .inr 16, .inr 16, .inl 3, .inr 4, .inr 3, .inl 3, .inr 4, .inr 3, .inl 4, .inr 20, .inr 20, .inl 1, .inl 2, .inr 16, .inr 16, .inr 16, .inl 3, .inr 4, .inr 3, .inl 3, .inr 4, .inr 3, .inl 4, .inr 20, .inr 20, .inl 1, .inl 2, .inr 16, .inr 16, .inr 16, .inl 3, .inr 4, .inr 3, .inl 3, .inr 4, .inr 3, .inl 4, .inr 20, .inr 20, .inl 7, .inl 4, .inr 8, .inr 8, .inl 4, .inr 8, .inr 8, .inl 4, .inr 8, .inr 8, .inl 4, .inr 8, .inr 8, .inl 4, .inr 8, .inr 8, .inl 4, .inr 8, .inr 8, .inl 4, .inr 8, .inr 8, .inl 4, .inr 8, .inr 8, .inl 4, .inr 8, .inr 8, .inl 4, .inr 60, .inr 60, .inl 5, .inr 3, .inr 48, .inr 48, .inr 48, .inl 8, .inr 3, .inr 3, .inr 3, .inl 8, .inr 3, .inr 3, .inr 1536, .inr 1536, .inr 9, .inr 9, .inr 72, .inr 60, .inr 60, .inr 3, .inr 4, .inr 3]
def kd (k : Nat) : Nat ⊕ Nat := kdl.getD k (.inr 0)
def tyl (cs : Nat → ClassId) : List (ClassId × FieldType) := [(cs 0, .int), (cs 1, .boolean), (cs 2, .object RX0), (cs 3, .object RX1)]
def gs (cs : Nat → ClassId) (ad : Nat → Nat) (I : Mm) (k : Nat) : va_E := match kd k with
  | .inr n => .inl (cs 0, n, .inl (I k))
  | .inl 0 => .inr (4, [.ref (ad 1), .ref (ad 44), .ref (ad 72)])
  | .inl 1 => .inr (0, [.ref (ad (k + 1)), .ref (ad (k + 5)), .ref (ad (k + 8)), .ref (ad (k + 11)), .int (I k 0), .int (I k 1), .int (I k 2), .int (I k 3)])
  | .inl 2 => .inr (2, [.ref (ad (k + 1)), .ref (ad (k + 2)), .ref (ad (k + 3)), .int (I k 0)])
  | .inl 3 => .inr (3, [.ref (ad (k + 1)), .ref (ad (k + 2)), .int (I k 0), .int (I k 1), .int (I k 2), .int (I k 3)])
  | .inl 4 => .inr (1, [.ref (ad (k + 1)), .ref (ad (k + 2)), .int (I k 0), .int (I k 1)])
  | .inl 5 => .inr (5, [.ref (ad 76), .ref (ad 77), .ref (ad 78), .ref (ad 79), .ref (ad 80), .ref (ad 81), .ref (ad 82), .ref (ad 83), .ref (ad 84), .ref (ad 85), .ref (ad 86), .ref (ad 87), .ref (ad 88), .ref (ad 89), .ref (ad 90), .ref (ad 91), .int (I k 0), .ref (ad 92), .ref (ad 93), .ref (ad 94), .ref (ad 95), .ref (ad 96), .int (I k 1), .int (I k 2), .int (I k 3), .int (I k 4)])
  | .inl 6 => .inl (cs 2, 3, .inr (.inr (.inr (.inr (fun i => some (ad (2 + 14 * i)))))))
  | .inl 7 => .inl (cs 3, 9, .inr (.inr (.inr (.inr (fun i => some (ad (45 + 3 * i)))))))
  | .inl _ => .inl (cs 1, 3, .inl (I k))
theorem gs_congr {cs : Nat → ClassId} {ad : Nat → Nat} {I J : Mm} {a : Nat} (h : I a = J a) : gs cs ad I a = gs cs ad J a := by
  unfold gs
  rw [h]
def mw (N : Nat) (ad : Nat → Nat) (g : Nat → va_E) : va_W := (List.range N).map (fun k => (ad k, g k))
theorem mw_at {N k : Nat} {ad : Nat → Nat} {g : Nat → va_E} (h : k < N) : (mw N ad g)[k]? = some (ad k, g k) := by simp [mw, h]
theorem mw_of {N k : Nat} {ad : Nat → Nat} {g : Nat → va_E} {q : Nat × va_E} (h : (mw N ad g)[k]? = some q) : k < N ∧ q = (ad k, g k) := by
  by_cases hk : k < N
  · rw [mw_at hk] at h
    exact ⟨hk, (Option.some.inj h).symm⟩
  · simp [mw, hk] at h
theorem mw_set {N k : Nat} {ad : Nat → Nat} {g g' : Nat → va_E} {e : va_E} (hk : k < N) (h1 : g' k = e) (h2 : ∀ j, j ≠ k → g' j = g j) : (mw N ad g).set k (ad k, e) = mw N ad g' := by
  apply List.ext_getElem?
  intro i
  rw [List.getElem?_set]
  by_cases hi : k = i
  · subst hi
    rw [if_pos rfl, mw_at hk, h1]
    simp [mw, hk]
  · rw [if_neg hi]
    by_cases hN : i < N
    · rw [mw_at hN, mw_at hN, h2 i (fun h => hi h.symm)]
    · simp [mw, hN]
def mA (ad : Nat → Nat) : Nat → Prop := fun q => ∃ k, k < 97 ∧ q = ad k
def mi (ad : Nat → Nat) : Prop := ∀ i j, i < 97 → j < 97 → ad i = ad j → i = j
theorem mD {ad : Nat → Nat} {g : Nat → va_E} (h : mi ad) : va_D (mA ad) (mw 97 ad g) := by
  refine ⟨fun i j p q hp hq e => ?_, fun k q hq => ?_⟩
  · obtain ⟨h1, rfl⟩ := mw_of hp
    obtain ⟨h2, rfl⟩ := mw_of hq
    exact h i j h1 h2 e
  · obtain ⟨h1, rfl⟩ := mw_of hq
    exact ⟨k, h1, rfl⟩
def isA (k n : Nat) : Prop := k < 97 ∧ kd k = .inr n
def isO (k c : Nat) : Prop := k < 97 ∧ kd k = .inl c
theorem mq_A {cs : Nat → ClassId} {ad : Nat → Nat} {I : Mm} {k n : Nat} (h : isA k n) : (mw 97 ad (gs cs ad I))[k]? = some (ad k, .inl (cs 0, n, .inl (I k))) := by
  rw [mw_at h.1, gs, h.2] <;> rfl
theorem mq_Z {cs : Nat → ClassId} {ad : Nat → Nat} {I : Mm} {k : Nat} (h : isO k 8) : (mw 97 ad (gs cs ad I))[k]? = some (ad k, .inl (cs 1, 3, .inl (I k))) := by
  rw [mw_at h.1, gs, h.2] <;> rfl
theorem mq_G {cs : Nat → ClassId} {ad : Nat → Nat} {I : Mm} {k : Nat} (h : isO k 0) : (mw 97 ad (gs cs ad I))[k]? = some (ad k, .inr (4, [.ref (ad 1), .ref (ad 44), .ref (ad 72)])) := by
  rw [mw_at h.1, gs, h.2] <;> rfl
theorem mq_M {cs : Nat → ClassId} {ad : Nat → Nat} {I : Mm} {k : Nat} (h : isO k 1) : (mw 97 ad (gs cs ad I))[k]? = some (ad k, .inr (0, [.ref (ad (k + 1)), .ref (ad (k + 5)), .ref (ad (k + 8)), .ref (ad (k + 11)), .int (I k 0), .int (I k 1), .int (I k 2), .int (I k 3)])) := by
  rw [mw_at h.1, gs, h.2] <;> rfl
theorem mq_P {cs : Nat → ClassId} {ad : Nat → Nat} {I : Mm} {k : Nat} (h : isO k 2) : (mw 97 ad (gs cs ad I))[k]? = some (ad k, .inr (2, [.ref (ad (k + 1)), .ref (ad (k + 2)), .ref (ad (k + 3)), .int (I k 0)])) := by
  rw [mw_at h.1, gs, h.2] <;> rfl
theorem mq_S {cs : Nat → ClassId} {ad : Nat → Nat} {I : Mm} {k : Nat} (h : isO k 3) : (mw 97 ad (gs cs ad I))[k]? = some (ad k, .inr (3, [.ref (ad (k + 1)), .ref (ad (k + 2)), .int (I k 0), .int (I k 1), .int (I k 2), .int (I k 3)])) := by
  rw [mw_at h.1, gs, h.2] <;> rfl
theorem mq_R {cs : Nat → ClassId} {ad : Nat → Nat} {I : Mm} {k : Nat} (h : isO k 4) : (mw 97 ad (gs cs ad I))[k]? = some (ad k, .inr (1, [.ref (ad (k + 1)), .ref (ad (k + 2)), .int (I k 0), .int (I k 1)])) := by
  rw [mw_at h.1, gs, h.2] <;> rfl
theorem mq_X {cs : Nat → ClassId} {ad : Nat → Nat} {I : Mm} {k : Nat} (h : isO k 5) : (mw 97 ad (gs cs ad I))[k]? = some (ad k, .inr (5, [.ref (ad 76), .ref (ad 77), .ref (ad 78), .ref (ad 79), .ref (ad 80), .ref (ad 81), .ref (ad 82), .ref (ad 83), .ref (ad 84), .ref (ad 85), .ref (ad 86), .ref (ad 87), .ref (ad 88), .ref (ad 89), .ref (ad 90), .ref (ad 91), .int (I k 0), .ref (ad 92), .ref (ad 93), .ref (ad 94), .ref (ad 95), .ref (ad 96), .int (I k 1), .int (I k 2), .int (I k 3), .int (I k 4)])) := by
  rw [mw_at h.1, gs, h.2] <;> rfl
theorem mq_MA {cs : Nat → ClassId} {ad : Nat → Nat} {I : Mm} {k : Nat} (h : isO k 6) : (mw 97 ad (gs cs ad I))[k]? = some (ad k, .inl (cs 2, 3, .inr (.inr (.inr (.inr (fun i => some (ad (2 + 14 * i)))))))) := by
  rw [mw_at h.1, gs, h.2] <;> rfl
theorem mq_CA {cs : Nat → ClassId} {ad : Nat → Nat} {I : Mm} {k : Nat} (h : isO k 7) : (mw 97 ad (gs cs ad I))[k]? = some (ad k, .inl (cs 3, 9, .inr (.inr (.inr (.inr (fun i => some (ad (45 + 3 * i)))))))) := by
  rw [mw_at h.1, gs, h.2] <;> rfl
theorem ms_any {D : va_G} {cs : Nat → ClassId} {ad : Nat → Nat} {I : Mm} {k : Nat} {f : Nat → Int32} {e : va_E} {H : Heap} (hk : k < 97) (he : gs cs ad (u1 I k f) k = e) (hP : va_P D vwCl ((mw 97 ad (gs cs ad I)).set k (ad k, e)) H) : va_P D vwCl (mw 97 ad (gs cs ad (u1 I k f))) H := by
  rw [mw_set (g' := gs cs ad (u1 I k f)) hk he (fun j hj => gs_congr (u1_n hj))] at hP
  exact hP
theorem ms_A {D : va_G} {cs : Nat → ClassId} {ad : Nat → Nat} {I : Mm} {k n j : Nat} {v : Int32} {H : Heap} (h : isA k n) (hP : va_P D vwCl ((mw 97 ad (gs cs ad I)).set k (ad k, .inl (cs 0, n, .inl (upd (I k) j v)))) H) : va_P D vwCl (mw 97 ad (gs cs ad (u2 I k j v))) H :=
  ms_any h.1 (by rw [gs, h.2, u1_s]) hP
theorem ms_Ac {D : va_G} {cs : Nat → ClassId} {ad : Nat → Nat} {I : Mm} {k n : Nat} {f : Nat → Int32} {H : Heap} (h : isA k n) (hP : va_P D vwCl ((mw 97 ad (gs cs ad I)).set k (ad k, .inl (cs 0, n, .inl f))) H) : va_P D vwCl (mw 97 ad (gs cs ad (u1 I k f))) H :=
  ms_any h.1 (by rw [gs, h.2, u1_s]) hP
theorem ms_Z {D : va_G} {cs : Nat → ClassId} {ad : Nat → Nat} {I : Mm} {k j : Nat} {v : Int32} {H : Heap} (h : isO k 8) (hP : va_P D vwCl ((mw 97 ad (gs cs ad I)).set k (ad k, .inl (cs 1, 3, .inl (upd (I k) j v)))) H) : va_P D vwCl (mw 97 ad (gs cs ad (u2 I k j v))) H :=
  ms_any h.1 (by rw [gs, h.2, u1_s] <;> rfl) hP
theorem ms_M0 {D : va_G} {cs : Nat → ClassId} {ad : Nat → Nat} {I : Mm} {k : Nat} {v : Int32} {H : Heap} (h : isO k 1) (hP : va_P D vwCl ((mw 97 ad (gs cs ad I)).set k (ad k, .inr (0, [.ref (ad (k + 1)), .ref (ad (k + 5)), .ref (ad (k + 8)), .ref (ad (k + 11)), .int v, .int (I k 1), .int (I k 2), .int (I k 3)]))) H) : va_P D vwCl (mw 97 ad (gs cs ad (u2 I k 0 v))) H :=
  ms_any h.1 (by rw [gs, h.2, u1_s]; simp [upd]) hP
theorem ms_M1 {D : va_G} {cs : Nat → ClassId} {ad : Nat → Nat} {I : Mm} {k : Nat} {v : Int32} {H : Heap} (h : isO k 1) (hP : va_P D vwCl ((mw 97 ad (gs cs ad I)).set k (ad k, .inr (0, [.ref (ad (k + 1)), .ref (ad (k + 5)), .ref (ad (k + 8)), .ref (ad (k + 11)), .int (I k 0), .int v, .int (I k 2), .int (I k 3)]))) H) : va_P D vwCl (mw 97 ad (gs cs ad (u2 I k 1 v))) H :=
  ms_any h.1 (by rw [gs, h.2, u1_s]; simp [upd]) hP
theorem ms_M2 {D : va_G} {cs : Nat → ClassId} {ad : Nat → Nat} {I : Mm} {k : Nat} {v : Int32} {H : Heap} (h : isO k 1) (hP : va_P D vwCl ((mw 97 ad (gs cs ad I)).set k (ad k, .inr (0, [.ref (ad (k + 1)), .ref (ad (k + 5)), .ref (ad (k + 8)), .ref (ad (k + 11)), .int (I k 0), .int (I k 1), .int v, .int (I k 3)]))) H) : va_P D vwCl (mw 97 ad (gs cs ad (u2 I k 2 v))) H :=
  ms_any h.1 (by rw [gs, h.2, u1_s]; simp [upd]) hP
theorem ms_M3 {D : va_G} {cs : Nat → ClassId} {ad : Nat → Nat} {I : Mm} {k : Nat} {v : Int32} {H : Heap} (h : isO k 1) (hP : va_P D vwCl ((mw 97 ad (gs cs ad I)).set k (ad k, .inr (0, [.ref (ad (k + 1)), .ref (ad (k + 5)), .ref (ad (k + 8)), .ref (ad (k + 11)), .int (I k 0), .int (I k 1), .int (I k 2), .int v]))) H) : va_P D vwCl (mw 97 ad (gs cs ad (u2 I k 3 v))) H :=
  ms_any h.1 (by rw [gs, h.2, u1_s]; simp [upd]) hP
theorem ms_P0 {D : va_G} {cs : Nat → ClassId} {ad : Nat → Nat} {I : Mm} {k : Nat} {v : Int32} {H : Heap} (h : isO k 2) (hP : va_P D vwCl ((mw 97 ad (gs cs ad I)).set k (ad k, .inr (2, [.ref (ad (k + 1)), .ref (ad (k + 2)), .ref (ad (k + 3)), .int v]))) H) : va_P D vwCl (mw 97 ad (gs cs ad (u2 I k 0 v))) H :=
  ms_any h.1 (by rw [gs, h.2, u1_s]; simp [upd]) hP
theorem ms_S0 {D : va_G} {cs : Nat → ClassId} {ad : Nat → Nat} {I : Mm} {k : Nat} {v : Int32} {H : Heap} (h : isO k 3) (hP : va_P D vwCl ((mw 97 ad (gs cs ad I)).set k (ad k, .inr (3, [.ref (ad (k + 1)), .ref (ad (k + 2)), .int v, .int (I k 1), .int (I k 2), .int (I k 3)]))) H) : va_P D vwCl (mw 97 ad (gs cs ad (u2 I k 0 v))) H :=
  ms_any h.1 (by rw [gs, h.2, u1_s]; simp [upd]) hP
theorem ms_S1 {D : va_G} {cs : Nat → ClassId} {ad : Nat → Nat} {I : Mm} {k : Nat} {v : Int32} {H : Heap} (h : isO k 3) (hP : va_P D vwCl ((mw 97 ad (gs cs ad I)).set k (ad k, .inr (3, [.ref (ad (k + 1)), .ref (ad (k + 2)), .int (I k 0), .int v, .int (I k 2), .int (I k 3)]))) H) : va_P D vwCl (mw 97 ad (gs cs ad (u2 I k 1 v))) H :=
  ms_any h.1 (by rw [gs, h.2, u1_s]; simp [upd]) hP
theorem ms_S2 {D : va_G} {cs : Nat → ClassId} {ad : Nat → Nat} {I : Mm} {k : Nat} {v : Int32} {H : Heap} (h : isO k 3) (hP : va_P D vwCl ((mw 97 ad (gs cs ad I)).set k (ad k, .inr (3, [.ref (ad (k + 1)), .ref (ad (k + 2)), .int (I k 0), .int (I k 1), .int v, .int (I k 3)]))) H) : va_P D vwCl (mw 97 ad (gs cs ad (u2 I k 2 v))) H :=
  ms_any h.1 (by rw [gs, h.2, u1_s]; simp [upd]) hP
theorem ms_S3 {D : va_G} {cs : Nat → ClassId} {ad : Nat → Nat} {I : Mm} {k : Nat} {v : Int32} {H : Heap} (h : isO k 3) (hP : va_P D vwCl ((mw 97 ad (gs cs ad I)).set k (ad k, .inr (3, [.ref (ad (k + 1)), .ref (ad (k + 2)), .int (I k 0), .int (I k 1), .int (I k 2), .int v]))) H) : va_P D vwCl (mw 97 ad (gs cs ad (u2 I k 3 v))) H :=
  ms_any h.1 (by rw [gs, h.2, u1_s]; simp [upd]) hP
theorem ms_R0 {D : va_G} {cs : Nat → ClassId} {ad : Nat → Nat} {I : Mm} {k : Nat} {v : Int32} {H : Heap} (h : isO k 4) (hP : va_P D vwCl ((mw 97 ad (gs cs ad I)).set k (ad k, .inr (1, [.ref (ad (k + 1)), .ref (ad (k + 2)), .int v, .int (I k 1)]))) H) : va_P D vwCl (mw 97 ad (gs cs ad (u2 I k 0 v))) H :=
  ms_any h.1 (by rw [gs, h.2, u1_s]; simp [upd]) hP
theorem ms_R1 {D : va_G} {cs : Nat → ClassId} {ad : Nat → Nat} {I : Mm} {k : Nat} {v : Int32} {H : Heap} (h : isO k 4) (hP : va_P D vwCl ((mw 97 ad (gs cs ad I)).set k (ad k, .inr (1, [.ref (ad (k + 1)), .ref (ad (k + 2)), .int (I k 0), .int v]))) H) : va_P D vwCl (mw 97 ad (gs cs ad (u2 I k 1 v))) H :=
  ms_any h.1 (by rw [gs, h.2, u1_s]; simp [upd]) hP
theorem ms_X0 {D : va_G} {cs : Nat → ClassId} {ad : Nat → Nat} {I : Mm} {k : Nat} {v : Int32} {H : Heap} (h : isO k 5) (hP : va_P D vwCl ((mw 97 ad (gs cs ad I)).set k (ad k, .inr (5, [.ref (ad 76), .ref (ad 77), .ref (ad 78), .ref (ad 79), .ref (ad 80), .ref (ad 81), .ref (ad 82), .ref (ad 83), .ref (ad 84), .ref (ad 85), .ref (ad 86), .ref (ad 87), .ref (ad 88), .ref (ad 89), .ref (ad 90), .ref (ad 91), .int v, .ref (ad 92), .ref (ad 93), .ref (ad 94), .ref (ad 95), .ref (ad 96), .int (I k 1), .int (I k 2), .int (I k 3), .int (I k 4)]))) H) : va_P D vwCl (mw 97 ad (gs cs ad (u2 I k 0 v))) H :=
  ms_any h.1 (by rw [gs, h.2, u1_s]; simp [upd]) hP
theorem ms_X1 {D : va_G} {cs : Nat → ClassId} {ad : Nat → Nat} {I : Mm} {k : Nat} {v : Int32} {H : Heap} (h : isO k 5) (hP : va_P D vwCl ((mw 97 ad (gs cs ad I)).set k (ad k, .inr (5, [.ref (ad 76), .ref (ad 77), .ref (ad 78), .ref (ad 79), .ref (ad 80), .ref (ad 81), .ref (ad 82), .ref (ad 83), .ref (ad 84), .ref (ad 85), .ref (ad 86), .ref (ad 87), .ref (ad 88), .ref (ad 89), .ref (ad 90), .ref (ad 91), .int (I k 0), .ref (ad 92), .ref (ad 93), .ref (ad 94), .ref (ad 95), .ref (ad 96), .int v, .int (I k 2), .int (I k 3), .int (I k 4)]))) H) : va_P D vwCl (mw 97 ad (gs cs ad (u2 I k 1 v))) H :=
  ms_any h.1 (by rw [gs, h.2, u1_s]; simp [upd]) hP
theorem ms_X2 {D : va_G} {cs : Nat → ClassId} {ad : Nat → Nat} {I : Mm} {k : Nat} {v : Int32} {H : Heap} (h : isO k 5) (hP : va_P D vwCl ((mw 97 ad (gs cs ad I)).set k (ad k, .inr (5, [.ref (ad 76), .ref (ad 77), .ref (ad 78), .ref (ad 79), .ref (ad 80), .ref (ad 81), .ref (ad 82), .ref (ad 83), .ref (ad 84), .ref (ad 85), .ref (ad 86), .ref (ad 87), .ref (ad 88), .ref (ad 89), .ref (ad 90), .ref (ad 91), .int (I k 0), .ref (ad 92), .ref (ad 93), .ref (ad 94), .ref (ad 95), .ref (ad 96), .int (I k 1), .int v, .int (I k 3), .int (I k 4)]))) H) : va_P D vwCl (mw 97 ad (gs cs ad (u2 I k 2 v))) H :=
  ms_any h.1 (by rw [gs, h.2, u1_s]; simp [upd]) hP
theorem ms_X3 {D : va_G} {cs : Nat → ClassId} {ad : Nat → Nat} {I : Mm} {k : Nat} {v : Int32} {H : Heap} (h : isO k 5) (hP : va_P D vwCl ((mw 97 ad (gs cs ad I)).set k (ad k, .inr (5, [.ref (ad 76), .ref (ad 77), .ref (ad 78), .ref (ad 79), .ref (ad 80), .ref (ad 81), .ref (ad 82), .ref (ad 83), .ref (ad 84), .ref (ad 85), .ref (ad 86), .ref (ad 87), .ref (ad 88), .ref (ad 89), .ref (ad 90), .ref (ad 91), .int (I k 0), .ref (ad 92), .ref (ad 93), .ref (ad 94), .ref (ad 95), .ref (ad 96), .int (I k 1), .int (I k 2), .int v, .int (I k 4)]))) H) : va_P D vwCl (mw 97 ad (gs cs ad (u2 I k 3 v))) H :=
  ms_any h.1 (by rw [gs, h.2, u1_s]; simp [upd]) hP
theorem ms_X4 {D : va_G} {cs : Nat → ClassId} {ad : Nat → Nat} {I : Mm} {k : Nat} {v : Int32} {H : Heap} (h : isO k 5) (hP : va_P D vwCl ((mw 97 ad (gs cs ad I)).set k (ad k, .inr (5, [.ref (ad 76), .ref (ad 77), .ref (ad 78), .ref (ad 79), .ref (ad 80), .ref (ad 81), .ref (ad 82), .ref (ad 83), .ref (ad 84), .ref (ad 85), .ref (ad 86), .ref (ad 87), .ref (ad 88), .ref (ad 89), .ref (ad 90), .ref (ad 91), .int (I k 0), .ref (ad 92), .ref (ad 93), .ref (ad 94), .ref (ad 95), .ref (ad 96), .int (I k 1), .int (I k 2), .int (I k 3), .int v]))) H) : va_P D vwCl (mw 97 ad (gs cs ad (u2 I k 4 v))) H :=
  ms_any h.1 (by rw [gs, h.2, u1_s]; simp [upd]) hP
def Mb (x : Int32) : Nat := 2 + 14 * x.toNatClampNeg
def Cb (x : Int32) : Nat := 45 + 3 * x.toNatClampNeg
-- contracts over the memory
def mP (D : va_G) (cs : Nat → ClassId) (ad : Nat → Nat) (I : Mm) (U : State) : Prop := va_P D vwCl (mw 97 ad (gs cs ad I)) U.heap ∧ va_K D vwCl (tyl cs) U
def mQ (D : va_G) (cs : Nat → ClassId) (ad : Nat → Nat) (v : Option Value) (J : Mm) : Array Value → State → Outcome → State → Prop := fun _ st oc t => (oc = .returned v ∧ va_P D vwCl (mw 97 ad (gs cs ad J)) t.heap) ∧ va_F (mA ad) st t
/-- the contract: called with 'av' over the memory I, the method answers v and leaves the memory J; it makes no cell and writes none but the memory's -/
def MC (l : Launch) (y : MethodName) (ws : List Cond) (rm : Room) (D : va_G) (cs : Nat → ClassId) (ad : Nat → Nat) (av : List Value) (I : Mm) (v : Option Value) (J : Mm) : Prop := Met l y ws rm (va_Pc av (mP D cs ad I)) (mQ D cs ad v J) 0 0 (mA ad)
theorem q_enter {l : Launch} {y : MethodName} {ws ws' : List Cond} {rm : Room} {D : va_G} {cs : Nat → ClassId} {ad : Nat → Nat} {av : List Value} {I J : Mm} {v : Option Value} {cc : ByteArray} {maxL : Nat} {ret : Option FieldType} (hy : plainFor y = true) (hw : ws = Cond.code y cc maxL ret :: ws') (hn : (lg_sl av).length ≤ maxL)
    (walk : ∀ (p : Program) (e : Env) (s : State) (m : MethodId) (below : List Frame) (meth : Method) (c : Code) (ls : Array Slot), p.tables.exec = Jvm.exec → c.code = cc → meth.sig.returnType = ret → c.maxLocals = maxL → s.vm.findClass y.cls = some m.cls → (∀ w ∈ ws, w.before av.toArray s = true) → meth.locks = false → va_K D vwCl (tyl cs) s → va_P D vwCl (mw 97 ad (gs cs ad I)) s.heap → va_S (mA ad) s.heap s.heap [] → lv_has ls maxL (lv_args 0 av) → W p l e rm s m av.toArray below meth c s.heap [] 0 0 (MQ below (mQ D cs ad v J) av.toArray s 0 0 (mA ad)) (F0 m 0 ls [])) : MC l y ws rm D cs ad av I v J := by
  refine va_MetF (cc := cc) (maxL := maxL) (ret := ret) hy hw ?_
  intro p e s m args below meth c s₁ B hml hv
  obtain ⟨rfl, hP, hK⟩ := hv
  have hl := lv_entry av (n := maxL) hn
  rw [lg_entry_eq]
  exact walk p e s m below meth c _ B.exec B.bytes B.returns hml (findClass_of_methodNamed B.named) (atoms_spec (ws := ws) B.pre) B.notSynchronized hK hP va_S.rf hl
section MR
variable {p : Program} {l : Launch} {e : Env} {R : Room} {s : State} {m : MethodId} {args : Array Value} {below : List Frame} {meth : Method} {c : Code} {H : Heap} {locs : List Loc} {cells slots : Nat} {Q : State → Prop}
variable {cc : ByteArray} {pc : Nat} {ls : Array Slot} {rest st0 : List Value} {D : va_G} {cs : Nat → ClassId} {ad : Nat → Nat} {a : Array Value} {I J : Mm} {v : Option Value} {H0 : Heap} {A0 : Nat → Prop}
theorem q_iret {x : Int32} {f : Int32 × Mm} (hx : p.tables.exec = Jvm.exec) (hb : c.code = cc) (hr : meth.sig.returnType = some .int) (hlocks : meth.locks = false) (hdg : decode cc pc = .ok (.ireturn, 1)) (hP : va_P D vwCl (mw 97 ad (gs cs ad J)) H) (hS : va_S (mA ad) s.heap H locs) (hf : f = (x, J)) : W p l e R s m args below meth c H locs 0 0 (MQ below (mQ D cs ad (some (.int f.1)) f.2) args s 0 0 (mA ad)) (F0 m pc ls [.int x]) := by
  subst hf
  exact W.iret hx hb hr (fun t ht _ => ⟨⟨rfl, by rw [ht]; exact hP⟩, hS.F ht⟩) hS.2.2 hdg hlocks
theorem q_zret {x : Int32} {f : Int32 × Mm} (hx : p.tables.exec = Jvm.exec) (hb : c.code = cc) (hr : meth.sig.returnType = some .boolean) (hlocks : meth.locks = false) (hdg : decode cc pc = .ok (.ireturn, 1)) (hP : va_P D vwCl (mw 97 ad (gs cs ad J)) H) (hS : va_S (mA ad) s.heap H locs) (hn : narrow .boolean (.int x) = .int x) (hf : f = (x, J)) : W p l e R s m args below meth c H locs 0 0 (MQ below (mQ D cs ad (some (.int f.1)) f.2) args s 0 0 (mA ad)) (F0 m pc ls [.int x]) := by
  subst hf
  exact W.zret hx hb hr hn (fun t ht _ => ⟨⟨rfl, by rw [ht]; exact hP⟩, hS.F ht⟩) hS.2.2 hdg hlocks
theorem q_vret {f : Mm} (hx : p.tables.exec = Jvm.exec) (hb : c.code = cc) (hr : meth.sig.returnType = none) (hlocks : meth.locks = false) (hdg : decode cc pc = .ok (.return_, 1)) (hP : va_P D vwCl (mw 97 ad (gs cs ad J)) H) (hS : va_S (mA ad) s.heap H locs) (hf : f = J) : W p l e R s m args below meth c H locs 0 0 (MQ below (mQ D cs ad none f) args s 0 0 (mA ad)) (F0 m pc ls []) := by
  subst hf
  exact W.vret hx hb hr (fun t ht _ => ⟨⟨rfl, by rw [ht]; exact hP⟩, hS.F ht⟩) hS.2.2 hdg hlocks
theorem q_aret {x k : Nat} {rt : FieldType} (hx : p.tables.exec = Jvm.exec) (hb : c.code = cc) (hr : meth.sig.returnType = some rt) (hrt : (∃ n, rt = .object n) ∨ ∃ t, rt = .array t) (hlocks : meth.locks = false) (hdg : decode cc pc = .ok (.areturn, 1)) (hP : va_P D vwCl (mw 97 ad (gs cs ad J)) H) (hS : va_S (mA ad) s.heap H locs) (hf : x = ad k) : W p l e R s m args below meth c H locs 0 0 (MQ below (mQ D cs ad (some (.ref (ad k))) J) args s 0 0 (mA ad)) (F0 m pc ls [.ref x]) := by
  subst hf
  exact W.aret hx hb hr hrt (Or.inr ⟨_, rfl⟩) (fun t ht _ => ⟨⟨rfl, by rw [ht]; exact hP⟩, hS.F ht⟩) hS.2.2 hdg hlocks
theorem q_call (hr : va_Run p l e R s m args below meth c H locs cells slots 0 0 (F0 m pc ls st0) rest (mQ D cs ad v J a) (mA ad)) (hS : va_S A0 H0 H locs) (hA : ∀ q, mA ad q → A0 q)
    (kk : ∀ (H1 : Heap) (locs1 : List Loc), va_P D vwCl (mw 97 ad (gs cs ad J)) H1 → va_S A0 H0 H1 locs1 → W p l e R s m args below meth c H1 locs1 cells slots Q (F0 m (pc + 3) ls (v.toList ++ rest))) : W p l e R s m args below meth c H locs cells slots Q (F0 m pc ls st0) := by
  intro T hT X
  obtain ⟨w, st₀, t, T', L, h0, X', hL, e1, e2, ⟨⟨hv, hp⟩, hz, hk⟩, st⟩ := hr T hT X
  cases hv
  rw [h0] at hz hk
  obtain ⟨t2, a1, b1⟩ := kk T'.heap (locs ++ L) (by rw [e1]; exact hp)
    ⟨Nat.le_trans hS.1 (by rw [e1]; exact hz), fun q h1 h2 => by rw [e1, hk q (Nat.lt_of_lt_of_le h1 hS.1) (fun z => h2 (hA q z))]; exact hS.2.1 q h1 h2, fun q hq => by
      rcases List.mem_append.mp hq with h | h
      · exact hS.2.2 q h
      · exact hA _ (hL q h)⟩ T' rfl X'
  exact ⟨t2, st t2 a1, b1⟩
theorem q_calli {f : Int32 × Mm} (hr : va_Run p l e R s m args below meth c H locs cells slots 0 0 (F0 m pc ls st0) rest (mQ D cs ad (some (.int f.1)) f.2 a) (mA ad)) (hS : va_S A0 H0 H locs) (hA : ∀ q, mA ad q → A0 q)
    (kk : ∀ (H1 : Heap) (locs1 : List Loc), va_P D vwCl (mw 97 ad (gs cs ad f.2)) H1 → va_S A0 H0 H1 locs1 → W p l e R s m args below meth c H1 locs1 cells slots Q (F0 m (pc + 3) ls (.int f.1 :: rest))) : W p l e R s m args below meth c H locs cells slots Q (F0 m pc ls st0) := q_call hr hS hA kk
theorem q_iretP {x f : Int32} (hx : p.tables.exec = Jvm.exec) (hb : c.code = cc) (hr : meth.sig.returnType = some .int) (hlocks : meth.locks = false) (hdg : decode cc pc = .ok (.ireturn, 1)) (hP : va_P D vwCl (mw 97 ad (gs cs ad J)) H) (hS : va_S (mA ad) s.heap H locs) (hf : f = x) : W p l e R s m args below meth c H locs 0 0 (MQ below (mQ D cs ad (some (.int f)) J) args s 0 0 (mA ad)) (F0 m pc ls [.int x]) := by
  subst hf
  exact W.iret hx hb hr (fun t ht _ => ⟨⟨rfl, by rw [ht]; exact hP⟩, hS.F ht⟩) hS.2.2 hdg hlocks
theorem q_zretP {x f : Int32} (hx : p.tables.exec = Jvm.exec) (hb : c.code = cc) (hr : meth.sig.returnType = some .boolean) (hlocks : meth.locks = false) (hdg : decode cc pc = .ok (.ireturn, 1)) (hP : va_P D vwCl (mw 97 ad (gs cs ad J)) H) (hS : va_S (mA ad) s.heap H locs) (hn : narrow .boolean (.int x) = .int x) (hf : f = x) : W p l e R s m args below meth c H locs 0 0 (MQ below (mQ D cs ad (some (.int f)) J) args s 0 0 (mA ad)) (F0 m pc ls [.int x]) := by
  subst hf
  exact W.zret hx hb hr hn (fun t ht _ => ⟨⟨rfl, by rw [ht]; exact hP⟩, hS.F ht⟩) hS.2.2 hdg hlocks
theorem q_callp {f : Int32} (hr : va_Run p l e R s m args below meth c H locs cells slots 0 0 (F0 m pc ls st0) rest (mQ D cs ad (some (.int f)) J a) (mA ad)) (hS : va_S A0 H0 H locs) (hA : ∀ q, mA ad q → A0 q)
    (kk : ∀ (H1 : Heap) (locs1 : List Loc), va_P D vwCl (mw 97 ad (gs cs ad J)) H1 → va_S A0 H0 H1 locs1 → W p l e R s m args below meth c H1 locs1 cells slots Q (F0 m (pc + 3) ls (.int f :: rest))) : W p l e R s m args below meth c H locs cells slots Q (F0 m pc ls st0) := q_call hr hS hA kk
theorem q_callv {f : Mm} (hr : va_Run p l e R s m args below meth c H locs cells slots 0 0 (F0 m pc ls st0) rest (mQ D cs ad none f a) (mA ad)) (hS : va_S A0 H0 H locs) (hA : ∀ q, mA ad q → A0 q)
    (kk : ∀ (H1 : Heap) (locs1 : List Loc), va_P D vwCl (mw 97 ad (gs cs ad f)) H1 → va_S A0 H0 H1 locs1 → W p l e R s m args below meth c H1 locs1 cells slots Q (F0 m (pc + 3) ls rest)) : W p l e R s m args below meth c H locs cells slots Q (F0 m pc ls st0) := q_call hr hS hA kk
theorem q_callr {k : Nat} (hr : va_Run p l e R s m args below meth c H locs cells slots 0 0 (F0 m pc ls st0) rest (mQ D cs ad (some (.ref (ad k))) J a) (mA ad)) (hS : va_S A0 H0 H locs) (hA : ∀ q, mA ad q → A0 q)
    (kk : ∀ (H1 : Heap) (locs1 : List Loc), va_P D vwCl (mw 97 ad (gs cs ad J)) H1 → va_S A0 H0 H1 locs1 → W p l e R s m args below meth c H1 locs1 cells slots Q (F0 m (pc + 3) ls (.ref (ad k) :: rest))) : W p l e R s m args below meth c H locs cells slots Q (F0 m pc ls st0) := q_call hr hS hA kk
theorem q_ldM (hx : p.tables.exec = Jvm.exec) (hb : c.code = cc) (hK : va_K D vwCl (tyl cs) s) (hP : va_P D vwCl (mw 97 ad (gs cs ad I)) H) {i : Int32} (hin : vp_in i 3) (hdg : decode cc pc = .ok (.aaload, 1))
    (kk : W p l e R s m args below meth c H locs cells slots Q (F0 m (pc + 1) ls (.ref (ad (Mb i)) :: rest))) : W p l e R s m args below meth c H locs cells slots Q (F0 m pc ls (.int i :: .ref (ad 1) :: rest)) :=
  va_aldq (C := RX0) hx hb hK hP 1 2 (mq_MA ⟨by decide, rfl⟩) rfl hin hdg kk
theorem q_ldC (hx : p.tables.exec = Jvm.exec) (hb : c.code = cc) (hK : va_K D vwCl (tyl cs) s) (hP : va_P D vwCl (mw 97 ad (gs cs ad I)) H) {i : Int32} (hin : vp_in i 9) (hdg : decode cc pc = .ok (.aaload, 1))
    (kk : W p l e R s m args below meth c H locs cells slots Q (F0 m (pc + 1) ls (.ref (ad (Cb i)) :: rest))) : W p l e R s m args below meth c H locs cells slots Q (F0 m pc ls (.int i :: .ref (ad 44) :: rest)) :=
  va_aldq (C := RX1) hx hb hK hP 44 3 (mq_CA ⟨by decide, rfl⟩) rfl hin hdg kk
theorem q_preS {av : List Value} (hK : va_K D vwCl (tyl cs) s) (hP : va_P D vwCl (mw 97 ad (gs cs ad I)) H) : PreS s H (va_Pc av (mP D cs ad I)) av :=
  ⟨fun a U g mk q => by obtain ⟨q0, qP, qK⟩ := q; exact ⟨q0, qP, va_K.moved (u := U) (U := U.calling g mk a) (Vm.Alike.refl U.vm) qK⟩, fun U hU hW => ⟨rfl, by rw [hU]; exact hP, va_K.moved hW.alike hK⟩⟩
theorem q_preV {C : String} {b : Nat} {As : List Value} (hK : va_K D vwCl (tyl cs) s) (hP : va_P D vwCl (mw 97 ad (gs cs ad I)) H) (hv : ∃ cell : Cell, H[b]? = some cell ∧ cell.vm.isStatics = false ∧ s.vm.findClass C = some cell.cls) : PreV s H C b (va_Pc (.ref b :: As) (mP D cs ad I)) As :=
  ⟨(q_preS (av := .ref b :: As) hK hP).1, hv, (q_preS (av := .ref b :: As) hK hP).2⟩
end MR
-- where things lie
def isM (k : Nat) : Prop := k = 2 ∨ k = 16 ∨ k = 30
def isR (r n : Nat) : Prop := isO r 4 ∧ isA (r + 1) n ∧ isA (r + 2) n
def isS (k : Nat) : Prop := isO k 3 ∧ isA (k + 1) 4 ∧ isA (k + 2) 3
def isP (k : Nat) : Prop := isO k 2 ∧ isA (k + 1) 16 ∧ isA (k + 2) 16 ∧ isA (k + 3) 16
theorem isM_O {k : Nat} (h : isM k) : isO k 1 := by rcases h with rfl | rfl | rfl <;> exact ⟨by decide, rfl⟩
theorem isM_P {k : Nat} (h : isM k) : isP (k + 1) := by rcases h with rfl | rfl | rfl <;> exact ⟨⟨by decide, rfl⟩, ⟨by decide, rfl⟩, ⟨by decide, rfl⟩, ⟨by decide, rfl⟩⟩
theorem isM_C {k : Nat} (h : isM k) : isS (k + 5) := by rcases h with rfl | rfl | rfl <;> exact ⟨⟨by decide, rfl⟩, ⟨by decide, rfl⟩, ⟨by decide, rfl⟩⟩
theorem isM_S {k : Nat} (h : isM k) : isS (k + 8) := by rcases h with rfl | rfl | rfl <;> exact ⟨⟨by decide, rfl⟩, ⟨by decide, rfl⟩, ⟨by decide, rfl⟩⟩
theorem isM_L {k : Nat} (h : isM k) : isR (k + 11) 20 := by rcases h with rfl | rfl | rfl <;> exact ⟨⟨by decide, rfl⟩, ⟨by decide, rfl⟩, ⟨by decide, rfl⟩⟩
theorem isM_in {x : Int32} (h : vp_in x 3) : isM (Mb x) := by
  unfold Mb
  have hlt : x.toNatClampNeg < 3 := Nat.not_le.mp fun q => h (Or.inr q)
  generalize x.toNatClampNeg = n at hlt ⊢
  rcases (show n = 0 ∨ n = 1 ∨ n = 2 by omega) with rfl | rfl | rfl
  · exact Or.inl rfl
  · exact Or.inr (Or.inl rfl)
  · exact Or.inr (Or.inr rfl)
theorem isR_in {x : Int32} (h : vp_in x 9) : isR (Cb x) 8 := by
  unfold Cb
  have hlt : x.toNatClampNeg < 9 := Nat.not_le.mp fun q => h (Or.inr q)
  generalize x.toNatClampNeg = n at hlt ⊢
  rcases (show n = 0 ∨ n = 1 ∨ n = 2 ∨ n = 3 ∨ n = 4 ∨ n = 5 ∨ n = 6 ∨ n = 7 ∨ n = 8 by omega) with rfl | rfl | rfl | rfl | rfl | rfl | rfl | rfl | rfl <;> exact ⟨⟨by decide, rfl⟩, ⟨by decide, rfl⟩, ⟨by decide, rfl⟩⟩
theorem isR_72 : isR 72 60 := ⟨⟨by decide, rfl⟩, ⟨by decide, rfl⟩, ⟨by decide, rfl⟩⟩
theorem isO_0 : isO 0 0 := ⟨by decide, rfl⟩
theorem isO_1 : isO 1 6 := ⟨by decide, rfl⟩
theorem isO_44 : isO 44 7 := ⟨by decide, rfl⟩
theorem isO_75 : isO 75 5 := ⟨by decide, rfl⟩
theorem nbp0 : narrow .boolean (.int 0) = .int 0 := rfl
theorem nbp1 : narrow .boolean (.int 1) = .int 1 := rfl
theorem nb0 (m : Mm) : narrow .boolean (.int ((0 : Int32), m).1) = .int ((0 : Int32), m).1 := nbp0
theorem nb1 (m : Mm) : narrow .boolean (.int ((1 : Int32), m).1) = .int ((1 : Int32), m).1 := nbp1
theorem zz {a : Int32} {m : Mm} (h : narrow .boolean (.int a) = .int a) : narrow .boolean (.int (a, m).1) = .int (a, m).1 := h
theorem tb_ne {x : Int32} {k : Int32} {a : Int} (hk : k.toInt = a) (h : ¬ x = k) : ¬ x.toInt = a := lv_neT h hk
theorem tb_out0_2 {x : Int32} (h0 : ¬ x = 0) (h1 : ¬ x = 1) (h2 : ¬ x = 2) : x.toInt < 0 ∨ 2 < x.toInt := by
  have g0 := tb_ne (a := 0) (by decide) h0
  have g1 := tb_ne (a := 1) (by decide) h1
  have g2 := tb_ne (a := 2) (by decide) h2
  omega
theorem tb_out0_6 {x : Int32} (h0 : ¬ x = 0) (h1 : ¬ x = 1) (h2 : ¬ x = 2) (h3 : ¬ x = 3) (h4 : ¬ x = 4) (h5 : ¬ x = 5) (h6 : ¬ x = 6) : x.toInt < 0 ∨ 6 < x.toInt := by
  have g0 := tb_ne (a := 0) (by decide) h0
  have g1 := tb_ne (a := 1) (by decide) h1
  have g2 := tb_ne (a := 2) (by decide) h2
  have g3 := tb_ne (a := 3) (by decide) h3
  have g4 := tb_ne (a := 4) (by decide) h4
  have g5 := tb_ne (a := 5) (by decide) h5
  have g6 := tb_ne (a := 6) (by decide) h6
  omega
theorem tb_out0_7 {x : Int32} (h0 : ¬ x = 0) (h1 : ¬ x = 1) (h2 : ¬ x = 2) (h3 : ¬ x = 3) (h4 : ¬ x = 4) (h5 : ¬ x = 5) (h6 : ¬ x = 6) (h7 : ¬ x = 7) : x.toInt < 0 ∨ 7 < x.toInt := by
  have g := tb_out0_6 h0 h1 h2 h3 h4 h5 h6
  have g7 := tb_ne (a := 7) (by decide) h7
  omega
theorem iA_76 : isA 76 3 := ⟨by decide, rfl⟩
theorem iA_77 : isA 77 48 := ⟨by decide, rfl⟩
theorem iA_78 : isA 78 48 := ⟨by decide, rfl⟩
theorem iA_79 : isA 79 48 := ⟨by decide, rfl⟩
theorem iZ_80 : isO 80 8 := ⟨by decide, rfl⟩
theorem iA_81 : isA 81 3 := ⟨by decide, rfl⟩
theorem iA_82 : isA 82 3 := ⟨by decide, rfl⟩
theorem iA_83 : isA 83 3 := ⟨by decide, rfl⟩
theorem iZ_84 : isO 84 8 := ⟨by decide, rfl⟩
theorem iA_85 : isA 85 3 := ⟨by decide, rfl⟩
theorem iA_86 : isA 86 3 := ⟨by decide, rfl⟩
theorem iA_87 : isA 87 1536 := ⟨by decide, rfl⟩
theorem iA_88 : isA 88 1536 := ⟨by decide, rfl⟩
theorem iA_89 : isA 89 9 := ⟨by decide, rfl⟩
theorem iA_90 : isA 90 9 := ⟨by decide, rfl⟩
theorem iA_91 : isA 91 72 := ⟨by decide, rfl⟩
theorem iA_92 : isA 92 60 := ⟨by decide, rfl⟩
theorem iA_93 : isA 93 60 := ⟨by decide, rfl⟩
theorem iA_94 : isA 94 3 := ⟨by decide, rfl⟩
theorem iA_95 : isA 95 4 := ⟨by decide, rfl⟩
theorem iA_96 : isA 96 3 := ⟨by decide, rfl⟩
end
section
def f_J_floorMod  (x1 x2 : Int32) : Int32 := (if 0 ≤ (x1 ^^^ x2) then (x1 - x1 / x2 * x2) else (if (x1 - x1 / x2 * x2) = 0 then (x1 - x1 / x2 * x2) else ((x1 - x1 / x2 * x2) + x2)))
def ok_J_floorMod  (x1 x2 : Int32) : Prop := ¬ x2 = 0
set_option maxHeartbeats 4000000 in
set_option maxRecDepth 100000 in
theorem c_J_floorMod (l : Launch) (D : va_G) (cs : Nat → ClassId) (ad : Nat → Nat) (hi : mi ad) (I : Mm) (x1 x2 : Int32) (ok : ok_J_floorMod x1 x2) : MC l yJ_floorMod wJ_floorMod { frames := 0, cells := 0, slots := 0, locals := 0 } D cs ad [.int x1, .int x2] I (some (.int (f_J_floorMod x1 x2))) I := by
  unfold ok_J_floorMod at ok
  refine q_enter (cc := cJ_floorMod) (maxL := 3) (ret := (some .int)) (by decide +kernel) rfl (Nat.le_of_ble_eq_true rfl) ?_
  intro p e s m below meth c ls hx hb hr hml hown hts hlocks hK hP hS hl
  have hown : s.vm.findClass RJ = some m.cls := hown
  have hts : ∀ w ∈ gtbl, w.before _ s = true := fun w h => hts w (List.mem_cons_of_mem _ h)
  have hl : lv_has ls 3 [(0, .int x1), (1, .int x2)] := hl
  refine lv_iload_n hx hb dJ_floorMod_0 rfl (lv_at hl 0 rfl) ?_
  refine lv_iload_n hx hb dJ_floorMod_1 rfl (lv_at hl 1 rfl) ?_
  have g1 := ok
  refine lv_irem hx hb dJ_floorMod_2 g1 ?_
  refine lv_istore_n (lv' := [(2, .int (x1 - x1 / x2 * x2)), (0, .int x1), (1, .int x2)]) hx hb dJ_floorMod_3 rfl hl (by decide) rfl (fun ls hl => ?_)
  refine lv_iload_n hx hb dJ_floorMod_4 rfl (lv_at hl 1 rfl) ?_
  refine lv_iload_n hx hb dJ_floorMod_5 rfl (lv_at hl 2 rfl) ?_
  refine lv_ixor hx hb dJ_floorMod_6 ?_
  refine lv_if_ge (tgt := 18) hx hb dJ_floorMod_7 (by decide) (fun c2 => ?_) (fun c2 => ?_)
  · have c2 := c2
    refine lv_iload_n hx hb dJ_floorMod_18 rfl (lv_at hl 0 rfl) ?_
    exact q_iretP hx hb hr hlocks dJ_floorMod_19 hP hS (by rw [f_J_floorMod, if_pos c2])
  · have c2 := c2
    refine lv_iload_n hx hb dJ_floorMod_10 rfl (lv_at hl 0 rfl) ?_
    refine lv_if_eq (tgt := 18) hx hb dJ_floorMod_11 (by decide) (fun c3 => ?_) (fun c3 => ?_)
    · have c3 := c3
      refine lv_iload_n hx hb dJ_floorMod_18 rfl (lv_at hl 0 rfl) ?_
      exact q_iretP hx hb hr hlocks dJ_floorMod_19 hP hS (by rw [f_J_floorMod, if_neg c2, if_pos c3])
    · have c3 := c3
      refine lv_iload_n hx hb dJ_floorMod_14 rfl (lv_at hl 0 rfl) ?_
      refine lv_iload_n hx hb dJ_floorMod_15 rfl (lv_at hl 2 rfl) ?_
      refine lv_iadd hx hb dJ_floorMod_16 ?_
      exact q_iretP hx hb hr hlocks dJ_floorMod_17 hP hS (by rw [f_J_floorMod, if_neg c2, if_neg c3])
def f_R_count (I : Mm) (r n : Nat) : Int32 := ((I r 1) - (I r 0))
set_option maxHeartbeats 4000000 in
set_option maxRecDepth 100000 in
theorem c_R_count (l : Launch) (D : va_G) (cs : Nat → ClassId) (ad : Nat → Nat) (hi : mi ad) {r n : Nat} (h0 : isR r n) (I : Mm) : MC l yX1_count wX1_count { frames := 0, cells := 0, slots := 0, locals := 0 } D cs ad [.ref (ad r)] I (some (.int (f_R_count I r n))) I := by
  refine q_enter (cc := cX1_count) (maxL := 1) (ret := (some .int)) (by decide +kernel) rfl (Nat.le_of_ble_eq_true rfl) ?_
  intro p e s m below meth c ls hx hb hr hml hown hts hlocks hK hP hS hl
  have hown : s.vm.findClass RX1 = some m.cls := hown
  have hts : ∀ w ∈ gtbl, w.before _ s = true := fun w h => hts w (List.mem_cons_of_mem _ h)
  have hl : lv_has ls 1 [(0, .ref (ad r))] := hl
  refine lv_aload_n hx hb dX1_count_0 rfl (lv_at hl 0 rfl) ?_
  refine va_get (D := D) (ci := 1) (v := .int (I r 1)) (C := RX1) (T := TX1) (N := 4) hx hb hts inX1 hown hK hP r (mq_R h0.1) rfl 3 (by decide) (hts _ k_72) (fun _ h9 => h9) rfl dX1_count_1 ?_
  refine lv_aload_n hx hb dX1_count_4 rfl (lv_at hl 0 rfl) ?_
  refine va_get (D := D) (ci := 1) (v := .int (I r 0)) (C := RX1) (T := TX1) (N := 4) hx hb hts inX1 hown hK hP r (mq_R h0.1) rfl 2 (by decide) (hts _ k_70) (fun _ h9 => h9) rfl dX1_count_5 ?_
  refine lv_isub hx hb dX1_count_8 ?_
  exact q_iretP hx hb hr hlocks dX1_count_9 hP hS rfl
def f_R_isFull (I : Mm) (r n : Nat) : Int32 := (if (f_R_count I r n) < (nI n) then 0 else 1)
theorem z_R_isFull (I : Mm) (r n : Nat) : narrow .boolean (.int (f_R_isFull I r n)) = .int (f_R_isFull I r n) := by
  unfold f_R_isFull
  (repeat' split) <;> first | (with_reducible exact nbp0) | (with_reducible exact nbp1)
set_option maxHeartbeats 4000000 in
set_option maxRecDepth 100000 in
theorem c_R_isFull (l : Launch) (D : va_G) (cs : Nat → ClassId) (ad : Nat → Nat) (hi : mi ad) {r n : Nat} (h0 : isR r n) (I : Mm) : MC l yX1_isFull wX1_isFull { frames := 1, cells := 0, slots := 0, locals := 20 } D cs ad [.ref (ad r)] I (some (.int (f_R_isFull I r n))) I := by
  refine q_enter (cc := cX1_isFull) (maxL := 1) (ret := (some .boolean)) (by decide +kernel) rfl (Nat.le_of_ble_eq_true rfl) ?_
  intro p e s m below meth c ls hx hb hr hml hown hts hlocks hK hP hS hl
  have hown : s.vm.findClass RX1 = some m.cls := hown
  have hts : ∀ w ∈ gtbl, w.before _ s = true := fun w h => hts w (List.mem_cons_of_mem _ h)
  have hl : lv_has ls 1 [(0, .ref (ad r))] := hl
  refine lv_aload_n hx hb dX1_isFull_0 rfl (lv_at hl 0 rfl) ?_
  refine q_callp (va_runV (As := []) (rest := []) ⟨hx, hb, hml, hown, hts⟩ (c_R_count l D cs ad hi h0 I) (cwV 0 hts (gV k_139 k_140 k_141 k_5 k_142) rfl rfl rfl (by decide +kernel) ⟨Nat.le_of_ble_eq_true rfl, Nat.le_of_ble_eq_true rfl⟩) (q_preV hK hP (va_recv hK hP (ci := 1) (q0 := r) rfl (mq_R h0.1))) rfl rfl hl.1 rfl (lv_room (Nat.le_of_ble_eq_true rfl)) dX1_isFull_1 ⟨Nat.zero_le _, Nat.zero_le _⟩) hS (fun _ h => h) (fun H locs hP hS => ?_)
  refine lv_aload_n hx hb dX1_isFull_4 rfl (lv_at hl 0 rfl) ?_
  refine va_get (D := D) (ci := 1) (v := .ref (ad (r + 1))) (C := RX1) (T := TX1) (N := 4) hx hb hts inX1 hown hK hP r (mq_R h0.1) rfl 0 (by decide) (hts _ k_68) (fun _ h9 => h9) rfl dX1_isFull_5 ?_
  refine va_alen (v := nI n) hx hb hK hP (r + 1) 0 (mq_A h0.2.1) rfl rfl dX1_isFull_8 ?_
  refine lv_icmp_lt (tgt := 16) hx hb dX1_isFull_9 (by decide) (fun c1 => ?_) (fun c1 => ?_)
  · have c1 := c1
    refine lv_iconst (v := 0) hx hb dX1_isFull_16 (by decide) ?_
    exact q_zretP hx hb hr hlocks dX1_isFull_17 hP hS rfl (by rw [f_R_isFull, if_pos c1])
  · have c1 := c1
    refine lv_iconst (v := 1) hx hb dX1_isFull_12 (by decide) ?_
    refine lv_goto (tgt := 17) hx hb dX1_isFull_13 (by decide) ?_
    exact q_zretP hx hb hr hlocks dX1_isFull_17 hP hS rfl (by rw [f_R_isFull, if_neg c1])
def f_R_has (I : Mm) (r n : Nat) (x1 : Int32) : Int32 := (if x1 ≤ (I r 0) then 0 else (if (I r 1) < x1 then 0 else 1))
theorem z_R_has (I : Mm) (r n : Nat) (x1 : Int32) : narrow .boolean (.int (f_R_has I r n x1)) = .int (f_R_has I r n x1) := by
  unfold f_R_has
  (repeat' split) <;> first | (with_reducible exact nbp0) | (with_reducible exact nbp1)
set_option maxHeartbeats 4000000 in
set_option maxRecDepth 100000 in
theorem c_R_has (l : Launch) (D : va_G) (cs : Nat → ClassId) (ad : Nat → Nat) (hi : mi ad) {r n : Nat} (h0 : isR r n) (I : Mm) (x1 : Int32) : MC l yX1_has wX1_has { frames := 0, cells := 0, slots := 0, locals := 0 } D cs ad [.ref (ad r), .int x1] I (some (.int (f_R_has I r n x1))) I := by
  refine q_enter (cc := cX1_has) (maxL := 2) (ret := (some .boolean)) (by decide +kernel) rfl (Nat.le_of_ble_eq_true rfl) ?_
  intro p e s m below meth c ls hx hb hr hml hown hts hlocks hK hP hS hl
  have hown : s.vm.findClass RX1 = some m.cls := hown
  have hts : ∀ w ∈ gtbl, w.before _ s = true := fun w h => hts w (List.mem_cons_of_mem _ h)
  have hl : lv_has ls 2 [(0, .ref (ad r)), (1, .int x1)] := hl
  refine lv_iload_n hx hb dX1_has_0 rfl (lv_at hl 1 rfl) ?_
  refine lv_aload_n hx hb dX1_has_1 rfl (lv_at hl 0 rfl) ?_
  refine va_get (D := D) (ci := 1) (v := .int (I r 0)) (C := RX1) (T := TX1) (N := 4) hx hb hts inX1 hown hK hP r (mq_R h0.1) rfl 2 (by decide) (hts _ k_70) (fun _ h9 => h9) rfl dX1_has_2 ?_
  refine lv_icmp_le (tgt := 20) hx hb dX1_has_5 (by decide) (fun c1 => ?_) (fun c1 => ?_)
  · have c1 := c1
    refine lv_iconst (v := 0) hx hb dX1_has_20 (by decide) ?_
    exact q_zretP hx hb hr hlocks dX1_has_21 hP hS rfl (by rw [f_R_has, if_pos c1])
  · have c1 := c1
    refine lv_iload_n hx hb dX1_has_8 rfl (lv_at hl 1 rfl) ?_
    refine lv_aload_n hx hb dX1_has_9 rfl (lv_at hl 0 rfl) ?_
    refine va_get (D := D) (ci := 1) (v := .int (I r 1)) (C := RX1) (T := TX1) (N := 4) hx hb hts inX1 hown hK hP r (mq_R h0.1) rfl 3 (by decide) (hts _ k_72) (fun _ h9 => h9) rfl dX1_has_10 ?_
    refine lv_icmp_gt (tgt := 20) hx hb dX1_has_13 (by decide) (fun c2 => ?_) (fun c2 => ?_)
    · have c2 := c2
      refine lv_iconst (v := 0) hx hb dX1_has_20 (by decide) ?_
      exact q_zretP hx hb hr hlocks dX1_has_21 hP hS rfl (by rw [f_R_has, if_neg c1, if_pos c2])
    · have c2 := c2
      refine lv_iconst (v := 1) hx hb dX1_has_16 (by decide) ?_
      refine lv_goto (tgt := 21) hx hb dX1_has_17 (by decide) ?_
      exact q_zretP hx hb hr hlocks dX1_has_21 hP hS rfl (by rw [f_R_has, if_neg c1, if_neg c2])
def f_R_slot  (r n : Nat) (x1 : Int32) : Int32 := (f_J_floorMod x1 (nI n))
def ok_R_slot  (r n : Nat) (x1 : Int32) : Prop := ok_J_floorMod x1 (nI n)
set_option maxHeartbeats 4000000 in
set_option maxRecDepth 100000 in
theorem c_R_slot (l : Launch) (D : va_G) (cs : Nat → ClassId) (ad : Nat → Nat) (hi : mi ad) {r n : Nat} (h0 : isR r n) (I : Mm) (x1 : Int32) (ok : ok_R_slot r n x1) : MC l yX1_slot wX1_slot { frames := 1, cells := 0, slots := 0, locals := 22 } D cs ad [.ref (ad r), .int x1] I (some (.int (f_R_slot r n x1))) I := by
  unfold ok_R_slot at ok
  refine q_enter (cc := cX1_slot) (maxL := 2) (ret := (some .int)) (by decide +kernel) rfl (Nat.le_of_ble_eq_true rfl) ?_
  intro p e s m below meth c ls hx hb hr hml hown hts hlocks hK hP hS hl
  have hown : s.vm.findClass RX1 = some m.cls := hown
  have hts : ∀ w ∈ gtbl, w.before _ s = true := fun w h => hts w (List.mem_cons_of_mem _ h)
  have hl : lv_has ls 2 [(0, .ref (ad r)), (1, .int x1)] := hl
  refine lv_iload_n hx hb dX1_slot_0 rfl (lv_at hl 1 rfl) ?_
  refine lv_aload_n hx hb dX1_slot_1 rfl (lv_at hl 0 rfl) ?_
  refine va_get (D := D) (ci := 1) (v := .ref (ad (r + 1))) (C := RX1) (T := TX1) (N := 4) hx hb hts inX1 hown hK hP r (mq_R h0.1) rfl 0 (by decide) (hts _ k_68) (fun _ h9 => h9) rfl dX1_slot_2 ?_
  refine va_alen (v := nI n) hx hb hK hP (r + 1) 0 (mq_A h0.2.1) rfl rfl dX1_slot_5 ?_
  have g1 := ok
  refine q_callp (va_runS (As := [.int x1, .int (nI n)]) (rest := []) ⟨hx, hb, hml, hown, hts⟩ (c_J_floorMod l D cs ad hi I x1 (nI n) g1) (va_cwS 2 hts (gS k_150 k_151 k_7 k_152) rfl rfl rfl (by decide +kernel) ⟨Nat.le_of_ble_eq_true rfl, Nat.le_of_ble_eq_true rfl⟩) (q_preS hK hP) rfl rfl hl.1 rfl (lv_room (Nat.le_of_ble_eq_true rfl)) dX1_slot_6 ⟨Nat.zero_le _, Nat.zero_le _⟩) hS (fun _ h => h) (fun H locs hP hS => ?_)
  exact q_iretP hx hb hr hlocks dX1_slot_9 hP hS rfl
def f_R_valueAt (I : Mm) (r n : Nat) (x1 : Int32) : Int32 := (I (r + 1) ((f_R_slot r n x1).toNatClampNeg))
def ok_R_valueAt  (r n : Nat) (x1 : Int32) : Prop := ok_R_slot r n x1 ∧ (vp_in (f_R_slot r n x1) n)
set_option maxHeartbeats 4000000 in
set_option maxRecDepth 100000 in
theorem c_R_valueAt (l : Launch) (D : va_G) (cs : Nat → ClassId) (ad : Nat → Nat) (hi : mi ad) {r n : Nat} (h0 : isR r n) (I : Mm) (x1 : Int32) (ok : ok_R_valueAt r n x1) : MC l yX1_valueAt wX1_valueAt { frames := 2, cells := 0, slots := 0, locals := 43 } D cs ad [.ref (ad r), .int x1] I (some (.int (f_R_valueAt I r n x1))) I := by
  unfold ok_R_valueAt at ok
  refine q_enter (cc := cX1_valueAt) (maxL := 2) (ret := (some .int)) (by decide +kernel) rfl (Nat.le_of_ble_eq_true rfl) ?_
  intro p e s m below meth c ls hx hb hr hml hown hts hlocks hK hP hS hl
  have hown : s.vm.findClass RX1 = some m.cls := hown
  have hts : ∀ w ∈ gtbl, w.before _ s = true := fun w h => hts w (List.mem_cons_of_mem _ h)
  have hl : lv_has ls 2 [(0, .ref (ad r)), (1, .int x1)] := hl
  refine lv_aload_n hx hb dX1_valueAt_0 rfl (lv_at hl 0 rfl) ?_
  refine va_get (D := D) (ci := 1) (v := .ref (ad (r + 1))) (C := RX1) (T := TX1) (N := 4) hx hb hts inX1 hown hK hP r (mq_R h0.1) rfl 0 (by decide) (hts _ k_68) (fun _ h9 => h9) rfl dX1_valueAt_1 ?_
  refine lv_aload_n hx hb dX1_valueAt_4 rfl (lv_at hl 0 rfl) ?_
  refine lv_iload_n hx hb dX1_valueAt_5 rfl (lv_at hl 1 rfl) ?_
  have g1 := ok.1
  have ok := ok.2
  refine q_callp (va_runV (As := [.int x1]) (rest := [.ref (ad (r + 1))]) ⟨hx, hb, hml, hown, hts⟩ (c_R_slot l D cs ad hi h0 I x1 g1) (cwV 1 hts (gV k_147 k_148 k_430 k_5 k_149) rfl rfl rfl (by decide +kernel) ⟨Nat.le_of_ble_eq_true rfl, Nat.le_of_ble_eq_true rfl⟩) (q_preV hK hP (va_recv hK hP (ci := 1) (q0 := r) rfl (mq_R h0.1))) rfl rfl hl.1 rfl (lv_room (Nat.le_of_ble_eq_true rfl)) dX1_valueAt_6 ⟨Nat.zero_le _, Nat.zero_le _⟩) hS (fun _ h => h) (fun H locs hP hS => ?_)
  have g2 := ok
  refine va_iald hx hb hK hP (r + 1) 0 (mq_A h0.2.1) rfl g2 dX1_valueAt_9 ?_
  exact q_iretP hx hb hr hlocks dX1_valueAt_10 hP hS rfl
def f_R_originAt (I : Mm) (r n : Nat) (x1 : Int32) : Int32 := (I (r + 2) ((f_R_slot r n x1).toNatClampNeg))
def ok_R_originAt  (r n : Nat) (x1 : Int32) : Prop := ok_R_slot r n x1 ∧ (vp_in (f_R_slot r n x1) n)
set_option maxHeartbeats 4000000 in
set_option maxRecDepth 100000 in
theorem c_R_originAt (l : Launch) (D : va_G) (cs : Nat → ClassId) (ad : Nat → Nat) (hi : mi ad) {r n : Nat} (h0 : isR r n) (I : Mm) (x1 : Int32) (ok : ok_R_originAt r n x1) : MC l yX1_originAt wX1_originAt { frames := 2, cells := 0, slots := 0, locals := 43 } D cs ad [.ref (ad r), .int x1] I (some (.int (f_R_originAt I r n x1))) I := by
  unfold ok_R_originAt at ok
  refine q_enter (cc := cX1_originAt) (maxL := 2) (ret := (some .int)) (by decide +kernel) rfl (Nat.le_of_ble_eq_true rfl) ?_
  intro p e s m below meth c ls hx hb hr hml hown hts hlocks hK hP hS hl
  have hown : s.vm.findClass RX1 = some m.cls := hown
  have hts : ∀ w ∈ gtbl, w.before _ s = true := fun w h => hts w (List.mem_cons_of_mem _ h)
  have hl : lv_has ls 2 [(0, .ref (ad r)), (1, .int x1)] := hl
  refine lv_aload_n hx hb dX1_originAt_0 rfl (lv_at hl 0 rfl) ?_
  refine va_get (D := D) (ci := 1) (v := .ref (ad (r + 2))) (C := RX1) (T := TX1) (N := 4) hx hb hts inX1 hown hK hP r (mq_R h0.1) rfl 1 (by decide) (hts _ k_69) (fun _ h9 => h9) rfl dX1_originAt_1 ?_
  refine lv_aload_n hx hb dX1_originAt_4 rfl (lv_at hl 0 rfl) ?_
  refine lv_iload_n hx hb dX1_originAt_5 rfl (lv_at hl 1 rfl) ?_
  have g1 := ok.1
  have ok := ok.2
  refine q_callp (va_runV (As := [.int x1]) (rest := [.ref (ad (r + 2))]) ⟨hx, hb, hml, hown, hts⟩ (c_R_slot l D cs ad hi h0 I x1 g1) (cwV 1 hts (gV k_147 k_148 k_430 k_5 k_149) rfl rfl rfl (by decide +kernel) ⟨Nat.le_of_ble_eq_true rfl, Nat.le_of_ble_eq_true rfl⟩) (q_preV hK hP (va_recv hK hP (ci := 1) (q0 := r) rfl (mq_R h0.1))) rfl rfl hl.1 rfl (lv_room (Nat.le_of_ble_eq_true rfl)) dX1_originAt_6 ⟨Nat.zero_le _, Nat.zero_le _⟩) hS (fun _ h => h) (fun H locs hP hS => ?_)
  have g2 := ok
  refine va_iald hx hb hK hP (r + 2) 0 (mq_A h0.2.2) rfl g2 dX1_originAt_9 ?_
  exact q_iretP hx hb hr hlocks dX1_originAt_10 hP hS rfl
def m_R_append_1 (I : Mm) (r n : Nat) (x1 x2 : Int32) : Mm := u2 I r 1 ((I r 1) + 1)
def m_R_append_2 (I : Mm) (r n : Nat) (x1 x2 : Int32) : Mm := u2 (m_R_append_1 I r n x1 x2) (r + 1) ((f_R_slot r n ((m_R_append_1 I r n x1 x2) r 1)).toNatClampNeg) x1
def m_R_append_3 (I : Mm) (r n : Nat) (x1 x2 : Int32) : Mm := u2 (m_R_append_2 I r n x1 x2) (r + 2) ((f_R_slot r n ((m_R_append_2 I r n x1 x2) r 1)).toNatClampNeg) x2
def f_R_append (I : Mm) (r n : Nat) (x1 x2 : Int32) : Int32 × Mm := ((m_R_append_3 I r n x1 x2) r 1, (m_R_append_3 I r n x1 x2))
def ok_R_append (I : Mm) (r n : Nat) (x1 x2 : Int32) : Prop := ok_R_slot r n ((m_R_append_1 I r n x1 x2) r 1) ∧ (vp_in (f_R_slot r n ((m_R_append_1 I r n x1 x2) r 1)) n ∧ (ok_R_slot r n ((m_R_append_2 I r n x1 x2) r 1) ∧ (vp_in (f_R_slot r n ((m_R_append_2 I r n x1 x2) r 1)) n)))
set_option maxHeartbeats 4000000 in
set_option maxRecDepth 100000 in
theorem c_R_append (l : Launch) (D : va_G) (cs : Nat → ClassId) (ad : Nat → Nat) (hi : mi ad) {r n : Nat} (h0 : isR r n) (I : Mm) (x1 x2 : Int32) (ok : ok_R_append I r n x1 x2) : MC l yX1_append wX1_append { frames := 2, cells := 0, slots := 0, locals := 43 } D cs ad [.ref (ad r), .int x1, .int x2] I (some (.int (f_R_append I r n x1 x2).1)) (f_R_append I r n x1 x2).2 := by
  unfold ok_R_append at ok
  refine q_enter (cc := cX1_append) (maxL := 3) (ret := (some .int)) (by decide +kernel) rfl (Nat.le_of_ble_eq_true rfl) ?_
  intro p e s m below meth c ls hx hb hr hml hown hts hlocks hK hP hS hl
  have hown : s.vm.findClass RX1 = some m.cls := hown
  have hts : ∀ w ∈ gtbl, w.before _ s = true := fun w h => hts w (List.mem_cons_of_mem _ h)
  have hl : lv_has ls 3 [(0, .ref (ad r)), (1, .int x1), (2, .int x2)] := hl
  refine lv_aload_n hx hb dX1_append_0 rfl (lv_at hl 0 rfl) ?_
  refine lv_dup hx hb dX1_append_1 rfl ?_
  refine va_get (D := D) (ci := 1) (v := .int (I r 1)) (C := RX1) (T := TX1) (N := 4) hx hb hts inX1 hown hK hP r (mq_R h0.1) rfl 3 (by decide) (hts _ k_72) (fun _ h9 => h9) rfl dX1_append_2 ?_
  refine lv_iconst (v := 1) hx hb dX1_append_5 (by decide) ?_
  refine lv_iadd hx hb dX1_append_6 ?_
  refine va_put (D := D) (ci := 1) (v := .int ((I r 1) + 1)) (ty := .int) (C := RX1) (T := TX1) (N := 4) hx hb hts inX1 tyX1 tyX1_ok nmX1 hown hK hP (mD hi) hS r (mq_R h0.1) rfl 3 (by decide) (hts _ k_72) (fun _ h9 => h9) rfl (by decide +kernel) rfl rfl (Nat.le_of_ble_eq_true rfl) dX1_append_7 (fun H locs hP _ hS => ?_)
  have hP := ms_R1 h0.1 hP
  have hP : va_P D vwCl (mw 97 ad (gs cs ad (m_R_append_1 I r n x1 x2))) H := hP
  refine lv_aload_n hx hb dX1_append_10 rfl (lv_at hl 0 rfl) ?_
  refine va_get (D := D) (ci := 1) (v := .ref (ad (r + 1))) (C := RX1) (T := TX1) (N := 4) hx hb hts inX1 hown hK hP r (mq_R h0.1) rfl 0 (by decide) (hts _ k_68) (fun _ h9 => h9) rfl dX1_append_11 ?_
  refine lv_aload_n hx hb dX1_append_14 rfl (lv_at hl 0 rfl) ?_
  refine lv_aload_n hx hb dX1_append_15 rfl (lv_at hl 0 rfl) ?_
  refine va_get (D := D) (ci := 1) (v := .int ((m_R_append_1 I r n x1 x2) r 1)) (C := RX1) (T := TX1) (N := 4) hx hb hts inX1 hown hK hP r (mq_R h0.1) rfl 3 (by decide) (hts _ k_72) (fun _ h9 => h9) rfl dX1_append_16 ?_
  have g1 := ok.1
  have ok := ok.2
  refine q_callp (va_runV (As := [.int ((m_R_append_1 I r n x1 x2) r 1)]) (rest := [.ref (ad (r + 1))]) ⟨hx, hb, hml, hown, hts⟩ (c_R_slot l D cs ad hi h0 (m_R_append_1 I r n x1 x2) ((m_R_append_1 I r n x1 x2) r 1) g1) (cwV 1 hts (gV k_147 k_148 k_430 k_5 k_149) rfl rfl rfl (by decide +kernel) ⟨Nat.le_of_ble_eq_true rfl, Nat.le_of_ble_eq_true rfl⟩) (q_preV hK hP (va_recv hK hP (ci := 1) (q0 := r) rfl (mq_R h0.1))) rfl rfl hl.1 rfl (lv_room (Nat.le_of_ble_eq_true rfl)) dX1_append_19 ⟨Nat.zero_le _, Nat.zero_le _⟩) hS (fun _ h => h) (fun H locs hP hS => ?_)
  refine lv_iload_n hx hb dX1_append_22 rfl (lv_at hl 1 rfl) ?_
  have g2 := ok.1
  have ok := ok.2
  refine va_iast hx hb hK hP (mD hi) hS (r + 1) 0 (mq_A h0.2.1) rfl g2 dX1_append_23 (fun H locs hP _ hS => ?_)
  have hP := ms_A h0.2.1 hP
  have hP : va_P D vwCl (mw 97 ad (gs cs ad (m_R_append_2 I r n x1 x2))) H := hP
  refine lv_aload_n hx hb dX1_append_24 rfl (lv_at hl 0 rfl) ?_
  refine va_get (D := D) (ci := 1) (v := .ref (ad (r + 2))) (C := RX1) (T := TX1) (N := 4) hx hb hts inX1 hown hK hP r (mq_R h0.1) rfl 1 (by decide) (hts _ k_69) (fun _ h9 => h9) rfl dX1_append_25 ?_
  refine lv_aload_n hx hb dX1_append_28 rfl (lv_at hl 0 rfl) ?_
  refine lv_aload_n hx hb dX1_append_29 rfl (lv_at hl 0 rfl) ?_
  refine va_get (D := D) (ci := 1) (v := .int ((m_R_append_2 I r n x1 x2) r 1)) (C := RX1) (T := TX1) (N := 4) hx hb hts inX1 hown hK hP r (mq_R h0.1) rfl 3 (by decide) (hts _ k_72) (fun _ h9 => h9) rfl dX1_append_30 ?_
  have g3 := ok.1
  have ok := ok.2
  refine q_callp (va_runV (As := [.int ((m_R_append_2 I r n x1 x2) r 1)]) (rest := [.ref (ad (r + 2))]) ⟨hx, hb, hml, hown, hts⟩ (c_R_slot l D cs ad hi h0 (m_R_append_2 I r n x1 x2) ((m_R_append_2 I r n x1 x2) r 1) g3) (cwV 1 hts (gV k_147 k_148 k_430 k_5 k_149) rfl rfl rfl (by decide +kernel) ⟨Nat.le_of_ble_eq_true rfl, Nat.le_of_ble_eq_true rfl⟩) (q_preV hK hP (va_recv hK hP (ci := 1) (q0 := r) rfl (mq_R h0.1))) rfl rfl hl.1 rfl (lv_room (Nat.le_of_ble_eq_true rfl)) dX1_append_33 ⟨Nat.zero_le _, Nat.zero_le _⟩) hS (fun _ h => h) (fun H locs hP hS => ?_)
  refine lv_iload_n hx hb dX1_append_36 rfl (lv_at hl 2 rfl) ?_
  have g4 := ok
  refine va_iast hx hb hK hP (mD hi) hS (r + 2) 0 (mq_A h0.2.2) rfl g4 dX1_append_37 (fun H locs hP _ hS => ?_)
  have hP := ms_A h0.2.2 hP
  have hP : va_P D vwCl (mw 97 ad (gs cs ad (m_R_append_3 I r n x1 x2))) H := hP
  refine lv_aload_n hx hb dX1_append_38 rfl (lv_at hl 0 rfl) ?_
  refine va_get (D := D) (ci := 1) (v := .int ((m_R_append_3 I r n x1 x2) r 1)) (C := RX1) (T := TX1) (N := 4) hx hb hts inX1 hown hK hP r (mq_R h0.1) rfl 3 (by decide) (hts _ k_72) (fun _ h9 => h9) rfl dX1_append_39 ?_
  exact q_iret hx hb hr hlocks dX1_append_42 hP hS rfl
def m_R_dropThrough_1 (I : Mm) (r n : Nat) (x1 : Int32) : Mm := u2 I r 0 x1
def f_R_dropThrough (I : Mm) (r n : Nat) (x1 : Int32) : Int32 × Mm := (x1 - (I r 0), (m_R_dropThrough_1 I r n x1))
set_option maxHeartbeats 4000000 in
set_option maxRecDepth 100000 in
theorem c_R_dropThrough (l : Launch) (D : va_G) (cs : Nat → ClassId) (ad : Nat → Nat) (hi : mi ad) {r n : Nat} (h0 : isR r n) (I : Mm) (x1 : Int32) : MC l yX1_dropThrough wX1_dropThrough { frames := 0, cells := 0, slots := 0, locals := 0 } D cs ad [.ref (ad r), .int x1] I (some (.int (f_R_dropThrough I r n x1).1)) (f_R_dropThrough I r n x1).2 := by
  refine q_enter (cc := cX1_dropThrough) (maxL := 3) (ret := (some .int)) (by decide +kernel) rfl (Nat.le_of_ble_eq_true rfl) ?_
  intro p e s m below meth c ls hx hb hr hml hown hts hlocks hK hP hS hl
  have hown : s.vm.findClass RX1 = some m.cls := hown
  have hts : ∀ w ∈ gtbl, w.before _ s = true := fun w h => hts w (List.mem_cons_of_mem _ h)
  have hl : lv_has ls 3 [(0, .ref (ad r)), (1, .int x1)] := hl
  refine lv_iload_n hx hb dX1_dropThrough_0 rfl (lv_at hl 1 rfl) ?_
  refine lv_aload_n hx hb dX1_dropThrough_1 rfl (lv_at hl 0 rfl) ?_
  refine va_get (D := D) (ci := 1) (v := .int (I r 0)) (C := RX1) (T := TX1) (N := 4) hx hb hts inX1 hown hK hP r (mq_R h0.1) rfl 2 (by decide) (hts _ k_70) (fun _ h9 => h9) rfl dX1_dropThrough_2 ?_
  refine lv_isub hx hb dX1_dropThrough_5 ?_
  refine lv_istore_n (lv' := [(2, .int (x1 - (I r 0))), (0, .ref (ad r)), (1, .int x1)]) hx hb dX1_dropThrough_6 rfl hl (by decide) rfl (fun ls hl => ?_)
  refine lv_aload_n hx hb dX1_dropThrough_7 rfl (lv_at hl 1 rfl) ?_
  refine lv_iload_n hx hb dX1_dropThrough_8 rfl (lv_at hl 2 rfl) ?_
  refine va_put (D := D) (ci := 1) (v := .int x1) (ty := .int) (C := RX1) (T := TX1) (N := 4) hx hb hts inX1 tyX1 tyX1_ok nmX1 hown hK hP (mD hi) hS r (mq_R h0.1) rfl 2 (by decide) (hts _ k_70) (fun _ h9 => h9) rfl (by decide +kernel) rfl rfl (Nat.le_of_ble_eq_true rfl) dX1_dropThrough_9 (fun H locs hP _ hS => ?_)
  have hP := ms_R0 h0.1 hP
  have hP : va_P D vwCl (mw 97 ad (gs cs ad (m_R_dropThrough_1 I r n x1))) H := hP
  refine lv_iload_n hx hb dX1_dropThrough_12 rfl (lv_at hl 0 rfl) ?_
  exact q_iret hx hb hr hlocks dX1_dropThrough_13 hP hS rfl
end
section
def m_S_copyFrom_1 (I : Mm) (k k2 : Nat) : Mm := u1 I (k + 1) (va_cpy (I (k2 + 1)) (I (k + 1)) ((0 : Int32).toNatClampNeg) ((0 : Int32).toNatClampNeg) ((4 : Int32).toNatClampNeg))
def m_S_copyFrom_2 (I : Mm) (k k2 : Nat) : Mm := u1 (m_S_copyFrom_1 I k k2) (k + 2) (va_cpy ((m_S_copyFrom_1 I k k2) (k2 + 2)) ((m_S_copyFrom_1 I k k2) (k + 2)) ((0 : Int32).toNatClampNeg) ((0 : Int32).toNatClampNeg) ((3 : Int32).toNatClampNeg))
def m_S_copyFrom_3 (I : Mm) (k k2 : Nat) : Mm := u2 (m_S_copyFrom_2 I k k2) k 0 ((m_S_copyFrom_2 I k k2) k2 0)
def m_S_copyFrom_4 (I : Mm) (k k2 : Nat) : Mm := u2 (m_S_copyFrom_3 I k k2) k 1 ((m_S_copyFrom_3 I k k2) k2 1)
def m_S_copyFrom_5 (I : Mm) (k k2 : Nat) : Mm := u2 (m_S_copyFrom_4 I k k2) k 2 ((m_S_copyFrom_4 I k k2) k2 2)
def m_S_copyFrom_6 (I : Mm) (k k2 : Nat) : Mm := u2 (m_S_copyFrom_5 I k k2) k 3 ((m_S_copyFrom_5 I k k2) k2 3)
def f_S_copyFrom (I : Mm) (k k2 : Nat) : Mm := ((m_S_copyFrom_6 I k k2))
set_option maxHeartbeats 4000000 in
set_option maxRecDepth 100000 in
theorem c_S_copyFrom (l : Launch) (D : va_G) (cs : Nat → ClassId) (ad : Nat → Nat) (hi : mi ad) {k k2 : Nat} (h0 : isS k) (h2 : isS k2) (I : Mm) : MC l yX3_copyFrom wX3_copyFrom { frames := 1, cells := 0, slots := 0, locals := 60 } D cs ad [.ref (ad k), .ref (ad k2)] I none (f_S_copyFrom I k k2) := by
  refine q_enter (cc := cX3_copyFrom) (maxL := 2) (ret := none) (by decide +kernel) rfl (Nat.le_of_ble_eq_true rfl) ?_
  intro p e s m below meth c ls hx hb hr hml hown hts hlocks hK hP hS hl
  have hown : s.vm.findClass RX3 = some m.cls := hown
  have hts : ∀ w ∈ gtbl, w.before _ s = true := fun w h => hts w (List.mem_cons_of_mem _ h)
  have hl : lv_has ls 2 [(0, .ref (ad k)), (1, .ref (ad k2))] := hl
  refine lv_aload_n hx hb dX3_copyFrom_0 rfl (lv_at hl 1 rfl) ?_
  refine va_get (D := D) (ci := 3) (v := .ref (ad (k2 + 1))) (C := RX3) (T := TX3) (N := 6) hx hb hts inX3 hown hK hP k2 (mq_S h2.1) rfl 0 (by decide) (hts _ k_44) (fun _ h9 => h9) rfl dX3_copyFrom_1 ?_
  refine lv_iconst (v := 0) hx hb dX3_copyFrom_4 (by decide) ?_
  refine lv_aload_n hx hb dX3_copyFrom_5 rfl (lv_at hl 0 rfl) ?_
  refine va_get (D := D) (ci := 3) (v := .ref (ad (k + 1))) (C := RX3) (T := TX3) (N := 6) hx hb hts inX3 hown hK hP k (mq_S h0.1) rfl 0 (by decide) (hts _ k_44) (fun _ h9 => h9) rfl dX3_copyFrom_6 ?_
  refine lv_iconst (v := 0) hx hb dX3_copyFrom_9 (by decide) ?_
  refine lv_iconst (v := 4) hx hb dX3_copyFrom_10 (by decide) ?_
  refine va_copyi hx hb (by rw [hml]; exact hl.1.symm) hown (hts _ k_215) (hts _ k_217) (hts _ k_216) (hts _ k_8) hK hP (mD hi) hS (k2 + 1) (k + 1) 0 0 (mq_A h2.2.1) (mq_A h0.2.1) rfl rfl rfl (by decide) (by decide) (by decide) (by decide) (by decide) (fun _ _ => rfl) (Nat.le_of_ble_eq_true rfl) (Nat.le_of_ble_eq_true rfl) dX3_copyFrom_11 (fun H locs hP _ hS => ?_)
  have hP := ms_Ac h0.2.1 hP
  have hP : va_P D vwCl (mw 97 ad (gs cs ad (m_S_copyFrom_1 I k k2))) H := hP
  refine lv_aload_n hx hb dX3_copyFrom_14 rfl (lv_at hl 1 rfl) ?_
  refine va_get (D := D) (ci := 3) (v := .ref (ad (k2 + 2))) (C := RX3) (T := TX3) (N := 6) hx hb hts inX3 hown hK hP k2 (mq_S h2.1) rfl 1 (by decide) (hts _ k_46) (fun _ h9 => h9) rfl dX3_copyFrom_15 ?_
  refine lv_iconst (v := 0) hx hb dX3_copyFrom_18 (by decide) ?_
  refine lv_aload_n hx hb dX3_copyFrom_19 rfl (lv_at hl 0 rfl) ?_
  refine va_get (D := D) (ci := 3) (v := .ref (ad (k + 2))) (C := RX3) (T := TX3) (N := 6) hx hb hts inX3 hown hK hP k (mq_S h0.1) rfl 1 (by decide) (hts _ k_46) (fun _ h9 => h9) rfl dX3_copyFrom_20 ?_
  refine lv_iconst (v := 0) hx hb dX3_copyFrom_23 (by decide) ?_
  refine lv_iconst (v := 3) hx hb dX3_copyFrom_24 (by decide) ?_
  refine va_copyi hx hb (by rw [hml]; exact hl.1.symm) hown (hts _ k_215) (hts _ k_217) (hts _ k_216) (hts _ k_8) hK hP (mD hi) hS (k2 + 2) (k + 2) 0 0 (mq_A h2.2.2) (mq_A h0.2.2) rfl rfl rfl (by decide) (by decide) (by decide) (by decide) (by decide) (fun _ _ => rfl) (Nat.le_of_ble_eq_true rfl) (Nat.le_of_ble_eq_true rfl) dX3_copyFrom_25 (fun H locs hP _ hS => ?_)
  have hP := ms_Ac h0.2.2 hP
  have hP : va_P D vwCl (mw 97 ad (gs cs ad (m_S_copyFrom_2 I k k2))) H := hP
  refine lv_aload_n hx hb dX3_copyFrom_28 rfl (lv_at hl 0 rfl) ?_
  refine lv_aload_n hx hb dX3_copyFrom_29 rfl (lv_at hl 1 rfl) ?_
  refine va_get (D := D) (ci := 3) (v := .int ((m_S_copyFrom_2 I k k2) k2 0)) (C := RX3) (T := TX3) (N := 6) hx hb hts inX3 hown hK hP k2 (mq_S h2.1) rfl 2 (by decide) (hts _ k_48) (fun _ h9 => h9) rfl dX3_copyFrom_30 ?_
  refine va_put (D := D) (ci := 3) (v := .int ((m_S_copyFrom_2 I k k2) k2 0)) (ty := .int) (C := RX3) (T := TX3) (N := 6) hx hb hts inX3 tyX3 tyX3_ok nmX3 hown hK hP (mD hi) hS k (mq_S h0.1) rfl 2 (by decide) (hts _ k_48) (fun _ h9 => h9) rfl (by decide +kernel) rfl rfl (Nat.le_of_ble_eq_true rfl) dX3_copyFrom_33 (fun H locs hP _ hS => ?_)
  have hP := ms_S0 h0.1 hP
  have hP : va_P D vwCl (mw 97 ad (gs cs ad (m_S_copyFrom_3 I k k2))) H := hP
  refine lv_aload_n hx hb dX3_copyFrom_36 rfl (lv_at hl 0 rfl) ?_
  refine lv_aload_n hx hb dX3_copyFrom_37 rfl (lv_at hl 1 rfl) ?_
  refine va_get (D := D) (ci := 3) (v := .int ((m_S_copyFrom_3 I k k2) k2 1)) (C := RX3) (T := TX3) (N := 6) hx hb hts inX3 hown hK hP k2 (mq_S h2.1) rfl 3 (by decide) (hts _ k_50) (fun _ h9 => h9) rfl dX3_copyFrom_38 ?_
  refine va_put (D := D) (ci := 3) (v := .int ((m_S_copyFrom_3 I k k2) k2 1)) (ty := .int) (C := RX3) (T := TX3) (N := 6) hx hb hts inX3 tyX3 tyX3_ok nmX3 hown hK hP (mD hi) hS k (mq_S h0.1) rfl 3 (by decide) (hts _ k_50) (fun _ h9 => h9) rfl (by decide +kernel) rfl rfl (Nat.le_of_ble_eq_true rfl) dX3_copyFrom_41 (fun H locs hP _ hS => ?_)
  have hP := ms_S1 h0.1 hP
  have hP : va_P D vwCl (mw 97 ad (gs cs ad (m_S_copyFrom_4 I k k2))) H := hP
  refine lv_aload_n hx hb dX3_copyFrom_44 rfl (lv_at hl 0 rfl) ?_
  refine lv_aload_n hx hb dX3_copyFrom_45 rfl (lv_at hl 1 rfl) ?_
  refine va_get (D := D) (ci := 3) (v := .int ((m_S_copyFrom_4 I k k2) k2 2)) (C := RX3) (T := TX3) (N := 6) hx hb hts inX3 hown hK hP k2 (mq_S h2.1) rfl 4 (by decide) (hts _ k_52) (fun _ h9 => h9) rfl dX3_copyFrom_46 ?_
  refine va_put (D := D) (ci := 3) (v := .int ((m_S_copyFrom_4 I k k2) k2 2)) (ty := .int) (C := RX3) (T := TX3) (N := 6) hx hb hts inX3 tyX3 tyX3_ok nmX3 hown hK hP (mD hi) hS k (mq_S h0.1) rfl 4 (by decide) (hts _ k_52) (fun _ h9 => h9) rfl (by decide +kernel) rfl rfl (Nat.le_of_ble_eq_true rfl) dX3_copyFrom_49 (fun H locs hP _ hS => ?_)
  have hP := ms_S2 h0.1 hP
  have hP : va_P D vwCl (mw 97 ad (gs cs ad (m_S_copyFrom_5 I k k2))) H := hP
  refine lv_aload_n hx hb dX3_copyFrom_52 rfl (lv_at hl 0 rfl) ?_
  refine lv_aload_n hx hb dX3_copyFrom_53 rfl (lv_at hl 1 rfl) ?_
  refine va_get (D := D) (ci := 3) (v := .int ((m_S_copyFrom_5 I k k2) k2 3)) (C := RX3) (T := TX3) (N := 6) hx hb hts inX3 hown hK hP k2 (mq_S h2.1) rfl 5 (by decide) (hts _ k_54) (fun _ h9 => h9) rfl dX3_copyFrom_54 ?_
  refine va_put (D := D) (ci := 3) (v := .int ((m_S_copyFrom_5 I k k2) k2 3)) (ty := .int) (C := RX3) (T := TX3) (N := 6) hx hb hts inX3 tyX3 tyX3_ok nmX3 hown hK hP (mD hi) hS k (mq_S h0.1) rfl 5 (by decide) (hts _ k_54) (fun _ h9 => h9) rfl (by decide +kernel) rfl rfl (Nat.le_of_ble_eq_true rfl) dX3_copyFrom_57 (fun H locs hP _ hS => ?_)
  have hP := ms_S3 h0.1 hP
  have hP : va_P D vwCl (mw 97 ad (gs cs ad (m_S_copyFrom_6 I k k2))) H := hP
  exact q_vret hx hb hr hlocks dX3_copyFrom_60 hP hS rfl
def f_P_isFull (I : Mm) (k : Nat) : Int32 := (if (I k 0) < 16 then 0 else 1)
theorem z_P_isFull (I : Mm) (k : Nat) : narrow .boolean (.int (f_P_isFull I k)) = .int (f_P_isFull I k) := by
  unfold f_P_isFull
  (repeat' split) <;> first | (with_reducible exact nbp0) | (with_reducible exact nbp1)
set_option maxHeartbeats 4000000 in
set_option maxRecDepth 100000 in
theorem c_P_isFull (l : Launch) (D : va_G) (cs : Nat → ClassId) (ad : Nat → Nat) (hi : mi ad) {k : Nat} (h0 : isP k) (I : Mm) : MC l yX2_isFull wX2_isFull { frames := 0, cells := 0, slots := 0, locals := 0 } D cs ad [.ref (ad k)] I (some (.int (f_P_isFull I k))) I := by
  refine q_enter (cc := cX2_isFull) (maxL := 1) (ret := (some .boolean)) (by decide +kernel) rfl (Nat.le_of_ble_eq_true rfl) ?_
  intro p e s m below meth c ls hx hb hr hml hown hts hlocks hK hP hS hl
  have hown : s.vm.findClass RX2 = some m.cls := hown
  have hts : ∀ w ∈ gtbl, w.before _ s = true := fun w h => hts w (List.mem_cons_of_mem _ h)
  have hl : lv_has ls 1 [(0, .ref (ad k))] := hl
  refine lv_aload_n hx hb dX2_isFull_0 rfl (lv_at hl 0 rfl) ?_
  refine va_get (D := D) (ci := 2) (v := .int (I k 0)) (C := RX2) (T := TX2) (N := 4) hx hb hts inX2 hown hK hP k (mq_P h0.1) rfl 3 (by decide) (hts _ k_33) (fun _ h9 => h9) rfl dX2_isFull_1 ?_
  refine lv_bipush (v := 16) hx hb dX2_isFull_4 (by decide) ?_
  refine lv_icmp_lt (tgt := 13) hx hb dX2_isFull_6 (by decide) (fun c1 => ?_) (fun c1 => ?_)
  · have c1 := c1
    refine lv_iconst (v := 0) hx hb dX2_isFull_13 (by decide) ?_
    exact q_zretP hx hb hr hlocks dX2_isFull_14 hP hS rfl (by rw [f_P_isFull, if_pos c1])
  · have c1 := c1
    refine lv_iconst (v := 1) hx hb dX2_isFull_9 (by decide) ?_
    refine lv_goto (tgt := 14) hx hb dX2_isFull_10 (by decide) ?_
    exact q_zretP hx hb hr hlocks dX2_isFull_14 hP hS rfl (by rw [f_P_isFull, if_neg c1])
def f_P_has (I : Mm) (k : Nat) (x1 : Int32) : Int32 := (if x1 < 0 then 0 else (if (I k 0) ≤ x1 then 0 else 1))
theorem z_P_has (I : Mm) (k : Nat) (x1 : Int32) : narrow .boolean (.int (f_P_has I k x1)) = .int (f_P_has I k x1) := by
  unfold f_P_has
  (repeat' split) <;> first | (with_reducible exact nbp0) | (with_reducible exact nbp1)
set_option maxHeartbeats 4000000 in
set_option maxRecDepth 100000 in
theorem c_P_has (l : Launch) (D : va_G) (cs : Nat → ClassId) (ad : Nat → Nat) (hi : mi ad) {k : Nat} (h0 : isP k) (I : Mm) (x1 : Int32) : MC l yX2_has wX2_has { frames := 0, cells := 0, slots := 0, locals := 0 } D cs ad [.ref (ad k), .int x1] I (some (.int (f_P_has I k x1))) I := by
  refine q_enter (cc := cX2_has) (maxL := 2) (ret := (some .boolean)) (by decide +kernel) rfl (Nat.le_of_ble_eq_true rfl) ?_
  intro p e s m below meth c ls hx hb hr hml hown hts hlocks hK hP hS hl
  have hown : s.vm.findClass RX2 = some m.cls := hown
  have hts : ∀ w ∈ gtbl, w.before _ s = true := fun w h => hts w (List.mem_cons_of_mem _ h)
  have hl : lv_has ls 2 [(0, .ref (ad k)), (1, .int x1)] := hl
  refine lv_iload_n hx hb dX2_has_0 rfl (lv_at hl 1 rfl) ?_
  refine lv_if_lt (tgt := 16) hx hb dX2_has_1 (by decide) (fun c1 => ?_) (fun c1 => ?_)
  · have c1 := c1
    refine lv_iconst (v := 0) hx hb dX2_has_16 (by decide) ?_
    exact q_zretP hx hb hr hlocks dX2_has_17 hP hS rfl (by rw [f_P_has, if_pos c1])
  · have c1 := c1
    refine lv_iload_n hx hb dX2_has_4 rfl (lv_at hl 1 rfl) ?_
    refine lv_aload_n hx hb dX2_has_5 rfl (lv_at hl 0 rfl) ?_
    refine va_get (D := D) (ci := 2) (v := .int (I k 0)) (C := RX2) (T := TX2) (N := 4) hx hb hts inX2 hown hK hP k (mq_P h0.1) rfl 3 (by decide) (hts _ k_33) (fun _ h9 => h9) rfl dX2_has_6 ?_
    refine lv_icmp_ge (tgt := 16) hx hb dX2_has_9 (by decide) (fun c2 => ?_) (fun c2 => ?_)
    · have c2 := c2
      refine lv_iconst (v := 0) hx hb dX2_has_16 (by decide) ?_
      exact q_zretP hx hb hr hlocks dX2_has_17 hP hS rfl (by rw [f_P_has, if_neg c1, if_pos c2])
    · have c2 := c2
      refine lv_iconst (v := 1) hx hb dX2_has_12 (by decide) ?_
      refine lv_goto (tgt := 17) hx hb dX2_has_13 (by decide) ?_
      exact q_zretP hx hb hr hlocks dX2_has_17 hP hS rfl (by rw [f_P_has, if_neg c1, if_neg c2])
def m_P_append_1 (I : Mm) (k : Nat) (x1 x2 x3 : Int32) : Mm := u2 I (k + 1) ((I k 0).toNatClampNeg) x1
def m_P_append_2 (I : Mm) (k : Nat) (x1 x2 x3 : Int32) : Mm := u2 (m_P_append_1 I k x1 x2 x3) (k + 2) (((m_P_append_1 I k x1 x2 x3) k 0).toNatClampNeg) x2
def m_P_append_3 (I : Mm) (k : Nat) (x1 x2 x3 : Int32) : Mm := u2 (m_P_append_2 I k x1 x2 x3) (k + 3) (((m_P_append_2 I k x1 x2 x3) k 0).toNatClampNeg) x3
def m_P_append_4 (I : Mm) (k : Nat) (x1 x2 x3 : Int32) : Mm := u2 (m_P_append_3 I k x1 x2 x3) k 0 (((m_P_append_3 I k x1 x2 x3) k 0) + 1)
def f_P_append (I : Mm) (k : Nat) (x1 x2 x3 : Int32) : Mm := ((m_P_append_4 I k x1 x2 x3))
def ok_P_append (I : Mm) (k : Nat) (x1 x2 x3 : Int32) : Prop := vp_in (I k 0) 16 ∧ (vp_in ((m_P_append_1 I k x1 x2 x3) k 0) 16 ∧ (vp_in ((m_P_append_2 I k x1 x2 x3) k 0) 16))
set_option maxHeartbeats 4000000 in
set_option maxRecDepth 100000 in
theorem c_P_append (l : Launch) (D : va_G) (cs : Nat → ClassId) (ad : Nat → Nat) (hi : mi ad) {k : Nat} (h0 : isP k) (I : Mm) (x1 x2 x3 : Int32) (ok : ok_P_append I k x1 x2 x3) : MC l yX2_append wX2_append { frames := 0, cells := 0, slots := 0, locals := 0 } D cs ad [.ref (ad k), .int x1, .int x2, .int x3] I none (f_P_append I k x1 x2 x3) := by
  unfold ok_P_append at ok
  refine q_enter (cc := cX2_append) (maxL := 4) (ret := none) (by decide +kernel) rfl (Nat.le_of_ble_eq_true rfl) ?_
  intro p e s m below meth c ls hx hb hr hml hown hts hlocks hK hP hS hl
  have hown : s.vm.findClass RX2 = some m.cls := hown
  have hts : ∀ w ∈ gtbl, w.before _ s = true := fun w h => hts w (List.mem_cons_of_mem _ h)
  have hl : lv_has ls 4 [(0, .ref (ad k)), (1, .int x1), (2, .int x2), (3, .int x3)] := hl
  refine lv_aload_n hx hb dX2_append_0 rfl (lv_at hl 0 rfl) ?_
  refine va_get (D := D) (ci := 2) (v := .ref (ad (k + 1))) (C := RX2) (T := TX2) (N := 4) hx hb hts inX2 hown hK hP k (mq_P h0.1) rfl 0 (by decide) (hts _ k_27) (fun _ h9 => h9) rfl dX2_append_1 ?_
  refine lv_aload_n hx hb dX2_append_4 rfl (lv_at hl 0 rfl) ?_
  refine va_get (D := D) (ci := 2) (v := .int (I k 0)) (C := RX2) (T := TX2) (N := 4) hx hb hts inX2 hown hK hP k (mq_P h0.1) rfl 3 (by decide) (hts _ k_33) (fun _ h9 => h9) rfl dX2_append_5 ?_
  refine lv_iload_n hx hb dX2_append_8 rfl (lv_at hl 1 rfl) ?_
  have g1 := ok.1
  have ok := ok.2
  refine va_iast hx hb hK hP (mD hi) hS (k + 1) 0 (mq_A h0.2.1) rfl g1 dX2_append_9 (fun H locs hP _ hS => ?_)
  have hP := ms_A h0.2.1 hP
  have hP : va_P D vwCl (mw 97 ad (gs cs ad (m_P_append_1 I k x1 x2 x3))) H := hP
  refine lv_aload_n hx hb dX2_append_10 rfl (lv_at hl 0 rfl) ?_
  refine va_get (D := D) (ci := 2) (v := .ref (ad (k + 2))) (C := RX2) (T := TX2) (N := 4) hx hb hts inX2 hown hK hP k (mq_P h0.1) rfl 1 (by decide) (hts _ k_29) (fun _ h9 => h9) rfl dX2_append_11 ?_
  refine lv_aload_n hx hb dX2_append_14 rfl (lv_at hl 0 rfl) ?_
  refine va_get (D := D) (ci := 2) (v := .int ((m_P_append_1 I k x1 x2 x3) k 0)) (C := RX2) (T := TX2) (N := 4) hx hb hts inX2 hown hK hP k (mq_P h0.1) rfl 3 (by decide) (hts _ k_33) (fun _ h9 => h9) rfl dX2_append_15 ?_
  refine lv_iload_n hx hb dX2_append_18 rfl (lv_at hl 2 rfl) ?_
  have g2 := ok.1
  have ok := ok.2
  refine va_iast hx hb hK hP (mD hi) hS (k + 2) 0 (mq_A h0.2.2.1) rfl g2 dX2_append_19 (fun H locs hP _ hS => ?_)
  have hP := ms_A h0.2.2.1 hP
  have hP : va_P D vwCl (mw 97 ad (gs cs ad (m_P_append_2 I k x1 x2 x3))) H := hP
  refine lv_aload_n hx hb dX2_append_20 rfl (lv_at hl 0 rfl) ?_
  refine va_get (D := D) (ci := 2) (v := .ref (ad (k + 3))) (C := RX2) (T := TX2) (N := 4) hx hb hts inX2 hown hK hP k (mq_P h0.1) rfl 2 (by decide) (hts _ k_31) (fun _ h9 => h9) rfl dX2_append_21 ?_
  refine lv_aload_n hx hb dX2_append_24 rfl (lv_at hl 0 rfl) ?_
  refine va_get (D := D) (ci := 2) (v := .int ((m_P_append_2 I k x1 x2 x3) k 0)) (C := RX2) (T := TX2) (N := 4) hx hb hts inX2 hown hK hP k (mq_P h0.1) rfl 3 (by decide) (hts _ k_33) (fun _ h9 => h9) rfl dX2_append_25 ?_
  refine lv_iload_n hx hb dX2_append_28 rfl (lv_at hl 3 rfl) ?_
  have g3 := ok
  refine va_iast hx hb hK hP (mD hi) hS (k + 3) 0 (mq_A h0.2.2.2) rfl g3 dX2_append_29 (fun H locs hP _ hS => ?_)
  have hP := ms_A h0.2.2.2 hP
  have hP : va_P D vwCl (mw 97 ad (gs cs ad (m_P_append_3 I k x1 x2 x3))) H := hP
  refine lv_aload_n hx hb dX2_append_30 rfl (lv_at hl 0 rfl) ?_
  refine lv_dup hx hb dX2_append_31 rfl ?_
  refine va_get (D := D) (ci := 2) (v := .int ((m_P_append_3 I k x1 x2 x3) k 0)) (C := RX2) (T := TX2) (N := 4) hx hb hts inX2 hown hK hP k (mq_P h0.1) rfl 3 (by decide) (hts _ k_33) (fun _ h9 => h9) rfl dX2_append_32 ?_
  refine lv_iconst (v := 1) hx hb dX2_append_35 (by decide) ?_
  refine lv_iadd hx hb dX2_append_36 ?_
  refine va_put (D := D) (ci := 2) (v := .int (((m_P_append_3 I k x1 x2 x3) k 0) + 1)) (ty := .int) (C := RX2) (T := TX2) (N := 4) hx hb hts inX2 tyX2 tyX2_ok nmX2 hown hK hP (mD hi) hS k (mq_P h0.1) rfl 3 (by decide) (hts _ k_33) (fun _ h9 => h9) rfl (by decide +kernel) rfl rfl (Nat.le_of_ble_eq_true rfl) dX2_append_37 (fun H locs hP _ hS => ?_)
  have hP := ms_P0 h0.1 hP
  have hP : va_P D vwCl (mw 97 ad (gs cs ad (m_P_append_4 I k x1 x2 x3))) H := hP
  exact q_vret hx hb hr hlocks dX2_append_40 hP hS rfl
end
section
def f_G_isProcess  (x1 : Int32) : Int32 := (if x1 < 0 then 0 else (if 3 ≤ x1 then 0 else 1))
theorem z_G_isProcess  (x1 : Int32) : narrow .boolean (.int (f_G_isProcess x1)) = .int (f_G_isProcess x1) := by
  unfold f_G_isProcess
  (repeat' split) <;> first | (with_reducible exact nbp0) | (with_reducible exact nbp1)
set_option maxHeartbeats 4000000 in
set_option maxRecDepth 100000 in
theorem c_G_isProcess (l : Launch) (D : va_G) (cs : Nat → ClassId) (ad : Nat → Nat) (hi : mi ad) (I : Mm) (x1 : Int32) : MC l yX4_isProcess wX4_isProcess { frames := 0, cells := 0, slots := 0, locals := 0 } D cs ad [.int x1] I (some (.int (f_G_isProcess x1))) I := by
  refine q_enter (cc := cX4_isProcess) (maxL := 1) (ret := (some .boolean)) (by decide +kernel) rfl (Nat.le_of_ble_eq_true rfl) ?_
  intro p e s m below meth c ls hx hb hr hml hown hts hlocks hK hP hS hl
  have hown : s.vm.findClass RX4 = some m.cls := hown
  have hts : ∀ w ∈ gtbl, w.before _ s = true := fun w h => hts w (List.mem_cons_of_mem _ h)
  have hl : lv_has ls 1 [(0, .int x1)] := hl
  refine lv_iload_n hx hb dX4_isProcess_0 rfl (lv_at hl 0 rfl) ?_
  refine lv_if_lt (tgt := 13) hx hb dX4_isProcess_1 (by decide) (fun c1 => ?_) (fun c1 => ?_)
  · have c1 := c1
    refine lv_iconst (v := 0) hx hb dX4_isProcess_13 (by decide) ?_
    exact q_zretP hx hb hr hlocks dX4_isProcess_14 hP hS rfl (by rw [f_G_isProcess, if_pos c1])
  · have c1 := c1
    refine lv_iload_n hx hb dX4_isProcess_4 rfl (lv_at hl 0 rfl) ?_
    refine lv_iconst (v := 3) hx hb dX4_isProcess_5 (by decide) ?_
    refine lv_icmp_ge (tgt := 13) hx hb dX4_isProcess_6 (by decide) (fun c2 => ?_) (fun c2 => ?_)
    · have c2 := c2
      refine lv_iconst (v := 0) hx hb dX4_isProcess_13 (by decide) ?_
      exact q_zretP hx hb hr hlocks dX4_isProcess_14 hP hS rfl (by rw [f_G_isProcess, if_neg c1, if_pos c2])
    · have c2 := c2
      refine lv_iconst (v := 1) hx hb dX4_isProcess_9 (by decide) ?_
      refine lv_goto (tgt := 14) hx hb dX4_isProcess_10 (by decide) ?_
      exact q_zretP hx hb hr hlocks dX4_isProcess_14 hP hS rfl (by rw [f_G_isProcess, if_neg c1, if_neg c2])
def f_G_isRegister  (x1 : Int32) : Int32 := (if x1 < 0 then 0 else (if 4 ≤ x1 then 0 else 1))
theorem z_G_isRegister  (x1 : Int32) : narrow .boolean (.int (f_G_isRegister x1)) = .int (f_G_isRegister x1) := by
  unfold f_G_isRegister
  (repeat' split) <;> first | (with_reducible exact nbp0) | (with_reducible exact nbp1)
set_option maxHeartbeats 4000000 in
set_option maxRecDepth 100000 in
theorem c_G_isRegister (l : Launch) (D : va_G) (cs : Nat → ClassId) (ad : Nat → Nat) (hi : mi ad) (I : Mm) (x1 : Int32) : MC l yX4_isRegister wX4_isRegister { frames := 0, cells := 0, slots := 0, locals := 0 } D cs ad [.int x1] I (some (.int (f_G_isRegister x1))) I := by
  refine q_enter (cc := cX4_isRegister) (maxL := 1) (ret := (some .boolean)) (by decide +kernel) rfl (Nat.le_of_ble_eq_true rfl) ?_
  intro p e s m below meth c ls hx hb hr hml hown hts hlocks hK hP hS hl
  have hown : s.vm.findClass RX4 = some m.cls := hown
  have hts : ∀ w ∈ gtbl, w.before _ s = true := fun w h => hts w (List.mem_cons_of_mem _ h)
  have hl : lv_has ls 1 [(0, .int x1)] := hl
  refine lv_iload_n hx hb dX4_isRegister_0 rfl (lv_at hl 0 rfl) ?_
  refine lv_if_lt (tgt := 13) hx hb dX4_isRegister_1 (by decide) (fun c1 => ?_) (fun c1 => ?_)
  · have c1 := c1
    refine lv_iconst (v := 0) hx hb dX4_isRegister_13 (by decide) ?_
    exact q_zretP hx hb hr hlocks dX4_isRegister_14 hP hS rfl (by rw [f_G_isRegister, if_pos c1])
  · have c1 := c1
    refine lv_iload_n hx hb dX4_isRegister_4 rfl (lv_at hl 0 rfl) ?_
    refine lv_iconst (v := 4) hx hb dX4_isRegister_5 (by decide) ?_
    refine lv_icmp_ge (tgt := 13) hx hb dX4_isRegister_6 (by decide) (fun c2 => ?_) (fun c2 => ?_)
    · have c2 := c2
      refine lv_iconst (v := 0) hx hb dX4_isRegister_13 (by decide) ?_
      exact q_zretP hx hb hr hlocks dX4_isRegister_14 hP hS rfl (by rw [f_G_isRegister, if_neg c1, if_pos c2])
    · have c2 := c2
      refine lv_iconst (v := 1) hx hb dX4_isRegister_9 (by decide) ?_
      refine lv_goto (tgt := 14) hx hb dX4_isRegister_10 (by decide) ?_
      exact q_zretP hx hb hr hlocks dX4_isRegister_14 hP hS rfl (by rw [f_G_isRegister, if_neg c1, if_neg c2])
def f_G_isChannel  (x1 x2 : Int32) : Int32 := (if (f_G_isProcess x1) = 0 then 0 else (if (f_G_isProcess x2) = 0 then 0 else (if x1 = x2 then 0 else 1)))
theorem z_G_isChannel  (x1 x2 : Int32) : narrow .boolean (.int (f_G_isChannel x1 x2)) = .int (f_G_isChannel x1 x2) := by
  unfold f_G_isChannel
  (repeat' split) <;> first | (with_reducible exact nbp0) | (with_reducible exact nbp1) | (with_reducible exact z_G_isProcess _)
set_option maxHeartbeats 4000000 in
set_option maxRecDepth 100000 in
theorem c_G_isChannel (l : Launch) (D : va_G) (cs : Nat → ClassId) (ad : Nat → Nat) (hi : mi ad) (I : Mm) (x1 x2 : Int32) : MC l yX4_isChannel wX4_isChannel { frames := 1, cells := 0, slots := 0, locals := 20 } D cs ad [.int x1, .int x2] I (some (.int (f_G_isChannel x1 x2))) I := by
  refine q_enter (cc := cX4_isChannel) (maxL := 2) (ret := (some .boolean)) (by decide +kernel) rfl (Nat.le_of_ble_eq_true rfl) ?_
  intro p e s m below meth c ls hx hb hr hml hown hts hlocks hK hP hS hl
  have hown : s.vm.findClass RX4 = some m.cls := hown
  have hts : ∀ w ∈ gtbl, w.before _ s = true := fun w h => hts w (List.mem_cons_of_mem _ h)
  have hl : lv_has ls 2 [(0, .int x1), (1, .int x2)] := hl
  refine lv_iload_n hx hb dX4_isChannel_0 rfl (lv_at hl 0 rfl) ?_
  refine q_callp (va_runS (As := [.int x1]) (rest := []) ⟨hx, hb, hml, hown, hts⟩ (c_G_isProcess l D cs ad hi I x1) (va_cwS 1 hts (gS k_111 k_112 k_1 k_113) rfl rfl rfl (by decide +kernel) ⟨Nat.le_of_ble_eq_true rfl, Nat.le_of_ble_eq_true rfl⟩) (q_preS hK hP) rfl rfl hl.1 rfl (lv_room (Nat.le_of_ble_eq_true rfl)) dX4_isChannel_1 ⟨Nat.zero_le _, Nat.zero_le _⟩) hS (fun _ h => h) (fun H locs hP hS => ?_)
  refine lv_if_eq (tgt := 23) hx hb dX4_isChannel_4 (by decide) (fun c1 => ?_) (fun c1 => ?_)
  · have c1 := c1
    refine lv_iconst (v := 0) hx hb dX4_isChannel_23 (by decide) ?_
    exact q_zretP hx hb hr hlocks dX4_isChannel_24 hP hS rfl (by rw [f_G_isChannel, if_pos c1])
  · have c1 := c1
    refine lv_iload_n hx hb dX4_isChannel_7 rfl (lv_at hl 1 rfl) ?_
    refine q_callp (va_runS (As := [.int x2]) (rest := []) ⟨hx, hb, hml, hown, hts⟩ (c_G_isProcess l D cs ad hi I x2) (va_cwS 1 hts (gS k_111 k_112 k_1 k_113) rfl rfl rfl (by decide +kernel) ⟨Nat.le_of_ble_eq_true rfl, Nat.le_of_ble_eq_true rfl⟩) (q_preS hK hP) rfl rfl hl.1 rfl (lv_room (Nat.le_of_ble_eq_true rfl)) dX4_isChannel_8 ⟨Nat.zero_le _, Nat.zero_le _⟩) hS (fun _ h => h) (fun H locs hP hS => ?_)
    refine lv_if_eq (tgt := 23) hx hb dX4_isChannel_11 (by decide) (fun c2 => ?_) (fun c2 => ?_)
    · have c2 := c2
      refine lv_iconst (v := 0) hx hb dX4_isChannel_23 (by decide) ?_
      exact q_zretP hx hb hr hlocks dX4_isChannel_24 hP hS rfl (by rw [f_G_isChannel, if_neg c1, if_pos c2])
    · have c2 := c2
      refine lv_iload_n hx hb dX4_isChannel_14 rfl (lv_at hl 0 rfl) ?_
      refine lv_iload_n hx hb dX4_isChannel_15 rfl (lv_at hl 1 rfl) ?_
      refine lv_icmp_eq (tgt := 23) hx hb dX4_isChannel_16 (by decide) (fun c3 => ?_) (fun c3 => ?_)
      · have c3 := c3
        refine lv_iconst (v := 0) hx hb dX4_isChannel_23 (by decide) ?_
        exact q_zretP hx hb hr hlocks dX4_isChannel_24 hP hS rfl (by rw [f_G_isChannel, if_neg c1, if_neg c2, if_pos c3])
      · have c3 := c3
        refine lv_iconst (v := 1) hx hb dX4_isChannel_19 (by decide) ?_
        refine lv_goto (tgt := 24) hx hb dX4_isChannel_20 (by decide) ?_
        exact q_zretP hx hb hr hlocks dX4_isChannel_24 hP hS rfl (by rw [f_G_isChannel, if_neg c1, if_neg c2, if_neg c3])
def f_G_isInstruction  (x1 x2 x3 x4 : Int32) : Int32 := (if x2 = 0 then (f_G_isRegister x3) else (if x2 = 1 then (if (f_G_isRegister x3) = 0 then 0 else (if (f_G_isRegister x4) = 0 then 0 else 1)) else (if x2 = 2 then (if (f_G_isRegister x3) = 0 then 0 else (if (f_G_isRegister x4) = 0 then 0 else 1)) else (if x2 = 3 then (if (f_G_isRegister x3) = 0 then 0 else (if (f_G_isRegister x4) = 0 then 0 else 1)) else (if x2 = 4 then (if x3 < 0 then 0 else (if 16 ≤ x3 then 0 else 1)) else (if x2 = 5 then (if (f_G_isChannel x1 x3) = 0 then 0 else (if (f_G_isRegister x4) = 0 then 0 else 1)) else (if x2 = 6 then (if (f_G_isRegister x3) = 0 then 0 else (if (f_G_isRegister x4) = 0 then 0 else 1)) else (if x2 = 7 then (f_G_isRegister x3) else 0))))))))
theorem z_G_isInstruction  (x1 x2 x3 x4 : Int32) : narrow .boolean (.int (f_G_isInstruction x1 x2 x3 x4)) = .int (f_G_isInstruction x1 x2 x3 x4) := by
  unfold f_G_isInstruction
  (repeat' split) <;> first | (with_reducible exact nbp0) | (with_reducible exact nbp1) | (with_reducible exact z_G_isChannel _ _) | (with_reducible exact z_G_isRegister _)
set_option maxHeartbeats 4000000 in
set_option maxRecDepth 100000 in
theorem c_G_isInstruction (l : Launch) (D : va_G) (cs : Nat → ClassId) (ad : Nat → Nat) (hi : mi ad) (I : Mm) (x1 x2 x3 x4 : Int32) : MC l yX4_isInstruction wX4_isInstruction { frames := 2, cells := 0, slots := 0, locals := 41 } D cs ad [.int x1, .int x2, .int x3, .int x4] I (some (.int (f_G_isInstruction x1 x2 x3 x4))) I := by
  refine q_enter (cc := cX4_isInstruction) (maxL := 4) (ret := (some .boolean)) (by decide +kernel) rfl (Nat.le_of_ble_eq_true rfl) ?_
  intro p e s m below meth c ls hx hb hr hml hown hts hlocks hK hP hS hl
  have hown : s.vm.findClass RX4 = some m.cls := hown
  have hts : ∀ w ∈ gtbl, w.before _ s = true := fun w h => hts w (List.mem_cons_of_mem _ h)
  have hl : lv_has ls 4 [(0, .int x1), (1, .int x2), (2, .int x3), (3, .int x4)] := hl
  refine lv_iload_n hx hb dX4_isInstruction_0 rfl (lv_at hl 1 rfl) ?_
  by_cases c1 : x2 = 0
  · have c1 := c1
    refine lv_tableIn (tgt := 48) (off := 47) hx hb dX4_isInstruction_1 (by rw [c1]; decide) (by rw [c1]; decide) (by rw [c1]; rfl) (by decide) ?_
    refine lv_iload_n hx hb dX4_isInstruction_48 rfl (lv_at hl 2 rfl) ?_
    refine q_callp (va_runS (As := [.int x3]) (rest := []) ⟨hx, hb, hml, hown, hts⟩ (c_G_isRegister l D cs ad hi I x3) (va_cwS 1 hts (gS k_117 k_118 k_1 k_119) rfl rfl rfl (by decide +kernel) ⟨Nat.le_of_ble_eq_true rfl, Nat.le_of_ble_eq_true rfl⟩) (q_preS hK hP) rfl rfl hl.1 rfl (lv_room (Nat.le_of_ble_eq_true rfl)) dX4_isInstruction_49 ⟨Nat.zero_le _, Nat.zero_le _⟩) hS (fun _ h => h) (fun H locs hP hS => ?_)
    exact q_zretP hx hb hr hlocks dX4_isInstruction_52 hP hS (z_G_isRegister x3) (by rw [f_G_isInstruction, if_pos c1])
  · have c1 := c1
    by_cases c2 : x2 = 1
    · have c2 := c2
      refine lv_tableIn (tgt := 53) (off := 52) hx hb dX4_isInstruction_1 (by rw [c2]; decide) (by rw [c2]; decide) (by rw [c2]; rfl) (by decide) ?_
      refine lv_iload_n hx hb dX4_isInstruction_53 rfl (lv_at hl 2 rfl) ?_
      refine q_callp (va_runS (As := [.int x3]) (rest := []) ⟨hx, hb, hml, hown, hts⟩ (c_G_isRegister l D cs ad hi I x3) (va_cwS 1 hts (gS k_117 k_118 k_1 k_119) rfl rfl rfl (by decide +kernel) ⟨Nat.le_of_ble_eq_true rfl, Nat.le_of_ble_eq_true rfl⟩) (q_preS hK hP) rfl rfl hl.1 rfl (lv_room (Nat.le_of_ble_eq_true rfl)) dX4_isInstruction_54 ⟨Nat.zero_le _, Nat.zero_le _⟩) hS (fun _ h => h) (fun H locs hP hS => ?_)
      refine lv_if_eq (tgt := 71) hx hb dX4_isInstruction_57 (by decide) (fun c3 => ?_) (fun c3 => ?_)
      · have c3 := c3
        refine lv_iconst (v := 0) hx hb dX4_isInstruction_71 (by decide) ?_
        exact q_zretP hx hb hr hlocks dX4_isInstruction_72 hP hS rfl (by rw [f_G_isInstruction, if_neg c1, if_pos c2, if_pos c3])
      · have c3 := c3
        refine lv_iload_n hx hb dX4_isInstruction_60 rfl (lv_at hl 3 rfl) ?_
        refine q_callp (va_runS (As := [.int x4]) (rest := []) ⟨hx, hb, hml, hown, hts⟩ (c_G_isRegister l D cs ad hi I x4) (va_cwS 1 hts (gS k_117 k_118 k_1 k_119) rfl rfl rfl (by decide +kernel) ⟨Nat.le_of_ble_eq_true rfl, Nat.le_of_ble_eq_true rfl⟩) (q_preS hK hP) rfl rfl hl.1 rfl (lv_room (Nat.le_of_ble_eq_true rfl)) dX4_isInstruction_61 ⟨Nat.zero_le _, Nat.zero_le _⟩) hS (fun _ h => h) (fun H locs hP hS => ?_)
        refine lv_if_eq (tgt := 71) hx hb dX4_isInstruction_64 (by decide) (fun c4 => ?_) (fun c4 => ?_)
        · have c4 := c4
          refine lv_iconst (v := 0) hx hb dX4_isInstruction_71 (by decide) ?_
          exact q_zretP hx hb hr hlocks dX4_isInstruction_72 hP hS rfl (by rw [f_G_isInstruction, if_neg c1, if_pos c2, if_neg c3, if_pos c4])
        · have c4 := c4
          refine lv_iconst (v := 1) hx hb dX4_isInstruction_67 (by decide) ?_
          refine lv_goto (tgt := 72) hx hb dX4_isInstruction_68 (by decide) ?_
          exact q_zretP hx hb hr hlocks dX4_isInstruction_72 hP hS rfl (by rw [f_G_isInstruction, if_neg c1, if_pos c2, if_neg c3, if_neg c4])
    · have c2 := c2
      by_cases c5 : x2 = 2
      · have c5 := c5
        refine lv_tableIn (tgt := 53) (off := 52) hx hb dX4_isInstruction_1 (by rw [c5]; decide) (by rw [c5]; decide) (by rw [c5]; rfl) (by decide) ?_
        refine lv_iload_n hx hb dX4_isInstruction_53 rfl (lv_at hl 2 rfl) ?_
        refine q_callp (va_runS (As := [.int x3]) (rest := []) ⟨hx, hb, hml, hown, hts⟩ (c_G_isRegister l D cs ad hi I x3) (va_cwS 1 hts (gS k_117 k_118 k_1 k_119) rfl rfl rfl (by decide +kernel) ⟨Nat.le_of_ble_eq_true rfl, Nat.le_of_ble_eq_true rfl⟩) (q_preS hK hP) rfl rfl hl.1 rfl (lv_room (Nat.le_of_ble_eq_true rfl)) dX4_isInstruction_54 ⟨Nat.zero_le _, Nat.zero_le _⟩) hS (fun _ h => h) (fun H locs hP hS => ?_)
        refine lv_if_eq (tgt := 71) hx hb dX4_isInstruction_57 (by decide) (fun c6 => ?_) (fun c6 => ?_)
        · have c6 := c6
          refine lv_iconst (v := 0) hx hb dX4_isInstruction_71 (by decide) ?_
          exact q_zretP hx hb hr hlocks dX4_isInstruction_72 hP hS rfl (by rw [f_G_isInstruction, if_neg c1, if_neg c2, if_pos c5, if_pos c6])
        · have c6 := c6
          refine lv_iload_n hx hb dX4_isInstruction_60 rfl (lv_at hl 3 rfl) ?_
          refine q_callp (va_runS (As := [.int x4]) (rest := []) ⟨hx, hb, hml, hown, hts⟩ (c_G_isRegister l D cs ad hi I x4) (va_cwS 1 hts (gS k_117 k_118 k_1 k_119) rfl rfl rfl (by decide +kernel) ⟨Nat.le_of_ble_eq_true rfl, Nat.le_of_ble_eq_true rfl⟩) (q_preS hK hP) rfl rfl hl.1 rfl (lv_room (Nat.le_of_ble_eq_true rfl)) dX4_isInstruction_61 ⟨Nat.zero_le _, Nat.zero_le _⟩) hS (fun _ h => h) (fun H locs hP hS => ?_)
          refine lv_if_eq (tgt := 71) hx hb dX4_isInstruction_64 (by decide) (fun c7 => ?_) (fun c7 => ?_)
          · have c7 := c7
            refine lv_iconst (v := 0) hx hb dX4_isInstruction_71 (by decide) ?_
            exact q_zretP hx hb hr hlocks dX4_isInstruction_72 hP hS rfl (by rw [f_G_isInstruction, if_neg c1, if_neg c2, if_pos c5, if_neg c6, if_pos c7])
          · have c7 := c7
            refine lv_iconst (v := 1) hx hb dX4_isInstruction_67 (by decide) ?_
            refine lv_goto (tgt := 72) hx hb dX4_isInstruction_68 (by decide) ?_
            exact q_zretP hx hb hr hlocks dX4_isInstruction_72 hP hS rfl (by rw [f_G_isInstruction, if_neg c1, if_neg c2, if_pos c5, if_neg c6, if_neg c7])
      · have c5 := c5
        by_cases c8 : x2 = 3
        · have c8 := c8
          refine lv_tableIn (tgt := 53) (off := 52) hx hb dX4_isInstruction_1 (by rw [c8]; decide) (by rw [c8]; decide) (by rw [c8]; rfl) (by decide) ?_
          refine lv_iload_n hx hb dX4_isInstruction_53 rfl (lv_at hl 2 rfl) ?_
          refine q_callp (va_runS (As := [.int x3]) (rest := []) ⟨hx, hb, hml, hown, hts⟩ (c_G_isRegister l D cs ad hi I x3) (va_cwS 1 hts (gS k_117 k_118 k_1 k_119) rfl rfl rfl (by decide +kernel) ⟨Nat.le_of_ble_eq_true rfl, Nat.le_of_ble_eq_true rfl⟩) (q_preS hK hP) rfl rfl hl.1 rfl (lv_room (Nat.le_of_ble_eq_true rfl)) dX4_isInstruction_54 ⟨Nat.zero_le _, Nat.zero_le _⟩) hS (fun _ h => h) (fun H locs hP hS => ?_)
          refine lv_if_eq (tgt := 71) hx hb dX4_isInstruction_57 (by decide) (fun c9 => ?_) (fun c9 => ?_)
          · have c9 := c9
            refine lv_iconst (v := 0) hx hb dX4_isInstruction_71 (by decide) ?_
            exact q_zretP hx hb hr hlocks dX4_isInstruction_72 hP hS rfl (by rw [f_G_isInstruction, if_neg c1, if_neg c2, if_neg c5, if_pos c8, if_pos c9])
          · have c9 := c9
            refine lv_iload_n hx hb dX4_isInstruction_60 rfl (lv_at hl 3 rfl) ?_
            refine q_callp (va_runS (As := [.int x4]) (rest := []) ⟨hx, hb, hml, hown, hts⟩ (c_G_isRegister l D cs ad hi I x4) (va_cwS 1 hts (gS k_117 k_118 k_1 k_119) rfl rfl rfl (by decide +kernel) ⟨Nat.le_of_ble_eq_true rfl, Nat.le_of_ble_eq_true rfl⟩) (q_preS hK hP) rfl rfl hl.1 rfl (lv_room (Nat.le_of_ble_eq_true rfl)) dX4_isInstruction_61 ⟨Nat.zero_le _, Nat.zero_le _⟩) hS (fun _ h => h) (fun H locs hP hS => ?_)
            refine lv_if_eq (tgt := 71) hx hb dX4_isInstruction_64 (by decide) (fun c10 => ?_) (fun c10 => ?_)
            · have c10 := c10
              refine lv_iconst (v := 0) hx hb dX4_isInstruction_71 (by decide) ?_
              exact q_zretP hx hb hr hlocks dX4_isInstruction_72 hP hS rfl (by rw [f_G_isInstruction, if_neg c1, if_neg c2, if_neg c5, if_pos c8, if_neg c9, if_pos c10])
            · have c10 := c10
              refine lv_iconst (v := 1) hx hb dX4_isInstruction_67 (by decide) ?_
              refine lv_goto (tgt := 72) hx hb dX4_isInstruction_68 (by decide) ?_
              exact q_zretP hx hb hr hlocks dX4_isInstruction_72 hP hS rfl (by rw [f_G_isInstruction, if_neg c1, if_neg c2, if_neg c5, if_pos c8, if_neg c9, if_neg c10])
        · have c8 := c8
          by_cases c11 : x2 = 4
          · have c11 := c11
            refine lv_tableIn (tgt := 73) (off := 72) hx hb dX4_isInstruction_1 (by rw [c11]; decide) (by rw [c11]; decide) (by rw [c11]; rfl) (by decide) ?_
            refine lv_iload_n hx hb dX4_isInstruction_73 rfl (lv_at hl 2 rfl) ?_
            refine lv_if_lt (tgt := 87) hx hb dX4_isInstruction_74 (by decide) (fun c12 => ?_) (fun c12 => ?_)
            · have c12 := c12
              refine lv_iconst (v := 0) hx hb dX4_isInstruction_87 (by decide) ?_
              exact q_zretP hx hb hr hlocks dX4_isInstruction_88 hP hS rfl (by rw [f_G_isInstruction, if_neg c1, if_neg c2, if_neg c5, if_neg c8, if_pos c11, if_pos c12])
            · have c12 := c12
              refine lv_iload_n hx hb dX4_isInstruction_77 rfl (lv_at hl 2 rfl) ?_
              refine lv_bipush (v := 16) hx hb dX4_isInstruction_78 (by decide) ?_
              refine lv_icmp_ge (tgt := 87) hx hb dX4_isInstruction_80 (by decide) (fun c13 => ?_) (fun c13 => ?_)
              · have c13 := c13
                refine lv_iconst (v := 0) hx hb dX4_isInstruction_87 (by decide) ?_
                exact q_zretP hx hb hr hlocks dX4_isInstruction_88 hP hS rfl (by rw [f_G_isInstruction, if_neg c1, if_neg c2, if_neg c5, if_neg c8, if_pos c11, if_neg c12, if_pos c13])
              · have c13 := c13
                refine lv_iconst (v := 1) hx hb dX4_isInstruction_83 (by decide) ?_
                refine lv_goto (tgt := 88) hx hb dX4_isInstruction_84 (by decide) ?_
                exact q_zretP hx hb hr hlocks dX4_isInstruction_88 hP hS rfl (by rw [f_G_isInstruction, if_neg c1, if_neg c2, if_neg c5, if_neg c8, if_pos c11, if_neg c12, if_neg c13])
          · have c11 := c11
            by_cases c14 : x2 = 5
            · have c14 := c14
              refine lv_tableIn (tgt := 89) (off := 88) hx hb dX4_isInstruction_1 (by rw [c14]; decide) (by rw [c14]; decide) (by rw [c14]; rfl) (by decide) ?_
              refine lv_iload_n hx hb dX4_isInstruction_89 rfl (lv_at hl 0 rfl) ?_
              refine lv_iload_n hx hb dX4_isInstruction_90 rfl (lv_at hl 2 rfl) ?_
              refine q_callp (va_runS (As := [.int x1, .int x3]) (rest := []) ⟨hx, hb, hml, hown, hts⟩ (c_G_isChannel l D cs ad hi I x1 x3) (va_cwS 2 hts (gS k_120 k_121 k_1 k_122) rfl rfl rfl (by decide +kernel) ⟨Nat.le_of_ble_eq_true rfl, Nat.le_of_ble_eq_true rfl⟩) (q_preS hK hP) rfl rfl hl.1 rfl (lv_room (Nat.le_of_ble_eq_true rfl)) dX4_isInstruction_91 ⟨Nat.zero_le _, Nat.zero_le _⟩) hS (fun _ h => h) (fun H locs hP hS => ?_)
              refine lv_if_eq (tgt := 108) hx hb dX4_isInstruction_94 (by decide) (fun c15 => ?_) (fun c15 => ?_)
              · have c15 := c15
                refine lv_iconst (v := 0) hx hb dX4_isInstruction_108 (by decide) ?_
                exact q_zretP hx hb hr hlocks dX4_isInstruction_109 hP hS rfl (by rw [f_G_isInstruction, if_neg c1, if_neg c2, if_neg c5, if_neg c8, if_neg c11, if_pos c14, if_pos c15])
              · have c15 := c15
                refine lv_iload_n hx hb dX4_isInstruction_97 rfl (lv_at hl 3 rfl) ?_
                refine q_callp (va_runS (As := [.int x4]) (rest := []) ⟨hx, hb, hml, hown, hts⟩ (c_G_isRegister l D cs ad hi I x4) (va_cwS 1 hts (gS k_117 k_118 k_1 k_119) rfl rfl rfl (by decide +kernel) ⟨Nat.le_of_ble_eq_true rfl, Nat.le_of_ble_eq_true rfl⟩) (q_preS hK hP) rfl rfl hl.1 rfl (lv_room (Nat.le_of_ble_eq_true rfl)) dX4_isInstruction_98 ⟨Nat.zero_le _, Nat.zero_le _⟩) hS (fun _ h => h) (fun H locs hP hS => ?_)
                refine lv_if_eq (tgt := 108) hx hb dX4_isInstruction_101 (by decide) (fun c16 => ?_) (fun c16 => ?_)
                · have c16 := c16
                  refine lv_iconst (v := 0) hx hb dX4_isInstruction_108 (by decide) ?_
                  exact q_zretP hx hb hr hlocks dX4_isInstruction_109 hP hS rfl (by rw [f_G_isInstruction, if_neg c1, if_neg c2, if_neg c5, if_neg c8, if_neg c11, if_pos c14, if_neg c15, if_pos c16])
                · have c16 := c16
                  refine lv_iconst (v := 1) hx hb dX4_isInstruction_104 (by decide) ?_
                  refine lv_goto (tgt := 109) hx hb dX4_isInstruction_105 (by decide) ?_
                  exact q_zretP hx hb hr hlocks dX4_isInstruction_109 hP hS rfl (by rw [f_G_isInstruction, if_neg c1, if_neg c2, if_neg c5, if_neg c8, if_neg c11, if_pos c14, if_neg c15, if_neg c16])
            · have c14 := c14
              by_cases c17 : x2 = 6
              · have c17 := c17
                refine lv_tableIn (tgt := 53) (off := 52) hx hb dX4_isInstruction_1 (by rw [c17]; decide) (by rw [c17]; decide) (by rw [c17]; rfl) (by decide) ?_
                refine lv_iload_n hx hb dX4_isInstruction_53 rfl (lv_at hl 2 rfl) ?_
                refine q_callp (va_runS (As := [.int x3]) (rest := []) ⟨hx, hb, hml, hown, hts⟩ (c_G_isRegister l D cs ad hi I x3) (va_cwS 1 hts (gS k_117 k_118 k_1 k_119) rfl rfl rfl (by decide +kernel) ⟨Nat.le_of_ble_eq_true rfl, Nat.le_of_ble_eq_true rfl⟩) (q_preS hK hP) rfl rfl hl.1 rfl (lv_room (Nat.le_of_ble_eq_true rfl)) dX4_isInstruction_54 ⟨Nat.zero_le _, Nat.zero_le _⟩) hS (fun _ h => h) (fun H locs hP hS => ?_)
                refine lv_if_eq (tgt := 71) hx hb dX4_isInstruction_57 (by decide) (fun c18 => ?_) (fun c18 => ?_)
                · have c18 := c18
                  refine lv_iconst (v := 0) hx hb dX4_isInstruction_71 (by decide) ?_
                  exact q_zretP hx hb hr hlocks dX4_isInstruction_72 hP hS rfl (by rw [f_G_isInstruction, if_neg c1, if_neg c2, if_neg c5, if_neg c8, if_neg c11, if_neg c14, if_pos c17, if_pos c18])
                · have c18 := c18
                  refine lv_iload_n hx hb dX4_isInstruction_60 rfl (lv_at hl 3 rfl) ?_
                  refine q_callp (va_runS (As := [.int x4]) (rest := []) ⟨hx, hb, hml, hown, hts⟩ (c_G_isRegister l D cs ad hi I x4) (va_cwS 1 hts (gS k_117 k_118 k_1 k_119) rfl rfl rfl (by decide +kernel) ⟨Nat.le_of_ble_eq_true rfl, Nat.le_of_ble_eq_true rfl⟩) (q_preS hK hP) rfl rfl hl.1 rfl (lv_room (Nat.le_of_ble_eq_true rfl)) dX4_isInstruction_61 ⟨Nat.zero_le _, Nat.zero_le _⟩) hS (fun _ h => h) (fun H locs hP hS => ?_)
                  refine lv_if_eq (tgt := 71) hx hb dX4_isInstruction_64 (by decide) (fun c19 => ?_) (fun c19 => ?_)
                  · have c19 := c19
                    refine lv_iconst (v := 0) hx hb dX4_isInstruction_71 (by decide) ?_
                    exact q_zretP hx hb hr hlocks dX4_isInstruction_72 hP hS rfl (by rw [f_G_isInstruction, if_neg c1, if_neg c2, if_neg c5, if_neg c8, if_neg c11, if_neg c14, if_pos c17, if_neg c18, if_pos c19])
                  · have c19 := c19
                    refine lv_iconst (v := 1) hx hb dX4_isInstruction_67 (by decide) ?_
                    refine lv_goto (tgt := 72) hx hb dX4_isInstruction_68 (by decide) ?_
                    exact q_zretP hx hb hr hlocks dX4_isInstruction_72 hP hS rfl (by rw [f_G_isInstruction, if_neg c1, if_neg c2, if_neg c5, if_neg c8, if_neg c11, if_neg c14, if_pos c17, if_neg c18, if_neg c19])
              · have c17 := c17
                by_cases c20 : x2 = 7
                · have c20 := c20
                  refine lv_tableIn (tgt := 48) (off := 47) hx hb dX4_isInstruction_1 (by rw [c20]; decide) (by rw [c20]; decide) (by rw [c20]; rfl) (by decide) ?_
                  refine lv_iload_n hx hb dX4_isInstruction_48 rfl (lv_at hl 2 rfl) ?_
                  refine q_callp (va_runS (As := [.int x3]) (rest := []) ⟨hx, hb, hml, hown, hts⟩ (c_G_isRegister l D cs ad hi I x3) (va_cwS 1 hts (gS k_117 k_118 k_1 k_119) rfl rfl rfl (by decide +kernel) ⟨Nat.le_of_ble_eq_true rfl, Nat.le_of_ble_eq_true rfl⟩) (q_preS hK hP) rfl rfl hl.1 rfl (lv_room (Nat.le_of_ble_eq_true rfl)) dX4_isInstruction_49 ⟨Nat.zero_le _, Nat.zero_le _⟩) hS (fun _ h => h) (fun H locs hP hS => ?_)
                  exact q_zretP hx hb hr hlocks dX4_isInstruction_52 hP hS (z_G_isRegister x3) (by rw [f_G_isInstruction, if_neg c1, if_neg c2, if_neg c5, if_neg c8, if_neg c11, if_neg c14, if_neg c17, if_pos c20])
                · have c20 := c20
                  refine lv_tableOut (tgt := 110) hx hb dX4_isInstruction_1 (tb_out0_7 c1 c2 c5 c8 c11 c14 c17 c20) (by decide) ?_
                  refine lv_iconst (v := 0) hx hb dX4_isInstruction_110 (by decide) ?_
                  exact q_zretP hx hb hr hlocks dX4_isInstruction_111 hP hS rfl (by rw [f_G_isInstruction, if_neg c1, if_neg c2, if_neg c5, if_neg c8, if_neg c11, if_neg c14, if_neg c17, if_neg c20])
def f_G_outputNumber  (x1 : Int32) : Int32 := (x1 + 1)
set_option maxHeartbeats 4000000 in
set_option maxRecDepth 100000 in
theorem c_G_outputNumber (l : Launch) (D : va_G) (cs : Nat → ClassId) (ad : Nat → Nat) (hi : mi ad) (I : Mm) (x1 : Int32) : MC l yX4_outputNumber wX4_outputNumber { frames := 0, cells := 0, slots := 0, locals := 0 } D cs ad [.int x1] I (some (.int (f_G_outputNumber x1))) I := by
  refine q_enter (cc := cX4_outputNumber) (maxL := 1) (ret := (some .int)) (by decide +kernel) rfl (Nat.le_of_ble_eq_true rfl) ?_
  intro p e s m below meth c ls hx hb hr hml hown hts hlocks hK hP hS hl
  have hown : s.vm.findClass RX4 = some m.cls := hown
  have hts : ∀ w ∈ gtbl, w.before _ s = true := fun w h => hts w (List.mem_cons_of_mem _ h)
  have hl : lv_has ls 1 [(0, .int x1)] := hl
  refine lv_iload_n hx hb dX4_outputNumber_0 rfl (lv_at hl 0 rfl) ?_
  refine lv_iconst (v := 1) hx hb dX4_outputNumber_1 (by decide) ?_
  refine lv_iadd hx hb dX4_outputNumber_2 ?_
  exact q_iretP hx hb hr hlocks dX4_outputNumber_3 hP hS rfl
def ok_G_channelBetween  (x1 x2 : Int32) : Prop := vp_in ((x1 * 3) + x2) 9
set_option maxHeartbeats 4000000 in
set_option maxRecDepth 100000 in
theorem c_G_channelBetween (l : Launch) (D : va_G) (cs : Nat → ClassId) (ad : Nat → Nat) (hi : mi ad) (I : Mm) (x1 x2 : Int32) (ok : ok_G_channelBetween x1 x2) : MC l yX4_channelBetween wX4_channelBetween { frames := 0, cells := 0, slots := 0, locals := 0 } D cs ad [.ref (ad 0), .int x1, .int x2] I (some (.ref (ad (Cb ((x1 * 3) + x2))))) I := by
  unfold ok_G_channelBetween at ok
  refine q_enter (cc := cX4_channelBetween) (maxL := 3) (ret := (some (.object "ReplayGroup$NumberedRow"))) (by decide +kernel) rfl (Nat.le_of_ble_eq_true rfl) ?_
  intro p e s m below meth c ls hx hb hr hml hown hts hlocks hK hP hS hl
  have hown : s.vm.findClass RX4 = some m.cls := hown
  have hts : ∀ w ∈ gtbl, w.before _ s = true := fun w h => hts w (List.mem_cons_of_mem _ h)
  have hl : lv_has ls 3 [(0, .ref (ad 0)), (1, .int x1), (2, .int x2)] := hl
  refine lv_aload_n hx hb dX4_channelBetween_0 rfl (lv_at hl 0 rfl) ?_
  refine va_get (D := D) (ci := 4) (v := .ref (ad 44)) (C := RX4) (T := TX4) (N := 3) hx hb hts inX4 hown hK hP 0 (mq_G isO_0) rfl 1 (by decide) (hts _ k_102) (fun _ h9 => h9) rfl dX4_channelBetween_1 ?_
  refine lv_iload_n hx hb dX4_channelBetween_4 rfl (lv_at hl 1 rfl) ?_
  refine lv_iconst (v := 3) hx hb dX4_channelBetween_5 (by decide) ?_
  refine lv_imul hx hb dX4_channelBetween_6 ?_
  refine lv_iload_n hx hb dX4_channelBetween_7 rfl (lv_at hl 2 rfl) ?_
  refine lv_iadd hx hb dX4_channelBetween_8 ?_
  have g1 := ok
  refine q_ldC hx hb hK hP g1 dX4_channelBetween_9 ?_
  exact q_aret hx hb hr (Or.inl ⟨_, rfl⟩) hlocks dX4_channelBetween_10 hP hS rfl
end
section
def f_G_placeAfter (I : Mm) (k2 : Nat) (x2 x3 x4 : Int32) : Int32 := (if x2 = 4 then x3 else (if x2 = 3 then (if (I (k2 + 1) x4.toNatClampNeg) ≤ (I (k2 + 1) x3.toNatClampNeg) then ((I k2 0) + 1) else ((I k2 0) + 2)) else ((I k2 0) + 1)))
def ok_G_placeAfter  (k2 : Nat) (x2 x3 x4 : Int32) : Prop := (x2 = 4 → True) ∧ (¬ x2 = 4 → (x2 = 3 → vp_in x3 4 ∧ (vp_in x4 4)) ∧ (¬ x2 = 3 → True))
set_option maxHeartbeats 4000000 in
set_option maxRecDepth 100000 in
theorem c_G_placeAfter (l : Launch) (D : va_G) (cs : Nat → ClassId) (ad : Nat → Nat) (hi : mi ad) {k2 : Nat} (h2 : isS k2) (I : Mm) (x2 x3 x4 : Int32) (ok : ok_G_placeAfter k2 x2 x3 x4) : MC l yX4_placeAfter wX4_placeAfter { frames := 0, cells := 0, slots := 0, locals := 0 } D cs ad [.ref (ad k2), .int x2, .int x3, .int x4] I (some (.int (f_G_placeAfter I k2 x2 x3 x4))) I := by
  unfold ok_G_placeAfter at ok
  refine q_enter (cc := cX4_placeAfter) (maxL := 4) (ret := (some .int)) (by decide +kernel) rfl (Nat.le_of_ble_eq_true rfl) ?_
  intro p e s m below meth c ls hx hb hr hml hown hts hlocks hK hP hS hl
  have hown : s.vm.findClass RX4 = some m.cls := hown
  have hts : ∀ w ∈ gtbl, w.before _ s = true := fun w h => hts w (List.mem_cons_of_mem _ h)
  have hl : lv_has ls 4 [(0, .ref (ad k2)), (1, .int x2), (2, .int x3), (3, .int x4)] := hl
  refine lv_iload_n hx hb dX4_placeAfter_0 rfl (lv_at hl 1 rfl) ?_
  refine lv_iconst (v := 4) hx hb dX4_placeAfter_1 (by decide) ?_
  refine lv_icmp_ne (tgt := 7) hx hb dX4_placeAfter_2 (by decide) (fun c1 => ?_) (fun c1 => ?_)
  · have ok := ok.2 c1
    refine lv_iload_n hx hb dX4_placeAfter_7 rfl (lv_at hl 1 rfl) ?_
    refine lv_iconst (v := 3) hx hb dX4_placeAfter_8 (by decide) ?_
    refine lv_icmp_ne (tgt := 34) hx hb dX4_placeAfter_9 (by decide) (fun c2 => ?_) (fun c2 => ?_)
    · have ok := ok.2 c2
      refine lv_aload_n hx hb dX4_placeAfter_34 rfl (lv_at hl 0 rfl) ?_
      refine va_get (D := D) (ci := 3) (v := .int (I k2 0)) (C := RX3) (T := TX3) (N := 6) hx hb hts inX3 hown hK hP k2 (mq_S h2.1) rfl 2 (by decide) (hts _ k_49) (fun _ h9 => h9) rfl dX4_placeAfter_35 ?_
      refine lv_iconst (v := 1) hx hb dX4_placeAfter_38 (by decide) ?_
      refine lv_iadd hx hb dX4_placeAfter_39 ?_
      exact q_iretP hx hb hr hlocks dX4_placeAfter_40 hP hS (by rw [f_G_placeAfter, if_neg c1, if_neg c2])
    · have ok := ok.1 c2
      refine lv_aload_n hx hb dX4_placeAfter_12 rfl (lv_at hl 0 rfl) ?_
      refine va_get (D := D) (ci := 3) (v := .ref (ad (k2 + 1))) (C := RX3) (T := TX3) (N := 6) hx hb hts inX3 hown hK hP k2 (mq_S h2.1) rfl 0 (by decide) (hts _ k_45) (fun _ h9 => h9) rfl dX4_placeAfter_13 ?_
      refine lv_iload_n hx hb dX4_placeAfter_16 rfl (lv_at hl 2 rfl) ?_
      have g3 := ok.1
      have ok := ok.2
      refine va_iald hx hb hK hP (k2 + 1) 0 (mq_A h2.2.1) rfl g3 dX4_placeAfter_17 ?_
      refine lv_aload_n hx hb dX4_placeAfter_18 rfl (lv_at hl 0 rfl) ?_
      refine va_get (D := D) (ci := 3) (v := .ref (ad (k2 + 1))) (C := RX3) (T := TX3) (N := 6) hx hb hts inX3 hown hK hP k2 (mq_S h2.1) rfl 0 (by decide) (hts _ k_45) (fun _ h9 => h9) rfl dX4_placeAfter_19 ?_
      refine lv_iload_n hx hb dX4_placeAfter_22 rfl (lv_at hl 3 rfl) ?_
      have g4 := ok
      refine va_iald hx hb hK hP (k2 + 1) 0 (mq_A h2.2.1) rfl g4 dX4_placeAfter_23 ?_
      refine lv_icmp_ge (tgt := 34) hx hb dX4_placeAfter_24 (by decide) (fun c5 => ?_) (fun c5 => ?_)
      · have c5 := c5
        refine lv_aload_n hx hb dX4_placeAfter_34 rfl (lv_at hl 0 rfl) ?_
        refine va_get (D := D) (ci := 3) (v := .int (I k2 0)) (C := RX3) (T := TX3) (N := 6) hx hb hts inX3 hown hK hP k2 (mq_S h2.1) rfl 2 (by decide) (hts _ k_49) (fun _ h9 => h9) rfl dX4_placeAfter_35 ?_
        refine lv_iconst (v := 1) hx hb dX4_placeAfter_38 (by decide) ?_
        refine lv_iadd hx hb dX4_placeAfter_39 ?_
        exact q_iretP hx hb hr hlocks dX4_placeAfter_40 hP hS (by rw [f_G_placeAfter, if_neg c1, if_pos c2, if_pos c5])
      · have c5 := c5
        refine lv_aload_n hx hb dX4_placeAfter_27 rfl (lv_at hl 0 rfl) ?_
        refine va_get (D := D) (ci := 3) (v := .int (I k2 0)) (C := RX3) (T := TX3) (N := 6) hx hb hts inX3 hown hK hP k2 (mq_S h2.1) rfl 2 (by decide) (hts _ k_49) (fun _ h9 => h9) rfl dX4_placeAfter_28 ?_
        refine lv_iconst (v := 2) hx hb dX4_placeAfter_31 (by decide) ?_
        refine lv_iadd hx hb dX4_placeAfter_32 ?_
        exact q_iretP hx hb hr hlocks dX4_placeAfter_33 hP hS (by rw [f_G_placeAfter, if_neg c1, if_pos c2, if_neg c5])
  · have ok := ok.1 c1
    refine lv_iload_n hx hb dX4_placeAfter_5 rfl (lv_at hl 2 rfl) ?_
    exact q_iretP hx hb hr hlocks dX4_placeAfter_6 hP hS (by rw [f_G_placeAfter, if_pos c1])
def m_G_trySend_1 (I : Mm) (x1 x2 x3 : Int32) : Mm := u2 ((f_R_append I (Cb ((x1 * 3) + x2)) 8 x3 x1).2) (((Mb x1) + 5) + 2) x2.toNatClampNeg ((((f_R_append I (Cb ((x1 * 3) + x2)) 8 x3 x1).2) (((Mb x1) + 5) + 2) x2.toNatClampNeg) + 1)
def m_G_trySend_2 (I : Mm) (x1 x2 x3 : Int32) : Mm := u2 I (Mb x1) 3 ((I (Mb x1) 3) + 1)
def m_G_trySend_3 (I : Mm) (x1 x2 x3 : Int32) : Mm := u2 (m_G_trySend_2 I x1 x2 x3) (((Mb x1) + 5) + 2) x2.toNatClampNeg (((m_G_trySend_2 I x1 x2 x3) (((Mb x1) + 5) + 2) x2.toNatClampNeg) + 1)
def f_G_trySend (I : Mm) (x1 x2 x3 : Int32) : Int32 × Mm := (if (I (Cb ((x1 * 3) + x2)) 1) ≤ (I (((Mb x1) + 5) + 2) x2.toNatClampNeg) then (if (f_R_isFull I (Cb ((x1 * 3) + x2)) 8) = 0 then (1, (m_G_trySend_1 I x1 x2 x3)) else (0, I)) else (1, (m_G_trySend_3 I x1 x2 x3)))
def ok_G_trySend (I : Mm) (x1 x2 x3 : Int32) : Prop := vp_in x1 3 ∧ (ok_G_channelBetween x1 x2 ∧ (vp_in x2 3 ∧ (((I (Cb ((x1 * 3) + x2)) 1) ≤ (I (((Mb x1) + 5) + 2) x2.toNatClampNeg) → ((f_R_isFull I (Cb ((x1 * 3) + x2)) 8) = 0 → ok_R_append I (Cb ((x1 * 3) + x2)) 8 x3 x1) ∧ (¬ (f_R_isFull I (Cb ((x1 * 3) + x2)) 8) = 0 → True)) ∧ (¬ (I (Cb ((x1 * 3) + x2)) 1) ≤ (I (((Mb x1) + 5) + 2) x2.toNatClampNeg) → True))))
theorem z_G_trySend (I : Mm) (x1 x2 x3 : Int32) : narrow .boolean (.int (f_G_trySend I x1 x2 x3).1) = .int (f_G_trySend I x1 x2 x3).1 := by
  unfold f_G_trySend
  (repeat' split) <;> first | (with_reducible exact nb0 _) | (with_reducible exact nb1 _) | (with_reducible exact zz (z_R_isFull _ _ _))
set_option maxHeartbeats 4000000 in
set_option maxRecDepth 100000 in
theorem c_G_trySend (l : Launch) (D : va_G) (cs : Nat → ClassId) (ad : Nat → Nat) (hi : mi ad) (I : Mm) (x1 x2 x3 : Int32) (ok : ok_G_trySend I x1 x2 x3) : MC l yX4_trySend wX4_trySend { frames := 3, cells := 0, slots := 0, locals := 65 } D cs ad [.ref (ad 0), .int x1, .int x2, .int x3] I (some (.int (f_G_trySend I x1 x2 x3).1)) (f_G_trySend I x1 x2 x3).2 := by
  unfold ok_G_trySend at ok
  refine q_enter (cc := cX4_trySend) (maxL := 6) (ret := (some .boolean)) (by decide +kernel) rfl (Nat.le_of_ble_eq_true rfl) ?_
  intro p e s m below meth c ls hx hb hr hml hown hts hlocks hK hP hS hl
  have hown : s.vm.findClass RX4 = some m.cls := hown
  have hts : ∀ w ∈ gtbl, w.before _ s = true := fun w h => hts w (List.mem_cons_of_mem _ h)
  have hl : lv_has ls 6 [(0, .ref (ad 0)), (1, .int x1), (2, .int x2), (3, .int x3)] := hl
  refine lv_aload_n hx hb dX4_trySend_0 rfl (lv_at hl 0 rfl) ?_
  refine va_get (D := D) (ci := 4) (v := .ref (ad 1)) (C := RX4) (T := TX4) (N := 3) hx hb hts inX4 hown hK hP 0 (mq_G isO_0) rfl 0 (by decide) (hts _ k_101) (fun _ h9 => h9) rfl dX4_trySend_1 ?_
  refine lv_iload_n hx hb dX4_trySend_4 rfl (lv_at hl 1 rfl) ?_
  have g1 := ok.1
  have ok := ok.2
  refine q_ldM hx hb hK hP g1 dX4_trySend_5 ?_
  refine lv_astore (lv' := [(4, .ref (ad (Mb x1))), (0, .ref (ad 0)), (1, .int x1), (2, .int x2), (3, .int x3)]) hx hb dX4_trySend_6 hl (by decide) rfl (fun ls hl => ?_)
  refine lv_aload_n hx hb dX4_trySend_8 rfl (lv_at hl 1 rfl) ?_
  refine lv_iload_n hx hb dX4_trySend_9 rfl (lv_at hl 2 rfl) ?_
  refine lv_iload_n hx hb dX4_trySend_10 rfl (lv_at hl 3 rfl) ?_
  have g2 := ok.1
  have ok := ok.2
  refine q_callr (va_runV (As := [.int x1, .int x2]) (rest := []) ⟨hx, hb, hml, hown, hts⟩ (c_G_channelBetween l D cs ad hi I x1 x2 g2) (cwV 2 hts (gV k_157 k_158 k_431 k_1 k_159) rfl rfl rfl (by decide +kernel) ⟨Nat.le_of_ble_eq_true rfl, Nat.le_of_ble_eq_true rfl⟩) (q_preV hK hP (va_recv hK hP (ci := 4) (q0 := 0) rfl (mq_G isO_0))) rfl rfl hl.1 rfl (lv_room (Nat.le_of_ble_eq_true rfl)) dX4_trySend_11 ⟨Nat.zero_le _, Nat.zero_le _⟩) hS (fun _ h => h) (fun H locs hP hS => ?_)
  refine lv_astore (lv' := [(5, .ref (ad (Cb ((x1 * 3) + x2)))), (4, .ref (ad (Mb x1))), (0, .ref (ad 0)), (1, .int x1), (2, .int x2), (3, .int x3)]) hx hb dX4_trySend_14 hl (by decide) rfl (fun ls hl => ?_)
  refine lv_aload hx hb dX4_trySend_16 (lv_at hl 1 rfl) ?_
  refine va_get (D := D) (ci := 0) (v := .ref (ad ((Mb x1) + 5))) (C := RX0) (T := TX0) (N := 8) hx hb hts inX0 hown hK hP (Mb x1) (mq_M (isM_O (isM_in g1))) rfl 1 (by decide) (hts _ k_81) (fun _ h9 => h9) rfl dX4_trySend_18 ?_
  refine va_get (D := D) (ci := 3) (v := .ref (ad (((Mb x1) + 5) + 2))) (C := RX3) (T := TX3) (N := 6) hx hb hts inX3 hown hK hP ((Mb x1) + 5) (mq_S (isM_C (isM_in g1)).1) rfl 1 (by decide) (hts _ k_47) (fun _ h9 => h9) rfl dX4_trySend_21 ?_
  refine lv_iload_n hx hb dX4_trySend_24 rfl (lv_at hl 4 rfl) ?_
  have g3 := ok.1
  have ok := ok.2
  refine va_iald hx hb hK hP (((Mb x1) + 5) + 2) 0 (mq_A (isM_C (isM_in g1)).2.2) rfl g3 dX4_trySend_25 ?_
  refine lv_aload hx hb dX4_trySend_26 (lv_at hl 0 rfl) ?_
  refine va_get (D := D) (ci := 1) (v := .int (I (Cb ((x1 * 3) + x2)) 1)) (C := RX1) (T := TX1) (N := 4) hx hb hts inX1 hown hK hP (Cb ((x1 * 3) + x2)) (mq_R (isR_in g2).1) rfl 3 (by decide) (hts _ k_73) (fun _ h9 => h9) rfl dX4_trySend_28 ?_
  refine lv_icmp_ge (tgt := 48) hx hb dX4_trySend_31 (by decide) (fun c4 => ?_) (fun c4 => ?_)
  · have ok := ok.1 c4
    refine lv_aload hx hb dX4_trySend_48 (lv_at hl 0 rfl) ?_
    refine q_callp (va_runV (As := []) (rest := []) ⟨hx, hb, hml, hown, hts⟩ (c_R_isFull l D cs ad hi (isR_in g2) I) (cwV 0 hts (gV k_135 k_136 k_137 k_5 k_138) rfl rfl rfl (by decide +kernel) ⟨Nat.le_of_ble_eq_true rfl, Nat.le_of_ble_eq_true rfl⟩) (q_preV hK hP (va_recv hK hP (ci := 1) (q0 := (Cb ((x1 * 3) + x2))) rfl (mq_R (isR_in g2).1))) rfl rfl hl.1 rfl (lv_room (Nat.le_of_ble_eq_true rfl)) dX4_trySend_50 ⟨Nat.zero_le _, Nat.zero_le _⟩) hS (fun _ h => h) (fun H locs hP hS => ?_)
    refine lv_if_eq (tgt := 58) hx hb dX4_trySend_53 (by decide) (fun c5 => ?_) (fun c5 => ?_)
    · have ok := ok.1 c5
      refine lv_aload hx hb dX4_trySend_58 (lv_at hl 0 rfl) ?_
      refine lv_iload_n hx hb dX4_trySend_60 rfl (lv_at hl 5 rfl) ?_
      refine lv_iload_n hx hb dX4_trySend_61 rfl (lv_at hl 3 rfl) ?_
      have g6 := ok
      refine q_calli (va_runV (As := [.int x3, .int x1]) (rest := []) ⟨hx, hb, hml, hown, hts⟩ (c_R_append l D cs ad hi (isR_in g2) I x3 x1 g6) (cwV 2 hts (gV k_143 k_144 k_145 k_5 k_146) rfl rfl rfl (by decide +kernel) ⟨Nat.le_of_ble_eq_true rfl, Nat.le_of_ble_eq_true rfl⟩) (q_preV hK hP (va_recv hK hP (ci := 1) (q0 := (Cb ((x1 * 3) + x2))) rfl (mq_R (isR_in g2).1))) rfl rfl hl.1 rfl (lv_room (Nat.le_of_ble_eq_true rfl)) dX4_trySend_62 ⟨Nat.zero_le _, Nat.zero_le _⟩) hS (fun _ h => h) (fun H locs hP hS => ?_)
      refine lv_pop hx hb dX4_trySend_65 rfl ?_
      refine lv_aload hx hb dX4_trySend_66 (lv_at hl 1 rfl) ?_
      refine va_get (D := D) (ci := 0) (v := .ref (ad ((Mb x1) + 5))) (C := RX0) (T := TX0) (N := 8) hx hb hts inX0 hown hK hP (Mb x1) (mq_M (isM_O (isM_in g1))) rfl 1 (by decide) (hts _ k_81) (fun _ h9 => h9) rfl dX4_trySend_68 ?_
      refine va_get (D := D) (ci := 3) (v := .ref (ad (((Mb x1) + 5) + 2))) (C := RX3) (T := TX3) (N := 6) hx hb hts inX3 hown hK hP ((Mb x1) + 5) (mq_S (isM_C (isM_in g1)).1) rfl 1 (by decide) (hts _ k_47) (fun _ h9 => h9) rfl dX4_trySend_71 ?_
      refine lv_iload_n hx hb dX4_trySend_74 rfl (lv_at hl 4 rfl) ?_
      refine lv_dup2_11 hx hb dX4_trySend_75 rfl rfl ?_
      refine va_iald hx hb hK hP (((Mb x1) + 5) + 2) 0 (mq_A (isM_C (isM_in g1)).2.2) rfl g3 dX4_trySend_76 ?_
      refine lv_iconst (v := 1) hx hb dX4_trySend_77 (by decide) ?_
      refine lv_iadd hx hb dX4_trySend_78 ?_
      refine va_iast hx hb hK hP (mD hi) hS (((Mb x1) + 5) + 2) 0 (mq_A (isM_C (isM_in g1)).2.2) rfl g3 dX4_trySend_79 (fun H locs hP _ hS => ?_)
      have hP := ms_A (isM_C (isM_in g1)).2.2 hP
      have hP : va_P D vwCl (mw 97 ad (gs cs ad (m_G_trySend_1 I x1 x2 x3))) H := hP
      refine lv_iconst (v := 1) hx hb dX4_trySend_80 (by decide) ?_
      exact q_zret hx hb hr hlocks dX4_trySend_81 hP hS rfl (by rw [f_G_trySend, if_pos c4, if_pos c5])
    · have ok := ok.2 c5
      refine lv_iconst (v := 0) hx hb dX4_trySend_56 (by decide) ?_
      exact q_zret hx hb hr hlocks dX4_trySend_57 hP hS rfl (by rw [f_G_trySend, if_pos c4, if_neg c5])
  · have ok := ok.2 c4
    refine lv_aload hx hb dX4_trySend_34 (lv_at hl 1 rfl) ?_
    refine lv_dup hx hb dX4_trySend_36 rfl ?_
    refine va_get (D := D) (ci := 0) (v := .int (I (Mb x1) 3)) (C := RX0) (T := TX0) (N := 8) hx hb hts inX0 hown hK hP (Mb x1) (mq_M (isM_O (isM_in g1))) rfl 7 (by decide) (hts _ k_90) (fun _ h9 => h9) rfl dX4_trySend_37 ?_
    refine lv_iconst (v := 1) hx hb dX4_trySend_40 (by decide) ?_
    refine lv_iadd hx hb dX4_trySend_41 ?_
    refine va_put (D := D) (ci := 0) (v := .int ((I (Mb x1) 3) + 1)) (ty := .int) (C := RX0) (T := TX0) (N := 8) hx hb hts inX0 tyX0 tyX0_ok nmX0 hown hK hP (mD hi) hS (Mb x1) (mq_M (isM_O (isM_in g1))) rfl 7 (by decide) (hts _ k_90) (fun _ h9 => h9) rfl (by decide +kernel) rfl rfl (Nat.le_of_ble_eq_true rfl) dX4_trySend_42 (fun H locs hP _ hS => ?_)
    have hP := ms_M3 (isM_O (isM_in g1)) hP
    have hP : va_P D vwCl (mw 97 ad (gs cs ad (m_G_trySend_2 I x1 x2 x3))) H := hP
    refine lv_goto (tgt := 66) hx hb dX4_trySend_45 (by decide) ?_
    refine lv_aload hx hb dX4_trySend_66 (lv_at hl 1 rfl) ?_
    refine va_get (D := D) (ci := 0) (v := .ref (ad ((Mb x1) + 5))) (C := RX0) (T := TX0) (N := 8) hx hb hts inX0 hown hK hP (Mb x1) (mq_M (isM_O (isM_in g1))) rfl 1 (by decide) (hts _ k_81) (fun _ h9 => h9) rfl dX4_trySend_68 ?_
    refine va_get (D := D) (ci := 3) (v := .ref (ad (((Mb x1) + 5) + 2))) (C := RX3) (T := TX3) (N := 6) hx hb hts inX3 hown hK hP ((Mb x1) + 5) (mq_S (isM_C (isM_in g1)).1) rfl 1 (by decide) (hts _ k_47) (fun _ h9 => h9) rfl dX4_trySend_71 ?_
    refine lv_iload_n hx hb dX4_trySend_74 rfl (lv_at hl 4 rfl) ?_
    refine lv_dup2_11 hx hb dX4_trySend_75 rfl rfl ?_
    refine va_iald hx hb hK hP (((Mb x1) + 5) + 2) 0 (mq_A (isM_C (isM_in g1)).2.2) rfl g3 dX4_trySend_76 ?_
    refine lv_iconst (v := 1) hx hb dX4_trySend_77 (by decide) ?_
    refine lv_iadd hx hb dX4_trySend_78 ?_
    refine va_iast hx hb hK hP (mD hi) hS (((Mb x1) + 5) + 2) 0 (mq_A (isM_C (isM_in g1)).2.2) rfl g3 dX4_trySend_79 (fun H locs hP _ hS => ?_)
    have hP := ms_A (isM_C (isM_in g1)).2.2 hP
    have hP : va_P D vwCl (mw 97 ad (gs cs ad (m_G_trySend_3 I x1 x2 x3))) H := hP
    refine lv_iconst (v := 1) hx hb dX4_trySend_80 (by decide) ?_
    exact q_zret hx hb hr hlocks dX4_trySend_81 hP hS rfl (by rw [f_G_trySend, if_neg c4])
def m_G_tryReceive_1 (I : Mm) (x1 x2 x3 : Int32) : Mm := u2 I (((Mb x1) + 5) + 1) x3.toNatClampNeg (f_R_originAt I ((Mb x1) + 11) 20 ((I ((Mb x1) + 5) 2) + 1))
def m_G_tryReceive_2 (I : Mm) (x1 x2 x3 : Int32) : Mm := u2 (m_G_tryReceive_1 I x1 x2 x3) (((Mb x1) + 5) + 1) x2.toNatClampNeg (f_R_valueAt (m_G_tryReceive_1 I x1 x2 x3) ((Mb x1) + 11) 20 ((I ((Mb x1) + 5) 2) + 1))
def m_G_tryReceive_3 (I : Mm) (x1 x2 x3 : Int32) : Mm := u2 (m_G_tryReceive_2 I x1 x2 x3) ((Mb x1) + 5) 2 ((I ((Mb x1) + 5) 2) + 1)
def f_G_tryReceive (I : Mm) (x1 x2 x3 : Int32) : Int32 × Mm := (if (f_R_has I ((Mb x1) + 11) 20 ((I ((Mb x1) + 5) 2) + 1)) = 0 then (0, I) else (1, (m_G_tryReceive_3 I x1 x2 x3)))
def ok_G_tryReceive (I : Mm) (x1 x2 x3 : Int32) : Prop := vp_in x1 3 ∧ (((f_R_has I ((Mb x1) + 11) 20 ((I ((Mb x1) + 5) 2) + 1)) = 0 → True) ∧ (¬ (f_R_has I ((Mb x1) + 11) 20 ((I ((Mb x1) + 5) 2) + 1)) = 0 → ok_R_originAt ((Mb x1) + 11) 20 ((I ((Mb x1) + 5) 2) + 1) ∧ (vp_in x3 4 ∧ (ok_R_valueAt ((Mb x1) + 11) 20 ((I ((Mb x1) + 5) 2) + 1) ∧ (vp_in x2 4)))))
theorem z_G_tryReceive (I : Mm) (x1 x2 x3 : Int32) : narrow .boolean (.int (f_G_tryReceive I x1 x2 x3).1) = .int (f_G_tryReceive I x1 x2 x3).1 := by
  unfold f_G_tryReceive
  (repeat' split) <;> first | (with_reducible exact nb0 _) | (with_reducible exact nb1 _) | (with_reducible exact zz (z_R_has _ _ _ _))
set_option maxHeartbeats 4000000 in
set_option maxRecDepth 100000 in
theorem c_G_tryReceive (l : Launch) (D : va_G) (cs : Nat → ClassId) (ad : Nat → Nat) (hi : mi ad) (I : Mm) (x1 x2 x3 : Int32) (ok : ok_G_tryReceive I x1 x2 x3) : MC l yX4_tryReceive wX4_tryReceive { frames := 3, cells := 0, slots := 0, locals := 64 } D cs ad [.ref (ad 0), .int x1, .int x2, .int x3] I (some (.int (f_G_tryReceive I x1 x2 x3).1)) (f_G_tryReceive I x1 x2 x3).2 := by
  unfold ok_G_tryReceive at ok
  refine q_enter (cc := cX4_tryReceive) (maxL := 6) (ret := (some .boolean)) (by decide +kernel) rfl (Nat.le_of_ble_eq_true rfl) ?_
  intro p e s m below meth c ls hx hb hr hml hown hts hlocks hK hP hS hl
  have hown : s.vm.findClass RX4 = some m.cls := hown
  have hts : ∀ w ∈ gtbl, w.before _ s = true := fun w h => hts w (List.mem_cons_of_mem _ h)
  have hl : lv_has ls 6 [(0, .ref (ad 0)), (1, .int x1), (2, .int x2), (3, .int x3)] := hl
  refine lv_aload_n hx hb dX4_tryReceive_0 rfl (lv_at hl 0 rfl) ?_
  refine va_get (D := D) (ci := 4) (v := .ref (ad 1)) (C := RX4) (T := TX4) (N := 3) hx hb hts inX4 hown hK hP 0 (mq_G isO_0) rfl 0 (by decide) (hts _ k_101) (fun _ h9 => h9) rfl dX4_tryReceive_1 ?_
  refine lv_iload_n hx hb dX4_tryReceive_4 rfl (lv_at hl 1 rfl) ?_
  have g1 := ok.1
  have ok := ok.2
  refine q_ldM hx hb hK hP g1 dX4_tryReceive_5 ?_
  refine lv_astore (lv' := [(4, .ref (ad (Mb x1))), (0, .ref (ad 0)), (1, .int x1), (2, .int x2), (3, .int x3)]) hx hb dX4_tryReceive_6 hl (by decide) rfl (fun ls hl => ?_)
  refine lv_aload hx hb dX4_tryReceive_8 (lv_at hl 0 rfl) ?_
  refine va_get (D := D) (ci := 0) (v := .ref (ad ((Mb x1) + 5))) (C := RX0) (T := TX0) (N := 8) hx hb hts inX0 hown hK hP (Mb x1) (mq_M (isM_O (isM_in g1))) rfl 1 (by decide) (hts _ k_81) (fun _ h9 => h9) rfl dX4_tryReceive_10 ?_
  refine va_get (D := D) (ci := 3) (v := .int (I ((Mb x1) + 5) 2)) (C := RX3) (T := TX3) (N := 6) hx hb hts inX3 hown hK hP ((Mb x1) + 5) (mq_S (isM_C (isM_in g1)).1) rfl 4 (by decide) (hts _ k_53) (fun _ h9 => h9) rfl dX4_tryReceive_13 ?_
  refine lv_iconst (v := 1) hx hb dX4_tryReceive_16 (by decide) ?_
  refine lv_iadd hx hb dX4_tryReceive_17 ?_
  refine lv_istore (lv' := [(5, .int ((I ((Mb x1) + 5) 2) + 1)), (4, .ref (ad (Mb x1))), (0, .ref (ad 0)), (1, .int x1), (2, .int x2), (3, .int x3)]) hx hb dX4_tryReceive_18 hl (by decide) rfl (fun ls hl => ?_)
  refine lv_aload hx hb dX4_tryReceive_20 (lv_at hl 1 rfl) ?_
  refine va_get (D := D) (ci := 0) (v := .ref (ad ((Mb x1) + 11))) (C := RX0) (T := TX0) (N := 8) hx hb hts inX0 hown hK hP (Mb x1) (mq_M (isM_O (isM_in g1))) rfl 3 (by decide) (hts _ k_85) (fun _ h9 => h9) rfl dX4_tryReceive_22 ?_
  refine lv_iload hx hb dX4_tryReceive_25 (lv_at hl 0 rfl) ?_
  refine q_callp (va_runV (As := [.int ((I ((Mb x1) + 5) 2) + 1)]) (rest := []) ⟨hx, hb, hml, hown, hts⟩ (c_R_has l D cs ad hi (isM_L (isM_in g1)) I ((I ((Mb x1) + 5) 2) + 1)) (cwV 1 hts (gV k_192 k_193 k_194 k_5 k_195) rfl rfl rfl (by decide +kernel) ⟨Nat.le_of_ble_eq_true rfl, Nat.le_of_ble_eq_true rfl⟩) (q_preV hK hP (va_recv hK hP (ci := 1) (q0 := ((Mb x1) + 11)) rfl (mq_R (isM_L (isM_in g1)).1))) rfl rfl hl.1 rfl (lv_room (Nat.le_of_ble_eq_true rfl)) dX4_tryReceive_27 ⟨Nat.zero_le _, Nat.zero_le _⟩) hS (fun _ h => h) (fun H locs hP hS => ?_)
  refine lv_if_ne (tgt := 35) hx hb dX4_tryReceive_30 (by decide) (fun c2 => ?_) (fun c2 => ?_)
  · have ok := ok.2 c2
    refine lv_aload hx hb dX4_tryReceive_35 (lv_at hl 1 rfl) ?_
    refine va_get (D := D) (ci := 0) (v := .ref (ad ((Mb x1) + 5))) (C := RX0) (T := TX0) (N := 8) hx hb hts inX0 hown hK hP (Mb x1) (mq_M (isM_O (isM_in g1))) rfl 1 (by decide) (hts _ k_81) (fun _ h9 => h9) rfl dX4_tryReceive_37 ?_
    refine va_get (D := D) (ci := 3) (v := .ref (ad (((Mb x1) + 5) + 1))) (C := RX3) (T := TX3) (N := 6) hx hb hts inX3 hown hK hP ((Mb x1) + 5) (mq_S (isM_C (isM_in g1)).1) rfl 0 (by decide) (hts _ k_45) (fun _ h9 => h9) rfl dX4_tryReceive_40 ?_
    refine lv_iload_n hx hb dX4_tryReceive_43 rfl (lv_at hl 5 rfl) ?_
    refine lv_aload hx hb dX4_tryReceive_44 (lv_at hl 1 rfl) ?_
    refine va_get (D := D) (ci := 0) (v := .ref (ad ((Mb x1) + 11))) (C := RX0) (T := TX0) (N := 8) hx hb hts inX0 hown hK hP (Mb x1) (mq_M (isM_O (isM_in g1))) rfl 3 (by decide) (hts _ k_85) (fun _ h9 => h9) rfl dX4_tryReceive_46 ?_
    refine lv_iload hx hb dX4_tryReceive_49 (lv_at hl 0 rfl) ?_
    have g3 := ok.1
    have ok := ok.2
    refine q_callp (va_runV (As := [.int ((I ((Mb x1) + 5) 2) + 1)]) (rest := [.int x3, .ref (ad (((Mb x1) + 5) + 1))]) ⟨hx, hb, hml, hown, hts⟩ (c_R_originAt l D cs ad hi (isM_L (isM_in g1)) I ((I ((Mb x1) + 5) 2) + 1) g3) (cwV 1 hts (gV k_196 k_197 k_198 k_5 k_199) rfl rfl rfl (by decide +kernel) ⟨Nat.le_of_ble_eq_true rfl, Nat.le_of_ble_eq_true rfl⟩) (q_preV hK hP (va_recv hK hP (ci := 1) (q0 := ((Mb x1) + 11)) rfl (mq_R (isM_L (isM_in g1)).1))) rfl rfl hl.1 rfl (lv_room (Nat.le_of_ble_eq_true rfl)) dX4_tryReceive_51 ⟨Nat.zero_le _, Nat.zero_le _⟩) hS (fun _ h => h) (fun H locs hP hS => ?_)
    have g4 := ok.1
    have ok := ok.2
    refine va_iast hx hb hK hP (mD hi) hS (((Mb x1) + 5) + 1) 0 (mq_A (isM_C (isM_in g1)).2.1) rfl g4 dX4_tryReceive_54 (fun H locs hP _ hS => ?_)
    have hP := ms_A (isM_C (isM_in g1)).2.1 hP
    have hP : va_P D vwCl (mw 97 ad (gs cs ad (m_G_tryReceive_1 I x1 x2 x3))) H := hP
    refine lv_aload hx hb dX4_tryReceive_55 (lv_at hl 1 rfl) ?_
    refine va_get (D := D) (ci := 0) (v := .ref (ad ((Mb x1) + 5))) (C := RX0) (T := TX0) (N := 8) hx hb hts inX0 hown hK hP (Mb x1) (mq_M (isM_O (isM_in g1))) rfl 1 (by decide) (hts _ k_81) (fun _ h9 => h9) rfl dX4_tryReceive_57 ?_
    refine va_get (D := D) (ci := 3) (v := .ref (ad (((Mb x1) + 5) + 1))) (C := RX3) (T := TX3) (N := 6) hx hb hts inX3 hown hK hP ((Mb x1) + 5) (mq_S (isM_C (isM_in g1)).1) rfl 0 (by decide) (hts _ k_45) (fun _ h9 => h9) rfl dX4_tryReceive_60 ?_
    refine lv_iload_n hx hb dX4_tryReceive_63 rfl (lv_at hl 4 rfl) ?_
    refine lv_aload hx hb dX4_tryReceive_64 (lv_at hl 1 rfl) ?_
    refine va_get (D := D) (ci := 0) (v := .ref (ad ((Mb x1) + 11))) (C := RX0) (T := TX0) (N := 8) hx hb hts inX0 hown hK hP (Mb x1) (mq_M (isM_O (isM_in g1))) rfl 3 (by decide) (hts _ k_85) (fun _ h9 => h9) rfl dX4_tryReceive_66 ?_
    refine lv_iload hx hb dX4_tryReceive_69 (lv_at hl 0 rfl) ?_
    have g5 := ok.1
    have ok := ok.2
    refine q_callp (va_runV (As := [.int ((I ((Mb x1) + 5) 2) + 1)]) (rest := [.int x2, .ref (ad (((Mb x1) + 5) + 1))]) ⟨hx, hb, hml, hown, hts⟩ (c_R_valueAt l D cs ad hi (isM_L (isM_in g1)) (m_G_tryReceive_1 I x1 x2 x3) ((I ((Mb x1) + 5) 2) + 1) g5) (cwV 1 hts (gV k_161 k_162 k_163 k_5 k_164) rfl rfl rfl (by decide +kernel) ⟨Nat.le_of_ble_eq_true rfl, Nat.le_of_ble_eq_true rfl⟩) (q_preV hK hP (va_recv hK hP (ci := 1) (q0 := ((Mb x1) + 11)) rfl (mq_R (isM_L (isM_in g1)).1))) rfl rfl hl.1 rfl (lv_room (Nat.le_of_ble_eq_true rfl)) dX4_tryReceive_71 ⟨Nat.zero_le _, Nat.zero_le _⟩) hS (fun _ h => h) (fun H locs hP hS => ?_)
    have g6 := ok
    refine va_iast hx hb hK hP (mD hi) hS (((Mb x1) + 5) + 1) 0 (mq_A (isM_C (isM_in g1)).2.1) rfl g6 dX4_tryReceive_74 (fun H locs hP _ hS => ?_)
    have hP := ms_A (isM_C (isM_in g1)).2.1 hP
    have hP : va_P D vwCl (mw 97 ad (gs cs ad (m_G_tryReceive_2 I x1 x2 x3))) H := hP
    refine lv_aload hx hb dX4_tryReceive_75 (lv_at hl 1 rfl) ?_
    refine va_get (D := D) (ci := 0) (v := .ref (ad ((Mb x1) + 5))) (C := RX0) (T := TX0) (N := 8) hx hb hts inX0 hown hK hP (Mb x1) (mq_M (isM_O (isM_in g1))) rfl 1 (by decide) (hts _ k_81) (fun _ h9 => h9) rfl dX4_tryReceive_77 ?_
    refine lv_iload hx hb dX4_tryReceive_80 (lv_at hl 0 rfl) ?_
    refine va_put (D := D) (ci := 3) (v := .int ((I ((Mb x1) + 5) 2) + 1)) (ty := .int) (C := RX3) (T := TX3) (N := 6) hx hb hts inX3 tyX3 tyX3_ok nmX3 hown hK hP (mD hi) hS ((Mb x1) + 5) (mq_S (isM_C (isM_in g1)).1) rfl 4 (by decide) (hts _ k_53) (fun _ h9 => h9) rfl (by decide +kernel) rfl rfl (Nat.le_of_ble_eq_true rfl) dX4_tryReceive_82 (fun H locs hP _ hS => ?_)
    have hP := ms_S2 (isM_C (isM_in g1)).1 hP
    have hP : va_P D vwCl (mw 97 ad (gs cs ad (m_G_tryReceive_3 I x1 x2 x3))) H := hP
    refine lv_iconst (v := 1) hx hb dX4_tryReceive_85 (by decide) ?_
    exact q_zret hx hb hr hlocks dX4_tryReceive_86 hP hS rfl (by rw [f_G_tryReceive, if_neg c2])
  · have ok := ok.1 c2
    refine lv_iconst (v := 0) hx hb dX4_tryReceive_33 (by decide) ?_
    exact q_zret hx hb hr hlocks dX4_tryReceive_34 hP hS rfl (by rw [f_G_tryReceive, if_pos c2])
def m_G_tryPut_1 (I : Mm) (x1 x2 : Int32) : Mm := u2 ((f_R_append I 72 60 x2 x1).2) (Mb x1) 2 ((((f_R_append I 72 60 x2 x1).2) (Mb x1) 2) + 1)
def m_G_tryPut_2 (I : Mm) (x1 x2 : Int32) : Mm := u2 (m_G_tryPut_1 I x1 x2) ((Mb x1) + 5) 3 (((m_G_tryPut_1 I x1 x2) ((Mb x1) + 5) 3) + 1)
def m_G_tryPut_3 (I : Mm) (x1 x2 : Int32) : Mm := u2 I (Mb x1) 3 ((I (Mb x1) 3) + 1)
def m_G_tryPut_4 (I : Mm) (x1 x2 : Int32) : Mm := u2 (m_G_tryPut_3 I x1 x2) ((Mb x1) + 5) 3 (((m_G_tryPut_3 I x1 x2) ((Mb x1) + 5) 3) + 1)
def f_G_tryPut (I : Mm) (x1 x2 : Int32) : Int32 × Mm := (if (I (Mb x1) 2) ≤ (I ((Mb x1) + 5) 3) then (if (f_R_isFull I 72 60) = 0 then (1, (m_G_tryPut_2 I x1 x2)) else (0, I)) else (1, (m_G_tryPut_4 I x1 x2)))
def ok_G_tryPut (I : Mm) (x1 x2 : Int32) : Prop := vp_in x1 3 ∧ (((I (Mb x1) 2) ≤ (I ((Mb x1) + 5) 3) → ((f_R_isFull I 72 60) = 0 → ok_R_append I 72 60 x2 x1) ∧ (¬ (f_R_isFull I 72 60) = 0 → True)) ∧ (¬ (I (Mb x1) 2) ≤ (I ((Mb x1) + 5) 3) → True))
theorem z_G_tryPut (I : Mm) (x1 x2 : Int32) : narrow .boolean (.int (f_G_tryPut I x1 x2).1) = .int (f_G_tryPut I x1 x2).1 := by
  unfold f_G_tryPut
  (repeat' split) <;> first | (with_reducible exact nb0 _) | (with_reducible exact nb1 _) | (with_reducible exact zz (z_R_isFull _ _ _))
set_option maxHeartbeats 4000000 in
set_option maxRecDepth 100000 in
theorem c_G_tryPut (l : Launch) (D : va_G) (cs : Nat → ClassId) (ad : Nat → Nat) (hi : mi ad) (I : Mm) (x1 x2 : Int32) (ok : ok_G_tryPut I x1 x2) : MC l yX4_tryPut wX4_tryPut { frames := 3, cells := 0, slots := 0, locals := 65 } D cs ad [.ref (ad 0), .int x1, .int x2] I (some (.int (f_G_tryPut I x1 x2).1)) (f_G_tryPut I x1 x2).2 := by
  unfold ok_G_tryPut at ok
  refine q_enter (cc := cX4_tryPut) (maxL := 4) (ret := (some .boolean)) (by decide +kernel) rfl (Nat.le_of_ble_eq_true rfl) ?_
  intro p e s m below meth c ls hx hb hr hml hown hts hlocks hK hP hS hl
  have hown : s.vm.findClass RX4 = some m.cls := hown
  have hts : ∀ w ∈ gtbl, w.before _ s = true := fun w h => hts w (List.mem_cons_of_mem _ h)
  have hl : lv_has ls 4 [(0, .ref (ad 0)), (1, .int x1), (2, .int x2)] := hl
  refine lv_aload_n hx hb dX4_tryPut_0 rfl (lv_at hl 0 rfl) ?_
  refine va_get (D := D) (ci := 4) (v := .ref (ad 1)) (C := RX4) (T := TX4) (N := 3) hx hb hts inX4 hown hK hP 0 (mq_G isO_0) rfl 0 (by decide) (hts _ k_101) (fun _ h9 => h9) rfl dX4_tryPut_1 ?_
  refine lv_iload_n hx hb dX4_tryPut_4 rfl (lv_at hl 1 rfl) ?_
  have g1 := ok.1
  have ok := ok.2
  refine q_ldM hx hb hK hP g1 dX4_tryPut_5 ?_
  refine lv_astore_n (lv' := [(3, .ref (ad (Mb x1))), (0, .ref (ad 0)), (1, .int x1), (2, .int x2)]) hx hb dX4_tryPut_6 rfl hl (by decide) rfl (fun ls hl => ?_)
  refine lv_aload_n hx hb dX4_tryPut_7 rfl (lv_at hl 0 rfl) ?_
  refine va_get (D := D) (ci := 0) (v := .ref (ad ((Mb x1) + 5))) (C := RX0) (T := TX0) (N := 8) hx hb hts inX0 hown hK hP (Mb x1) (mq_M (isM_O (isM_in g1))) rfl 1 (by decide) (hts _ k_81) (fun _ h9 => h9) rfl dX4_tryPut_8 ?_
  refine va_get (D := D) (ci := 3) (v := .int (I ((Mb x1) + 5) 3)) (C := RX3) (T := TX3) (N := 6) hx hb hts inX3 hown hK hP ((Mb x1) + 5) (mq_S (isM_C (isM_in g1)).1) rfl 5 (by decide) (hts _ k_55) (fun _ h9 => h9) rfl dX4_tryPut_11 ?_
  refine lv_aload_n hx hb dX4_tryPut_14 rfl (lv_at hl 0 rfl) ?_
  refine va_get (D := D) (ci := 0) (v := .int (I (Mb x1) 2)) (C := RX0) (T := TX0) (N := 8) hx hb hts inX0 hown hK hP (Mb x1) (mq_M (isM_O (isM_in g1))) rfl 6 (by decide) (hts _ k_89) (fun _ h9 => h9) rfl dX4_tryPut_15 ?_
  refine lv_icmp_ge (tgt := 34) hx hb dX4_tryPut_18 (by decide) (fun c2 => ?_) (fun c2 => ?_)
  · have ok := ok.1 c2
    refine lv_aload_n hx hb dX4_tryPut_34 rfl (lv_at hl 1 rfl) ?_
    refine va_get (D := D) (ci := 4) (v := .ref (ad 72)) (C := RX4) (T := TX4) (N := 3) hx hb hts inX4 hown hK hP 0 (mq_G isO_0) rfl 2 (by decide) (hts _ k_103) (fun _ h9 => h9) rfl dX4_tryPut_35 ?_
    refine q_callp (va_runV (As := []) (rest := []) ⟨hx, hb, hml, hown, hts⟩ (c_R_isFull l D cs ad hi isR_72 I) (cwV 0 hts (gV k_135 k_136 k_137 k_5 k_138) rfl rfl rfl (by decide +kernel) ⟨Nat.le_of_ble_eq_true rfl, Nat.le_of_ble_eq_true rfl⟩) (q_preV hK hP (va_recv hK hP (ci := 1) (q0 := 72) rfl (mq_R isR_72.1))) rfl rfl hl.1 rfl (lv_room (Nat.le_of_ble_eq_true rfl)) dX4_tryPut_38 ⟨Nat.zero_le _, Nat.zero_le _⟩) hS (fun _ h => h) (fun H locs hP hS => ?_)
    refine lv_if_eq (tgt := 46) hx hb dX4_tryPut_41 (by decide) (fun c3 => ?_) (fun c3 => ?_)
    · have ok := ok.1 c3
      refine lv_aload_n hx hb dX4_tryPut_46 rfl (lv_at hl 1 rfl) ?_
      refine va_get (D := D) (ci := 4) (v := .ref (ad 72)) (C := RX4) (T := TX4) (N := 3) hx hb hts inX4 hown hK hP 0 (mq_G isO_0) rfl 2 (by decide) (hts _ k_103) (fun _ h9 => h9) rfl dX4_tryPut_47 ?_
      refine lv_iload_n hx hb dX4_tryPut_50 rfl (lv_at hl 3 rfl) ?_
      refine lv_iload_n hx hb dX4_tryPut_51 rfl (lv_at hl 2 rfl) ?_
      have g4 := ok
      refine q_calli (va_runV (As := [.int x2, .int x1]) (rest := []) ⟨hx, hb, hml, hown, hts⟩ (c_R_append l D cs ad hi isR_72 I x2 x1 g4) (cwV 2 hts (gV k_143 k_144 k_145 k_5 k_146) rfl rfl rfl (by decide +kernel) ⟨Nat.le_of_ble_eq_true rfl, Nat.le_of_ble_eq_true rfl⟩) (q_preV hK hP (va_recv hK hP (ci := 1) (q0 := 72) rfl (mq_R isR_72.1))) rfl rfl hl.1 rfl (lv_room (Nat.le_of_ble_eq_true rfl)) dX4_tryPut_52 ⟨Nat.zero_le _, Nat.zero_le _⟩) hS (fun _ h => h) (fun H locs hP hS => ?_)
      refine lv_pop hx hb dX4_tryPut_55 rfl ?_
      refine lv_aload_n hx hb dX4_tryPut_56 rfl (lv_at hl 0 rfl) ?_
      refine lv_dup hx hb dX4_tryPut_57 rfl ?_
      refine va_get (D := D) (ci := 0) (v := .int (((f_R_append I 72 60 x2 x1).2) (Mb x1) 2)) (C := RX0) (T := TX0) (N := 8) hx hb hts inX0 hown hK hP (Mb x1) (mq_M (isM_O (isM_in g1))) rfl 6 (by decide) (hts _ k_89) (fun _ h9 => h9) rfl dX4_tryPut_58 ?_
      refine lv_iconst (v := 1) hx hb dX4_tryPut_61 (by decide) ?_
      refine lv_iadd hx hb dX4_tryPut_62 ?_
      refine va_put (D := D) (ci := 0) (v := .int ((((f_R_append I 72 60 x2 x1).2) (Mb x1) 2) + 1)) (ty := .int) (C := RX0) (T := TX0) (N := 8) hx hb hts inX0 tyX0 tyX0_ok nmX0 hown hK hP (mD hi) hS (Mb x1) (mq_M (isM_O (isM_in g1))) rfl 6 (by decide) (hts _ k_89) (fun _ h9 => h9) rfl (by decide +kernel) rfl rfl (Nat.le_of_ble_eq_true rfl) dX4_tryPut_63 (fun H locs hP _ hS => ?_)
      have hP := ms_M2 (isM_O (isM_in g1)) hP
      have hP : va_P D vwCl (mw 97 ad (gs cs ad (m_G_tryPut_1 I x1 x2))) H := hP
      refine lv_aload_n hx hb dX4_tryPut_66 rfl (lv_at hl 0 rfl) ?_
      refine va_get (D := D) (ci := 0) (v := .ref (ad ((Mb x1) + 5))) (C := RX0) (T := TX0) (N := 8) hx hb hts inX0 hown hK hP (Mb x1) (mq_M (isM_O (isM_in g1))) rfl 1 (by decide) (hts _ k_81) (fun _ h9 => h9) rfl dX4_tryPut_67 ?_
      refine lv_dup hx hb dX4_tryPut_70 rfl ?_
      refine va_get (D := D) (ci := 3) (v := .int ((m_G_tryPut_1 I x1 x2) ((Mb x1) + 5) 3)) (C := RX3) (T := TX3) (N := 6) hx hb hts inX3 hown hK hP ((Mb x1) + 5) (mq_S (isM_C (isM_in g1)).1) rfl 5 (by decide) (hts _ k_55) (fun _ h9 => h9) rfl dX4_tryPut_71 ?_
      refine lv_iconst (v := 1) hx hb dX4_tryPut_74 (by decide) ?_
      refine lv_iadd hx hb dX4_tryPut_75 ?_
      refine va_put (D := D) (ci := 3) (v := .int (((m_G_tryPut_1 I x1 x2) ((Mb x1) + 5) 3) + 1)) (ty := .int) (C := RX3) (T := TX3) (N := 6) hx hb hts inX3 tyX3 tyX3_ok nmX3 hown hK hP (mD hi) hS ((Mb x1) + 5) (mq_S (isM_C (isM_in g1)).1) rfl 5 (by decide) (hts _ k_55) (fun _ h9 => h9) rfl (by decide +kernel) rfl rfl (Nat.le_of_ble_eq_true rfl) dX4_tryPut_76 (fun H locs hP _ hS => ?_)
      have hP := ms_S3 (isM_C (isM_in g1)).1 hP
      have hP : va_P D vwCl (mw 97 ad (gs cs ad (m_G_tryPut_2 I x1 x2))) H := hP
      refine lv_iconst (v := 1) hx hb dX4_tryPut_79 (by decide) ?_
      exact q_zret hx hb hr hlocks dX4_tryPut_80 hP hS rfl (by rw [f_G_tryPut, if_pos c2, if_pos c3])
    · have ok := ok.2 c3
      refine lv_iconst (v := 0) hx hb dX4_tryPut_44 (by decide) ?_
      exact q_zret hx hb hr hlocks dX4_tryPut_45 hP hS rfl (by rw [f_G_tryPut, if_pos c2, if_neg c3])
  · have ok := ok.2 c2
    refine lv_aload_n hx hb dX4_tryPut_21 rfl (lv_at hl 0 rfl) ?_
    refine lv_dup hx hb dX4_tryPut_22 rfl ?_
    refine va_get (D := D) (ci := 0) (v := .int (I (Mb x1) 3)) (C := RX0) (T := TX0) (N := 8) hx hb hts inX0 hown hK hP (Mb x1) (mq_M (isM_O (isM_in g1))) rfl 7 (by decide) (hts _ k_90) (fun _ h9 => h9) rfl dX4_tryPut_23 ?_
    refine lv_iconst (v := 1) hx hb dX4_tryPut_26 (by decide) ?_
    refine lv_iadd hx hb dX4_tryPut_27 ?_
    refine va_put (D := D) (ci := 0) (v := .int ((I (Mb x1) 3) + 1)) (ty := .int) (C := RX0) (T := TX0) (N := 8) hx hb hts inX0 tyX0 tyX0_ok nmX0 hown hK hP (mD hi) hS (Mb x1) (mq_M (isM_O (isM_in g1))) rfl 7 (by decide) (hts _ k_90) (fun _ h9 => h9) rfl (by decide +kernel) rfl rfl (Nat.le_of_ble_eq_true rfl) dX4_tryPut_28 (fun H locs hP _ hS => ?_)
    have hP := ms_M3 (isM_O (isM_in g1)) hP
    have hP : va_P D vwCl (mw 97 ad (gs cs ad (m_G_tryPut_3 I x1 x2))) H := hP
    refine lv_goto (tgt := 66) hx hb dX4_tryPut_31 (by decide) ?_
    refine lv_aload_n hx hb dX4_tryPut_66 rfl (lv_at hl 0 rfl) ?_
    refine va_get (D := D) (ci := 0) (v := .ref (ad ((Mb x1) + 5))) (C := RX0) (T := TX0) (N := 8) hx hb hts inX0 hown hK hP (Mb x1) (mq_M (isM_O (isM_in g1))) rfl 1 (by decide) (hts _ k_81) (fun _ h9 => h9) rfl dX4_tryPut_67 ?_
    refine lv_dup hx hb dX4_tryPut_70 rfl ?_
    refine va_get (D := D) (ci := 3) (v := .int ((m_G_tryPut_3 I x1 x2) ((Mb x1) + 5) 3)) (C := RX3) (T := TX3) (N := 6) hx hb hts inX3 hown hK hP ((Mb x1) + 5) (mq_S (isM_C (isM_in g1)).1) rfl 5 (by decide) (hts _ k_55) (fun _ h9 => h9) rfl dX4_tryPut_71 ?_
    refine lv_iconst (v := 1) hx hb dX4_tryPut_74 (by decide) ?_
    refine lv_iadd hx hb dX4_tryPut_75 ?_
    refine va_put (D := D) (ci := 3) (v := .int (((m_G_tryPut_3 I x1 x2) ((Mb x1) + 5) 3) + 1)) (ty := .int) (C := RX3) (T := TX3) (N := 6) hx hb hts inX3 tyX3 tyX3_ok nmX3 hown hK hP (mD hi) hS ((Mb x1) + 5) (mq_S (isM_C (isM_in g1)).1) rfl 5 (by decide) (hts _ k_55) (fun _ h9 => h9) rfl (by decide +kernel) rfl rfl (Nat.le_of_ble_eq_true rfl) dX4_tryPut_76 (fun H locs hP _ hS => ?_)
    have hP := ms_S3 (isM_C (isM_in g1)).1 hP
    have hP : va_P D vwCl (mw 97 ad (gs cs ad (m_G_tryPut_4 I x1 x2))) H := hP
    refine lv_iconst (v := 1) hx hb dX4_tryPut_79 (by decide) ?_
    exact q_zret hx hb hr hlocks dX4_tryPut_80 hP hS rfl (by rw [f_G_tryPut, if_neg c2])
def m_G_perform_1 (I : Mm) (x1 x2 x3 x4 : Int32) : Mm := u2 I (((Mb x1) + 5) + 1) x3.toNatClampNeg x4
def m_G_perform_2 (I : Mm) (x1 x2 x3 x4 : Int32) : Mm := u2 I (((Mb x1) + 5) + 1) x3.toNatClampNeg ((I (((Mb x1) + 5) + 1) x3.toNatClampNeg) + (I (((Mb x1) + 5) + 1) x4.toNatClampNeg))
def m_G_perform_3 (I : Mm) (x1 x2 x3 x4 : Int32) : Mm := u2 I (((Mb x1) + 5) + 1) x3.toNatClampNeg ((I (((Mb x1) + 5) + 1) x3.toNatClampNeg) * (I (((Mb x1) + 5) + 1) x4.toNatClampNeg))
def f_G_perform (I : Mm) (x1 x2 x3 x4 : Int32) : Int32 × Mm := (if x2 = 0 then (1, (m_G_perform_1 I x1 x2 x3 x4)) else (if x2 = 1 then (1, (m_G_perform_2 I x1 x2 x3 x4)) else (if x2 = 2 then (1, (m_G_perform_3 I x1 x2 x3 x4)) else (if x2 = 3 then (1, I) else (if x2 = 4 then (1, I) else (if x2 = 5 then ((f_G_trySend I x1 x3 (I (((Mb x1) + 5) + 1) x4.toNatClampNeg)).1, (f_G_trySend I x1 x3 (I (((Mb x1) + 5) + 1) x4.toNatClampNeg)).2) else (if x2 = 6 then ((f_G_tryReceive I x1 x3 x4).1, (f_G_tryReceive I x1 x3 x4).2) else (if x2 = 7 then ((f_G_tryPut I x1 (I (((Mb x1) + 5) + 1) x3.toNatClampNeg)).1, (f_G_tryPut I x1 (I (((Mb x1) + 5) + 1) x3.toNatClampNeg)).2) else (1, I)))))))))
def ok_G_perform (I : Mm) (x1 x2 x3 x4 : Int32) : Prop := vp_in x1 3 ∧ ((x2 = 0 → vp_in x3 4) ∧ (¬ x2 = 0 → (x2 = 1 → vp_in x3 4 ∧ (vp_in x4 4)) ∧ (¬ x2 = 1 → (x2 = 2 → vp_in x3 4 ∧ (vp_in x4 4)) ∧ (¬ x2 = 2 → (x2 = 3 → True) ∧ (¬ x2 = 3 → (x2 = 4 → True) ∧ (¬ x2 = 4 → (x2 = 5 → vp_in x4 4 ∧ (ok_G_trySend I x1 x3 (I (((Mb x1) + 5) + 1) x4.toNatClampNeg))) ∧ (¬ x2 = 5 → (x2 = 6 → ok_G_tryReceive I x1 x3 x4) ∧ (¬ x2 = 6 → (x2 = 7 → vp_in x3 4 ∧ (ok_G_tryPut I x1 (I (((Mb x1) + 5) + 1) x3.toNatClampNeg))) ∧ (¬ x2 = 7 → True)))))))))
theorem z_G_perform (I : Mm) (x1 x2 x3 x4 : Int32) : narrow .boolean (.int (f_G_perform I x1 x2 x3 x4).1) = .int (f_G_perform I x1 x2 x3 x4).1 := by
  unfold f_G_perform
  (repeat' split) <;> first | (with_reducible exact nb0 _) | (with_reducible exact nb1 _) | (with_reducible exact zz (z_G_tryPut _ _ _)) | (with_reducible exact zz (z_G_tryReceive _ _ _ _)) | (with_reducible exact zz (z_G_trySend _ _ _ _))
set_option maxHeartbeats 4000000 in
set_option maxRecDepth 100000 in
theorem c_G_perform (l : Launch) (D : va_G) (cs : Nat → ClassId) (ad : Nat → Nat) (hi : mi ad) (I : Mm) (x1 x2 x3 x4 : Int32) (ok : ok_G_perform I x1 x2 x3 x4) : MC l yX4_perform wX4_perform { frames := 4, cells := 0, slots := 0, locals := 90 } D cs ad [.ref (ad 0), .int x1, .int x2, .int x3, .int x4] I (some (.int (f_G_perform I x1 x2 x3 x4).1)) (f_G_perform I x1 x2 x3 x4).2 := by
  unfold ok_G_perform at ok
  refine q_enter (cc := cX4_perform) (maxL := 6) (ret := (some .boolean)) (by decide +kernel) rfl (Nat.le_of_ble_eq_true rfl) ?_
  intro p e s m below meth c ls hx hb hr hml hown hts hlocks hK hP hS hl
  have hown : s.vm.findClass RX4 = some m.cls := hown
  have hts : ∀ w ∈ gtbl, w.before _ s = true := fun w h => hts w (List.mem_cons_of_mem _ h)
  have hl : lv_has ls 6 [(0, .ref (ad 0)), (1, .int x1), (2, .int x2), (3, .int x3), (4, .int x4)] := hl
  refine lv_aload_n hx hb dX4_perform_0 rfl (lv_at hl 0 rfl) ?_
  refine va_get (D := D) (ci := 4) (v := .ref (ad 1)) (C := RX4) (T := TX4) (N := 3) hx hb hts inX4 hown hK hP 0 (mq_G isO_0) rfl 0 (by decide) (hts _ k_101) (fun _ h9 => h9) rfl dX4_perform_1 ?_
  refine lv_iload_n hx hb dX4_perform_4 rfl (lv_at hl 1 rfl) ?_
  have g1 := ok.1
  have ok := ok.2
  refine q_ldM hx hb hK hP g1 dX4_perform_5 ?_
  refine va_get (D := D) (ci := 0) (v := .ref (ad ((Mb x1) + 5))) (C := RX0) (T := TX0) (N := 8) hx hb hts inX0 hown hK hP (Mb x1) (mq_M (isM_O (isM_in g1))) rfl 1 (by decide) (hts _ k_81) (fun _ h9 => h9) rfl dX4_perform_6 ?_
  refine va_get (D := D) (ci := 3) (v := .ref (ad (((Mb x1) + 5) + 1))) (C := RX3) (T := TX3) (N := 6) hx hb hts inX3 hown hK hP ((Mb x1) + 5) (mq_S (isM_C (isM_in g1)).1) rfl 0 (by decide) (hts _ k_45) (fun _ h9 => h9) rfl dX4_perform_9 ?_
  refine lv_astore (lv' := [(5, .ref (ad (((Mb x1) + 5) + 1))), (0, .ref (ad 0)), (1, .int x1), (2, .int x2), (3, .int x3), (4, .int x4)]) hx hb dX4_perform_12 hl (by decide) rfl (fun ls hl => ?_)
  refine lv_iload_n hx hb dX4_perform_14 rfl (lv_at hl 3 rfl) ?_
  by_cases c2 : x2 = 0
  · have ok := ok.1 c2
    refine lv_tableIn (tgt := 60) (off := 45) hx hb dX4_perform_15 (by rw [c2]; decide) (by rw [c2]; decide) (by rw [c2]; rfl) (by decide) ?_
    refine lv_aload hx hb dX4_perform_60 (lv_at hl 0 rfl) ?_
    refine lv_iload_n hx hb dX4_perform_62 rfl (lv_at hl 4 rfl) ?_
    refine lv_iload hx hb dX4_perform_63 (lv_at hl 5 rfl) ?_
    have g3 := ok
    refine va_iast hx hb hK hP (mD hi) hS (((Mb x1) + 5) + 1) 0 (mq_A (isM_C (isM_in g1)).2.1) rfl g3 dX4_perform_65 (fun H locs hP _ hS => ?_)
    have hP := ms_A (isM_C (isM_in g1)).2.1 hP
    have hP : va_P D vwCl (mw 97 ad (gs cs ad (m_G_perform_1 I x1 x2 x3 x4))) H := hP
    refine lv_iconst (v := 1) hx hb dX4_perform_66 (by decide) ?_
    exact q_zret hx hb hr hlocks dX4_perform_67 hP hS rfl (by rw [f_G_perform, if_pos c2])
  · have ok := ok.2 c2
    by_cases c4 : x2 = 1
    · have ok := ok.1 c4
      refine lv_tableIn (tgt := 68) (off := 53) hx hb dX4_perform_15 (by rw [c4]; decide) (by rw [c4]; decide) (by rw [c4]; rfl) (by decide) ?_
      refine lv_aload hx hb dX4_perform_68 (lv_at hl 0 rfl) ?_
      refine lv_iload_n hx hb dX4_perform_70 rfl (lv_at hl 4 rfl) ?_
      refine lv_dup2_11 hx hb dX4_perform_71 rfl rfl ?_
      have g5 := ok.1
      have ok := ok.2
      refine va_iald hx hb hK hP (((Mb x1) + 5) + 1) 0 (mq_A (isM_C (isM_in g1)).2.1) rfl g5 dX4_perform_72 ?_
      refine lv_aload hx hb dX4_perform_73 (lv_at hl 0 rfl) ?_
      refine lv_iload hx hb dX4_perform_75 (lv_at hl 5 rfl) ?_
      have g6 := ok
      refine va_iald hx hb hK hP (((Mb x1) + 5) + 1) 0 (mq_A (isM_C (isM_in g1)).2.1) rfl g6 dX4_perform_77 ?_
      refine lv_iadd hx hb dX4_perform_78 ?_
      refine va_iast hx hb hK hP (mD hi) hS (((Mb x1) + 5) + 1) 0 (mq_A (isM_C (isM_in g1)).2.1) rfl g5 dX4_perform_79 (fun H locs hP _ hS => ?_)
      have hP := ms_A (isM_C (isM_in g1)).2.1 hP
      have hP : va_P D vwCl (mw 97 ad (gs cs ad (m_G_perform_2 I x1 x2 x3 x4))) H := hP
      refine lv_iconst (v := 1) hx hb dX4_perform_80 (by decide) ?_
      exact q_zret hx hb hr hlocks dX4_perform_81 hP hS rfl (by rw [f_G_perform, if_neg c2, if_pos c4])
    · have ok := ok.2 c4
      by_cases c7 : x2 = 2
      · have ok := ok.1 c7
        refine lv_tableIn (tgt := 82) (off := 67) hx hb dX4_perform_15 (by rw [c7]; decide) (by rw [c7]; decide) (by rw [c7]; rfl) (by decide) ?_
        refine lv_aload hx hb dX4_perform_82 (lv_at hl 0 rfl) ?_
        refine lv_iload_n hx hb dX4_perform_84 rfl (lv_at hl 4 rfl) ?_
        refine lv_dup2_11 hx hb dX4_perform_85 rfl rfl ?_
        have g8 := ok.1
        have ok := ok.2
        refine va_iald hx hb hK hP (((Mb x1) + 5) + 1) 0 (mq_A (isM_C (isM_in g1)).2.1) rfl g8 dX4_perform_86 ?_
        refine lv_aload hx hb dX4_perform_87 (lv_at hl 0 rfl) ?_
        refine lv_iload hx hb dX4_perform_89 (lv_at hl 5 rfl) ?_
        have g9 := ok
        refine va_iald hx hb hK hP (((Mb x1) + 5) + 1) 0 (mq_A (isM_C (isM_in g1)).2.1) rfl g9 dX4_perform_91 ?_
        refine lv_imul hx hb dX4_perform_92 ?_
        refine va_iast hx hb hK hP (mD hi) hS (((Mb x1) + 5) + 1) 0 (mq_A (isM_C (isM_in g1)).2.1) rfl g8 dX4_perform_93 (fun H locs hP _ hS => ?_)
        have hP := ms_A (isM_C (isM_in g1)).2.1 hP
        have hP : va_P D vwCl (mw 97 ad (gs cs ad (m_G_perform_3 I x1 x2 x3 x4))) H := hP
        refine lv_iconst (v := 1) hx hb dX4_perform_94 (by decide) ?_
        exact q_zret hx hb hr hlocks dX4_perform_95 hP hS rfl (by rw [f_G_perform, if_neg c2, if_neg c4, if_pos c7])
      · have ok := ok.2 c7
        by_cases c10 : x2 = 3
        · have ok := ok.1 c10
          refine lv_tableIn (tgt := 127) (off := 112) hx hb dX4_perform_15 (by rw [c10]; decide) (by rw [c10]; decide) (by rw [c10]; rfl) (by decide) ?_
          refine lv_iconst (v := 1) hx hb dX4_perform_127 (by decide) ?_
          exact q_zret hx hb hr hlocks dX4_perform_128 hP hS rfl (by rw [f_G_perform, if_neg c2, if_neg c4, if_neg c7, if_pos c10])
        · have ok := ok.2 c10
          by_cases c11 : x2 = 4
          · have ok := ok.1 c11
            refine lv_tableIn (tgt := 127) (off := 112) hx hb dX4_perform_15 (by rw [c11]; decide) (by rw [c11]; decide) (by rw [c11]; rfl) (by decide) ?_
            refine lv_iconst (v := 1) hx hb dX4_perform_127 (by decide) ?_
            exact q_zret hx hb hr hlocks dX4_perform_128 hP hS rfl (by rw [f_G_perform, if_neg c2, if_neg c4, if_neg c7, if_neg c10, if_pos c11])
          · have ok := ok.2 c11
            by_cases c12 : x2 = 5
            · have ok := ok.1 c12
              refine lv_tableIn (tgt := 96) (off := 81) hx hb dX4_perform_15 (by rw [c12]; decide) (by rw [c12]; decide) (by rw [c12]; rfl) (by decide) ?_
              refine lv_aload_n hx hb dX4_perform_96 rfl (lv_at hl 1 rfl) ?_
              refine lv_iload_n hx hb dX4_perform_97 rfl (lv_at hl 2 rfl) ?_
              refine lv_iload_n hx hb dX4_perform_98 rfl (lv_at hl 4 rfl) ?_
              refine lv_aload hx hb dX4_perform_99 (lv_at hl 0 rfl) ?_
              refine lv_iload hx hb dX4_perform_101 (lv_at hl 5 rfl) ?_
              have g13 := ok.1
              have ok := ok.2
              refine va_iald hx hb hK hP (((Mb x1) + 5) + 1) 0 (mq_A (isM_C (isM_in g1)).2.1) rfl g13 dX4_perform_103 ?_
              have g14 := ok
              refine q_calli (va_runV (As := [.int x1, .int x3, .int (I (((Mb x1) + 5) + 1) x4.toNatClampNeg)]) (rest := []) ⟨hx, hb, hml, hown, hts⟩ (c_G_trySend l D cs ad hi I x1 x3 (I (((Mb x1) + 5) + 1) x4.toNatClampNeg) g14) (cwV 3 hts (gV k_186 k_187 k_434 k_1 k_188) rfl rfl rfl (by decide +kernel) ⟨Nat.le_of_ble_eq_true rfl, Nat.le_of_ble_eq_true rfl⟩) (q_preV hK hP (va_recv hK hP (ci := 4) (q0 := 0) rfl (mq_G isO_0))) rfl rfl hl.1 rfl (lv_room (Nat.le_of_ble_eq_true rfl)) dX4_perform_104 ⟨Nat.zero_le _, Nat.zero_le _⟩) hS (fun _ h => h) (fun H locs hP hS => ?_)
              exact q_zret hx hb hr hlocks dX4_perform_107 hP hS (z_G_trySend I x1 x3 (I (((Mb x1) + 5) + 1) x4.toNatClampNeg)) (by rw [f_G_perform, if_neg c2, if_neg c4, if_neg c7, if_neg c10, if_neg c11, if_pos c12])
            · have ok := ok.2 c12
              by_cases c15 : x2 = 6
              · have ok := ok.1 c15
                refine lv_tableIn (tgt := 108) (off := 93) hx hb dX4_perform_15 (by rw [c15]; decide) (by rw [c15]; decide) (by rw [c15]; rfl) (by decide) ?_
                refine lv_aload_n hx hb dX4_perform_108 rfl (lv_at hl 1 rfl) ?_
                refine lv_iload_n hx hb dX4_perform_109 rfl (lv_at hl 2 rfl) ?_
                refine lv_iload_n hx hb dX4_perform_110 rfl (lv_at hl 4 rfl) ?_
                refine lv_iload hx hb dX4_perform_111 (lv_at hl 5 rfl) ?_
                have g16 := ok
                refine q_calli (va_runV (As := [.int x1, .int x3, .int x4]) (rest := []) ⟨hx, hb, hml, hown, hts⟩ (c_G_tryReceive l D cs ad hi I x1 x3 x4 g16) (cwV 3 hts (gV k_189 k_190 k_435 k_1 k_191) rfl rfl rfl (by decide +kernel) ⟨Nat.le_of_ble_eq_true rfl, Nat.le_of_ble_eq_true rfl⟩) (q_preV hK hP (va_recv hK hP (ci := 4) (q0 := 0) rfl (mq_G isO_0))) rfl rfl hl.1 rfl (lv_room (Nat.le_of_ble_eq_true rfl)) dX4_perform_113 ⟨Nat.zero_le _, Nat.zero_le _⟩) hS (fun _ h => h) (fun H locs hP hS => ?_)
                exact q_zret hx hb hr hlocks dX4_perform_116 hP hS (z_G_tryReceive I x1 x3 x4) (by rw [f_G_perform, if_neg c2, if_neg c4, if_neg c7, if_neg c10, if_neg c11, if_neg c12, if_pos c15])
              · have ok := ok.2 c15
                by_cases c17 : x2 = 7
                · have ok := ok.1 c17
                  refine lv_tableIn (tgt := 117) (off := 102) hx hb dX4_perform_15 (by rw [c17]; decide) (by rw [c17]; decide) (by rw [c17]; rfl) (by decide) ?_
                  refine lv_aload_n hx hb dX4_perform_117 rfl (lv_at hl 1 rfl) ?_
                  refine lv_iload_n hx hb dX4_perform_118 rfl (lv_at hl 2 rfl) ?_
                  refine lv_aload hx hb dX4_perform_119 (lv_at hl 0 rfl) ?_
                  refine lv_iload_n hx hb dX4_perform_121 rfl (lv_at hl 4 rfl) ?_
                  have g18 := ok.1
                  have ok := ok.2
                  refine va_iald hx hb hK hP (((Mb x1) + 5) + 1) 0 (mq_A (isM_C (isM_in g1)).2.1) rfl g18 dX4_perform_122 ?_
                  have g19 := ok
                  refine q_calli (va_runV (As := [.int x1, .int (I (((Mb x1) + 5) + 1) x3.toNatClampNeg)]) (rest := []) ⟨hx, hb, hml, hown, hts⟩ (c_G_tryPut l D cs ad hi I x1 (I (((Mb x1) + 5) + 1) x3.toNatClampNeg) g19) (cwV 2 hts (gV k_200 k_201 k_436 k_1 k_202) rfl rfl rfl (by decide +kernel) ⟨Nat.le_of_ble_eq_true rfl, Nat.le_of_ble_eq_true rfl⟩) (q_preV hK hP (va_recv hK hP (ci := 4) (q0 := 0) rfl (mq_G isO_0))) rfl rfl hl.1 rfl (lv_room (Nat.le_of_ble_eq_true rfl)) dX4_perform_123 ⟨Nat.zero_le _, Nat.zero_le _⟩) hS (fun _ h => h) (fun H locs hP hS => ?_)
                  exact q_zret hx hb hr hlocks dX4_perform_126 hP hS (z_G_tryPut I x1 (I (((Mb x1) + 5) + 1) x3.toNatClampNeg)) (by rw [f_G_perform, if_neg c2, if_neg c4, if_neg c7, if_neg c10, if_neg c11, if_neg c12, if_neg c15, if_pos c17])
                · have ok := ok.2 c17
                  refine lv_tableOut (tgt := 127) hx hb dX4_perform_15 (tb_out0_7 c2 c4 c7 c10 c11 c12 c15 c17) (by decide) ?_
                  refine lv_iconst (v := 1) hx hb dX4_perform_127 (by decide) ?_
                  exact q_zret hx hb hr hlocks dX4_perform_128 hP hS rfl (by rw [f_G_perform, if_neg c2, if_neg c4, if_neg c7, if_neg c10, if_neg c11, if_neg c12, if_neg c15, if_neg c17])
def m_G_doNext_1 (I : Mm) (x1 : Int32) : Mm := u2 ((f_G_perform I x1 (I (((Mb x1) + 1) + 1) ((I ((Mb x1) + 5) 0).toNatClampNeg)) (I (((Mb x1) + 1) + 2) ((I ((Mb x1) + 5) 0).toNatClampNeg)) (I (((Mb x1) + 1) + 3) ((I ((Mb x1) + 5) 0).toNatClampNeg))).2) ((Mb x1) + 5) 0 (f_G_placeAfter I ((Mb x1) + 5) (I (((Mb x1) + 1) + 1) ((I ((Mb x1) + 5) 0).toNatClampNeg)) (I (((Mb x1) + 1) + 2) ((I ((Mb x1) + 5) 0).toNatClampNeg)) (I (((Mb x1) + 1) + 3) ((I ((Mb x1) + 5) 0).toNatClampNeg)))
def m_G_doNext_2 (I : Mm) (x1 : Int32) : Mm := u2 (m_G_doNext_1 I x1) ((Mb x1) + 5) 1 (((m_G_doNext_1 I x1) ((Mb x1) + 5) 1) + 1)
def m_G_doNext_3 (I : Mm) (x1 : Int32) : Mm := u2 (m_G_doNext_2 I x1) (Mb x1) 1 1
def f_G_doNext (I : Mm) (x1 : Int32) : Int32 × Mm := (if (f_P_has I ((Mb x1) + 1) (I ((Mb x1) + 5) 0)) = 0 then (2, I) else (if ((f_G_perform I x1 (I (((Mb x1) + 1) + 1) ((I ((Mb x1) + 5) 0).toNatClampNeg)) (I (((Mb x1) + 1) + 2) ((I ((Mb x1) + 5) 0).toNatClampNeg)) (I (((Mb x1) + 1) + 3) ((I ((Mb x1) + 5) 0).toNatClampNeg))).1) = 0 then (0, (f_G_perform I x1 (I (((Mb x1) + 1) + 1) ((I ((Mb x1) + 5) 0).toNatClampNeg)) (I (((Mb x1) + 1) + 2) ((I ((Mb x1) + 5) 0).toNatClampNeg)) (I (((Mb x1) + 1) + 3) ((I ((Mb x1) + 5) 0).toNatClampNeg))).2) else (1, (m_G_doNext_3 I x1))))
def ok_G_doNext (I : Mm) (x1 : Int32) : Prop := vp_in x1 3 ∧ (((f_P_has I ((Mb x1) + 1) (I ((Mb x1) + 5) 0)) = 0 → True) ∧ (¬ (f_P_has I ((Mb x1) + 1) (I ((Mb x1) + 5) 0)) = 0 → vp_in (I ((Mb x1) + 5) 0) 16 ∧ (ok_G_placeAfter ((Mb x1) + 5) (I (((Mb x1) + 1) + 1) ((I ((Mb x1) + 5) 0).toNatClampNeg)) (I (((Mb x1) + 1) + 2) ((I ((Mb x1) + 5) 0).toNatClampNeg)) (I (((Mb x1) + 1) + 3) ((I ((Mb x1) + 5) 0).toNatClampNeg)) ∧ (ok_G_perform I x1 (I (((Mb x1) + 1) + 1) ((I ((Mb x1) + 5) 0).toNatClampNeg)) (I (((Mb x1) + 1) + 2) ((I ((Mb x1) + 5) 0).toNatClampNeg)) (I (((Mb x1) + 1) + 3) ((I ((Mb x1) + 5) 0).toNatClampNeg))))))
set_option maxHeartbeats 4000000 in
set_option maxRecDepth 100000 in
theorem c_G_doNext (l : Launch) (D : va_G) (cs : Nat → ClassId) (ad : Nat → Nat) (hi : mi ad) (I : Mm) (x1 : Int32) (ok : ok_G_doNext I x1) : MC l yX4_doNext wX4_doNext { frames := 5, cells := 0, slots := 0, locals := 115 } D cs ad [.ref (ad 0), .int x1] I (some (.int (f_G_doNext I x1).1)) (f_G_doNext I x1).2 := by
  unfold ok_G_doNext at ok
  refine q_enter (cc := cX4_doNext) (maxL := 9) (ret := (some .int)) (by decide +kernel) rfl (Nat.le_of_ble_eq_true rfl) ?_
  intro p e s m below meth c ls hx hb hr hml hown hts hlocks hK hP hS hl
  have hown : s.vm.findClass RX4 = some m.cls := hown
  have hts : ∀ w ∈ gtbl, w.before _ s = true := fun w h => hts w (List.mem_cons_of_mem _ h)
  have hl : lv_has ls 9 [(0, .ref (ad 0)), (1, .int x1)] := hl
  refine lv_aload_n hx hb dX4_doNext_0 rfl (lv_at hl 0 rfl) ?_
  refine va_get (D := D) (ci := 4) (v := .ref (ad 1)) (C := RX4) (T := TX4) (N := 3) hx hb hts inX4 hown hK hP 0 (mq_G isO_0) rfl 0 (by decide) (hts _ k_101) (fun _ h9 => h9) rfl dX4_doNext_1 ?_
  refine lv_iload_n hx hb dX4_doNext_4 rfl (lv_at hl 1 rfl) ?_
  have g1 := ok.1
  have ok := ok.2
  refine q_ldM hx hb hK hP g1 dX4_doNext_5 ?_
  refine lv_astore_n (lv' := [(2, .ref (ad (Mb x1))), (0, .ref (ad 0)), (1, .int x1)]) hx hb dX4_doNext_6 rfl hl (by decide) rfl (fun ls hl => ?_)
  refine lv_aload_n hx hb dX4_doNext_7 rfl (lv_at hl 0 rfl) ?_
  refine va_get (D := D) (ci := 0) (v := .ref (ad ((Mb x1) + 5))) (C := RX0) (T := TX0) (N := 8) hx hb hts inX0 hown hK hP (Mb x1) (mq_M (isM_O (isM_in g1))) rfl 1 (by decide) (hts _ k_81) (fun _ h9 => h9) rfl dX4_doNext_8 ?_
  refine lv_astore_n (lv' := [(3, .ref (ad ((Mb x1) + 5))), (2, .ref (ad (Mb x1))), (0, .ref (ad 0)), (1, .int x1)]) hx hb dX4_doNext_11 rfl hl (by decide) rfl (fun ls hl => ?_)
  refine lv_aload_n hx hb dX4_doNext_12 rfl (lv_at hl 0 rfl) ?_
  refine va_get (D := D) (ci := 3) (v := .int (I ((Mb x1) + 5) 0)) (C := RX3) (T := TX3) (N := 6) hx hb hts inX3 hown hK hP ((Mb x1) + 5) (mq_S (isM_C (isM_in g1)).1) rfl 2 (by decide) (hts _ k_49) (fun _ h9 => h9) rfl dX4_doNext_13 ?_
  refine lv_istore (lv' := [(4, .int (I ((Mb x1) + 5) 0)), (3, .ref (ad ((Mb x1) + 5))), (2, .ref (ad (Mb x1))), (0, .ref (ad 0)), (1, .int x1)]) hx hb dX4_doNext_16 hl (by decide) rfl (fun ls hl => ?_)
  refine lv_aload_n hx hb dX4_doNext_18 rfl (lv_at hl 2 rfl) ?_
  refine va_get (D := D) (ci := 0) (v := .ref (ad ((Mb x1) + 1))) (C := RX0) (T := TX0) (N := 8) hx hb hts inX0 hown hK hP (Mb x1) (mq_M (isM_O (isM_in g1))) rfl 0 (by decide) (hts _ k_79) (fun _ h9 => h9) rfl dX4_doNext_19 ?_
  refine lv_iload hx hb dX4_doNext_22 (lv_at hl 0 rfl) ?_
  refine q_callp (va_runV (As := [.int (I ((Mb x1) + 5) 0)]) (rest := []) ⟨hx, hb, hml, hown, hts⟩ (c_P_has l D cs ad hi (isM_P (isM_in g1)) I (I ((Mb x1) + 5) 0)) (cwV 1 hts (gV k_176 k_177 k_178 k_3 k_179) rfl rfl rfl (by decide +kernel) ⟨Nat.le_of_ble_eq_true rfl, Nat.le_of_ble_eq_true rfl⟩) (q_preV hK hP (va_recv hK hP (ci := 2) (q0 := ((Mb x1) + 1)) rfl (mq_P (isM_P (isM_in g1)).1))) rfl rfl hl.1 rfl (lv_room (Nat.le_of_ble_eq_true rfl)) dX4_doNext_24 ⟨Nat.zero_le _, Nat.zero_le _⟩) hS (fun _ h => h) (fun H locs hP hS => ?_)
  refine lv_if_ne (tgt := 32) hx hb dX4_doNext_27 (by decide) (fun c2 => ?_) (fun c2 => ?_)
  · have ok := ok.2 c2
    refine lv_aload_n hx hb dX4_doNext_32 rfl (lv_at hl 2 rfl) ?_
    refine va_get (D := D) (ci := 0) (v := .ref (ad ((Mb x1) + 1))) (C := RX0) (T := TX0) (N := 8) hx hb hts inX0 hown hK hP (Mb x1) (mq_M (isM_O (isM_in g1))) rfl 0 (by decide) (hts _ k_79) (fun _ h9 => h9) rfl dX4_doNext_33 ?_
    refine va_get (D := D) (ci := 2) (v := .ref (ad (((Mb x1) + 1) + 1))) (C := RX2) (T := TX2) (N := 4) hx hb hts inX2 hown hK hP ((Mb x1) + 1) (mq_P (isM_P (isM_in g1)).1) rfl 0 (by decide) (hts _ k_28) (fun _ h9 => h9) rfl dX4_doNext_36 ?_
    refine lv_iload hx hb dX4_doNext_39 (lv_at hl 0 rfl) ?_
    have g3 := ok.1
    have ok := ok.2
    refine va_iald hx hb hK hP (((Mb x1) + 1) + 1) 0 (mq_A (isM_P (isM_in g1)).2.1) rfl g3 dX4_doNext_41 ?_
    refine lv_istore (lv' := [(5, .int (I (((Mb x1) + 1) + 1) ((I ((Mb x1) + 5) 0).toNatClampNeg))), (4, .int (I ((Mb x1) + 5) 0)), (3, .ref (ad ((Mb x1) + 5))), (2, .ref (ad (Mb x1))), (0, .ref (ad 0)), (1, .int x1)]) hx hb dX4_doNext_42 hl (by decide) rfl (fun ls hl => ?_)
    refine lv_aload_n hx hb dX4_doNext_44 rfl (lv_at hl 3 rfl) ?_
    refine va_get (D := D) (ci := 0) (v := .ref (ad ((Mb x1) + 1))) (C := RX0) (T := TX0) (N := 8) hx hb hts inX0 hown hK hP (Mb x1) (mq_M (isM_O (isM_in g1))) rfl 0 (by decide) (hts _ k_79) (fun _ h9 => h9) rfl dX4_doNext_45 ?_
    refine va_get (D := D) (ci := 2) (v := .ref (ad (((Mb x1) + 1) + 2))) (C := RX2) (T := TX2) (N := 4) hx hb hts inX2 hown hK hP ((Mb x1) + 1) (mq_P (isM_P (isM_in g1)).1) rfl 1 (by decide) (hts _ k_30) (fun _ h9 => h9) rfl dX4_doNext_48 ?_
    refine lv_iload hx hb dX4_doNext_51 (lv_at hl 1 rfl) ?_
    refine va_iald hx hb hK hP (((Mb x1) + 1) + 2) 0 (mq_A (isM_P (isM_in g1)).2.2.1) rfl g3 dX4_doNext_53 ?_
    refine lv_istore (lv' := [(6, .int (I (((Mb x1) + 1) + 2) ((I ((Mb x1) + 5) 0).toNatClampNeg))), (5, .int (I (((Mb x1) + 1) + 1) ((I ((Mb x1) + 5) 0).toNatClampNeg))), (4, .int (I ((Mb x1) + 5) 0)), (3, .ref (ad ((Mb x1) + 5))), (2, .ref (ad (Mb x1))), (0, .ref (ad 0)), (1, .int x1)]) hx hb dX4_doNext_54 hl (by decide) rfl (fun ls hl => ?_)
    refine lv_aload_n hx hb dX4_doNext_56 rfl (lv_at hl 4 rfl) ?_
    refine va_get (D := D) (ci := 0) (v := .ref (ad ((Mb x1) + 1))) (C := RX0) (T := TX0) (N := 8) hx hb hts inX0 hown hK hP (Mb x1) (mq_M (isM_O (isM_in g1))) rfl 0 (by decide) (hts _ k_79) (fun _ h9 => h9) rfl dX4_doNext_57 ?_
    refine va_get (D := D) (ci := 2) (v := .ref (ad (((Mb x1) + 1) + 3))) (C := RX2) (T := TX2) (N := 4) hx hb hts inX2 hown hK hP ((Mb x1) + 1) (mq_P (isM_P (isM_in g1)).1) rfl 2 (by decide) (hts _ k_32) (fun _ h9 => h9) rfl dX4_doNext_60 ?_
    refine lv_iload hx hb dX4_doNext_63 (lv_at hl 2 rfl) ?_
    refine va_iald hx hb hK hP (((Mb x1) + 1) + 3) 0 (mq_A (isM_P (isM_in g1)).2.2.2) rfl g3 dX4_doNext_65 ?_
    refine lv_istore (lv' := [(7, .int (I (((Mb x1) + 1) + 3) ((I ((Mb x1) + 5) 0).toNatClampNeg))), (6, .int (I (((Mb x1) + 1) + 2) ((I ((Mb x1) + 5) 0).toNatClampNeg))), (5, .int (I (((Mb x1) + 1) + 1) ((I ((Mb x1) + 5) 0).toNatClampNeg))), (4, .int (I ((Mb x1) + 5) 0)), (3, .ref (ad ((Mb x1) + 5))), (2, .ref (ad (Mb x1))), (0, .ref (ad 0)), (1, .int x1)]) hx hb dX4_doNext_66 hl (by decide) rfl (fun ls hl => ?_)
    refine lv_aload_n hx hb dX4_doNext_68 rfl (lv_at hl 4 rfl) ?_
    refine lv_iload hx hb dX4_doNext_69 (lv_at hl 2 rfl) ?_
    refine lv_iload hx hb dX4_doNext_71 (lv_at hl 1 rfl) ?_
    refine lv_iload hx hb dX4_doNext_73 (lv_at hl 0 rfl) ?_
    have g4 := ok.1
    have ok := ok.2
    refine q_callp (va_runS (As := [.ref (ad ((Mb x1) + 5)), .int (I (((Mb x1) + 1) + 1) ((I ((Mb x1) + 5) 0).toNatClampNeg)), .int (I (((Mb x1) + 1) + 2) ((I ((Mb x1) + 5) 0).toNatClampNeg)), .int (I (((Mb x1) + 1) + 3) ((I ((Mb x1) + 5) 0).toNatClampNeg))]) (rest := []) ⟨hx, hb, hml, hown, hts⟩ (c_G_placeAfter l D cs ad hi (isM_C (isM_in g1)) I (I (((Mb x1) + 1) + 1) ((I ((Mb x1) + 5) 0).toNatClampNeg)) (I (((Mb x1) + 1) + 2) ((I ((Mb x1) + 5) 0).toNatClampNeg)) (I (((Mb x1) + 1) + 3) ((I ((Mb x1) + 5) 0).toNatClampNeg)) g4) (va_cwS 4 hts (gS k_180 k_181 k_1 k_182) rfl rfl rfl (by decide +kernel) ⟨Nat.le_of_ble_eq_true rfl, Nat.le_of_ble_eq_true rfl⟩) (q_preS hK hP) rfl rfl hl.1 rfl (lv_room (Nat.le_of_ble_eq_true rfl)) dX4_doNext_75 ⟨Nat.zero_le _, Nat.zero_le _⟩) hS (fun _ h => h) (fun H locs hP hS => ?_)
    refine lv_istore (lv' := [(8, .int (f_G_placeAfter I ((Mb x1) + 5) (I (((Mb x1) + 1) + 1) ((I ((Mb x1) + 5) 0).toNatClampNeg)) (I (((Mb x1) + 1) + 2) ((I ((Mb x1) + 5) 0).toNatClampNeg)) (I (((Mb x1) + 1) + 3) ((I ((Mb x1) + 5) 0).toNatClampNeg)))), (7, .int (I (((Mb x1) + 1) + 3) ((I ((Mb x1) + 5) 0).toNatClampNeg))), (6, .int (I (((Mb x1) + 1) + 2) ((I ((Mb x1) + 5) 0).toNatClampNeg))), (5, .int (I (((Mb x1) + 1) + 1) ((I ((Mb x1) + 5) 0).toNatClampNeg))), (4, .int (I ((Mb x1) + 5) 0)), (3, .ref (ad ((Mb x1) + 5))), (2, .ref (ad (Mb x1))), (0, .ref (ad 0)), (1, .int x1)]) hx hb dX4_doNext_78 hl (by decide) rfl (fun ls hl => ?_)
    refine lv_aload_n hx hb dX4_doNext_80 rfl (lv_at hl 7 rfl) ?_
    refine lv_iload_n hx hb dX4_doNext_81 rfl (lv_at hl 8 rfl) ?_
    refine lv_iload hx hb dX4_doNext_82 (lv_at hl 3 rfl) ?_
    refine lv_iload hx hb dX4_doNext_84 (lv_at hl 2 rfl) ?_
    refine lv_iload hx hb dX4_doNext_86 (lv_at hl 1 rfl) ?_
    have g5 := ok
    refine q_calli (va_runV (As := [.int x1, .int (I (((Mb x1) + 1) + 1) ((I ((Mb x1) + 5) 0).toNatClampNeg)), .int (I (((Mb x1) + 1) + 2) ((I ((Mb x1) + 5) 0).toNatClampNeg)), .int (I (((Mb x1) + 1) + 3) ((I ((Mb x1) + 5) 0).toNatClampNeg))]) (rest := []) ⟨hx, hb, hml, hown, hts⟩ (c_G_perform l D cs ad hi I x1 (I (((Mb x1) + 1) + 1) ((I ((Mb x1) + 5) 0).toNatClampNeg)) (I (((Mb x1) + 1) + 2) ((I ((Mb x1) + 5) 0).toNatClampNeg)) (I (((Mb x1) + 1) + 3) ((I ((Mb x1) + 5) 0).toNatClampNeg)) g5) (cwV 4 hts (gV k_183 k_184 k_433 k_1 k_185) rfl rfl rfl (by decide +kernel) ⟨Nat.le_of_ble_eq_true rfl, Nat.le_of_ble_eq_true rfl⟩) (q_preV hK hP (va_recv hK hP (ci := 4) (q0 := 0) rfl (mq_G isO_0))) rfl rfl hl.1 rfl (lv_room (Nat.le_of_ble_eq_true rfl)) dX4_doNext_88 ⟨Nat.zero_le _, Nat.zero_le _⟩) hS (fun _ h => h) (fun H locs hP hS => ?_)
    refine lv_if_ne (tgt := 96) hx hb dX4_doNext_91 (by decide) (fun c6 => ?_) (fun c6 => ?_)
    · have c6 := c6
      refine lv_aload_n hx hb dX4_doNext_96 rfl (lv_at hl 5 rfl) ?_
      refine lv_iload hx hb dX4_doNext_97 (lv_at hl 0 rfl) ?_
      refine va_put (D := D) (ci := 3) (v := .int (f_G_placeAfter I ((Mb x1) + 5) (I (((Mb x1) + 1) + 1) ((I ((Mb x1) + 5) 0).toNatClampNeg)) (I (((Mb x1) + 1) + 2) ((I ((Mb x1) + 5) 0).toNatClampNeg)) (I (((Mb x1) + 1) + 3) ((I ((Mb x1) + 5) 0).toNatClampNeg)))) (ty := .int) (C := RX3) (T := TX3) (N := 6) hx hb hts inX3 tyX3 tyX3_ok nmX3 hown hK hP (mD hi) hS ((Mb x1) + 5) (mq_S (isM_C (isM_in g1)).1) rfl 2 (by decide) (hts _ k_49) (fun _ h9 => h9) rfl (by decide +kernel) rfl rfl (Nat.le_of_ble_eq_true rfl) dX4_doNext_99 (fun H locs hP _ hS => ?_)
      have hP := ms_S0 (isM_C (isM_in g1)).1 hP
      have hP : va_P D vwCl (mw 97 ad (gs cs ad (m_G_doNext_1 I x1))) H := hP
      refine lv_aload_n hx hb dX4_doNext_102 rfl (lv_at hl 5 rfl) ?_
      refine lv_dup hx hb dX4_doNext_103 rfl ?_
      refine va_get (D := D) (ci := 3) (v := .int ((m_G_doNext_1 I x1) ((Mb x1) + 5) 1)) (C := RX3) (T := TX3) (N := 6) hx hb hts inX3 hown hK hP ((Mb x1) + 5) (mq_S (isM_C (isM_in g1)).1) rfl 3 (by decide) (hts _ k_51) (fun _ h9 => h9) rfl dX4_doNext_104 ?_
      refine lv_iconst (v := 1) hx hb dX4_doNext_107 (by decide) ?_
      refine lv_iadd hx hb dX4_doNext_108 ?_
      refine va_put (D := D) (ci := 3) (v := .int (((m_G_doNext_1 I x1) ((Mb x1) + 5) 1) + 1)) (ty := .int) (C := RX3) (T := TX3) (N := 6) hx hb hts inX3 tyX3 tyX3_ok nmX3 hown hK hP (mD hi) hS ((Mb x1) + 5) (mq_S (isM_C (isM_in g1)).1) rfl 3 (by decide) (hts _ k_51) (fun _ h9 => h9) rfl (by decide +kernel) rfl rfl (Nat.le_of_ble_eq_true rfl) dX4_doNext_109 (fun H locs hP _ hS => ?_)
      have hP := ms_S1 (isM_C (isM_in g1)).1 hP
      have hP : va_P D vwCl (mw 97 ad (gs cs ad (m_G_doNext_2 I x1))) H := hP
      refine lv_aload_n hx hb dX4_doNext_112 rfl (lv_at hl 6 rfl) ?_
      refine lv_iconst (v := 1) hx hb dX4_doNext_113 (by decide) ?_
      refine va_put (D := D) (ci := 0) (v := .int 1) (ty := .boolean) (C := RX0) (T := TX0) (N := 8) hx hb hts inX0 tyX0 tyX0_ok nmX0 hown hK hP (mD hi) hS (Mb x1) (mq_M (isM_O (isM_in g1))) rfl 5 (by decide) (hts _ k_88) (fun _ h9 => h9) rfl (by decide +kernel) rfl rfl (Nat.le_of_ble_eq_true rfl) dX4_doNext_114 (fun H locs hP _ hS => ?_)
      have hP := ms_M1 (isM_O (isM_in g1)) hP
      have hP : va_P D vwCl (mw 97 ad (gs cs ad (m_G_doNext_3 I x1))) H := hP
      refine lv_iconst (v := 1) hx hb dX4_doNext_117 (by decide) ?_
      exact q_iret hx hb hr hlocks dX4_doNext_118 hP hS (by rw [f_G_doNext, if_neg c2, if_neg c6])
    · have c6 := c6
      refine lv_iconst (v := 0) hx hb dX4_doNext_94 (by decide) ?_
      exact q_iret hx hb hr hlocks dX4_doNext_95 hP hS (by rw [f_G_doNext, if_neg c2, if_pos c6])
  · have ok := ok.1 c2
    refine lv_iconst (v := 2) hx hb dX4_doNext_30 (by decide) ?_
    exact q_iret hx hb hr hlocks dX4_doNext_31 hP hS (by rw [f_G_doNext, if_pos c2])
end
section
def f_G_code (I : Mm) (x1 x2 x3 x4 : Int32) : Int32 × Mm := (if (f_G_isProcess x1) = 0 then (0, I) else (if (f_G_isInstruction x1 x2 x3 x4) = 0 then (0, I) else (if (I (Mb x1) 1) = 0 then (if (f_P_isFull I ((Mb x1) + 1)) = 0 then (1, (f_P_append I ((Mb x1) + 1) x2 x3 x4)) else (0, I)) else (0, I))))
def ok_G_code (I : Mm) (x1 x2 x3 x4 : Int32) : Prop := ((f_G_isProcess x1) = 0 → True) ∧ (¬ (f_G_isProcess x1) = 0 → ((f_G_isInstruction x1 x2 x3 x4) = 0 → True) ∧ (¬ (f_G_isInstruction x1 x2 x3 x4) = 0 → vp_in x1 3 ∧ (((I (Mb x1) 1) = 0 → ((f_P_isFull I ((Mb x1) + 1)) = 0 → ok_P_append I ((Mb x1) + 1) x2 x3 x4) ∧ (¬ (f_P_isFull I ((Mb x1) + 1)) = 0 → True)) ∧ (¬ (I (Mb x1) 1) = 0 → True))))
theorem z_G_code (I : Mm) (x1 x2 x3 x4 : Int32) : narrow .boolean (.int (f_G_code I x1 x2 x3 x4).1) = .int (f_G_code I x1 x2 x3 x4).1 := by
  unfold f_G_code
  (repeat' split) <;> first | (with_reducible exact nb0 _) | (with_reducible exact nb1 _) | (with_reducible exact zz (z_G_isInstruction _ _ _ _)) | (with_reducible exact zz (z_G_isProcess _)) | (with_reducible exact zz (z_P_isFull _ _))
set_option maxHeartbeats 4000000 in
set_option maxRecDepth 100000 in
theorem c_G_code (l : Launch) (D : va_G) (cs : Nat → ClassId) (ad : Nat → Nat) (hi : mi ad) (I : Mm) (x1 x2 x3 x4 : Int32) (ok : ok_G_code I x1 x2 x3 x4) : MC l yX4_code wX4_code { frames := 3, cells := 0, slots := 0, locals := 64 } D cs ad [.ref (ad 0), .int x1, .int x2, .int x3, .int x4] I (some (.int (f_G_code I x1 x2 x3 x4).1)) (f_G_code I x1 x2 x3 x4).2 := by
  unfold ok_G_code at ok
  refine q_enter (cc := cX4_code) (maxL := 6) (ret := (some .boolean)) (by decide +kernel) rfl (Nat.le_of_ble_eq_true rfl) ?_
  intro p e s m below meth c ls hx hb hr hml hown hts hlocks hK hP hS hl
  have hown : s.vm.findClass RX4 = some m.cls := hown
  have hts : ∀ w ∈ gtbl, w.before _ s = true := fun w h => hts w (List.mem_cons_of_mem _ h)
  have hl : lv_has ls 6 [(0, .ref (ad 0)), (1, .int x1), (2, .int x2), (3, .int x3), (4, .int x4)] := hl
  refine lv_iload_n hx hb dX4_code_0 rfl (lv_at hl 1 rfl) ?_
  refine q_callp (va_runS (As := [.int x1]) (rest := []) ⟨hx, hb, hml, hown, hts⟩ (c_G_isProcess l D cs ad hi I x1) (va_cwS 1 hts (gS k_111 k_112 k_1 k_113) rfl rfl rfl (by decide +kernel) ⟨Nat.le_of_ble_eq_true rfl, Nat.le_of_ble_eq_true rfl⟩) (q_preS hK hP) rfl rfl hl.1 rfl (lv_room (Nat.le_of_ble_eq_true rfl)) dX4_code_1 ⟨Nat.zero_le _, Nat.zero_le _⟩) hS (fun _ h => h) (fun H locs hP hS => ?_)
  refine lv_if_eq (tgt := 18) hx hb dX4_code_4 (by decide) (fun c1 => ?_) (fun c1 => ?_)
  · have ok := ok.1 c1
    refine lv_iconst (v := 0) hx hb dX4_code_18 (by decide) ?_
    exact q_zret hx hb hr hlocks dX4_code_19 hP hS rfl (by rw [f_G_code, if_pos c1])
  · have ok := ok.2 c1
    refine lv_iload_n hx hb dX4_code_7 rfl (lv_at hl 1 rfl) ?_
    refine lv_iload_n hx hb dX4_code_8 rfl (lv_at hl 2 rfl) ?_
    refine lv_iload_n hx hb dX4_code_9 rfl (lv_at hl 3 rfl) ?_
    refine lv_iload hx hb dX4_code_10 (lv_at hl 4 rfl) ?_
    refine q_callp (va_runS (As := [.int x1, .int x2, .int x3, .int x4]) (rest := []) ⟨hx, hb, hml, hown, hts⟩ (c_G_isInstruction l D cs ad hi I x1 x2 x3 x4) (va_cwS 4 hts (gS k_114 k_115 k_1 k_116) rfl rfl rfl (by decide +kernel) ⟨Nat.le_of_ble_eq_true rfl, Nat.le_of_ble_eq_true rfl⟩) (q_preS hK hP) rfl rfl hl.1 rfl (lv_room (Nat.le_of_ble_eq_true rfl)) dX4_code_12 ⟨Nat.zero_le _, Nat.zero_le _⟩) hS (fun _ h => h) (fun H locs hP hS => ?_)
    refine lv_if_ne (tgt := 20) hx hb dX4_code_15 (by decide) (fun c2 => ?_) (fun c2 => ?_)
    · have ok := ok.2 c2
      refine lv_aload_n hx hb dX4_code_20 rfl (lv_at hl 0 rfl) ?_
      refine va_get (D := D) (ci := 4) (v := .ref (ad 1)) (C := RX4) (T := TX4) (N := 3) hx hb hts inX4 hown hK hP 0 (mq_G isO_0) rfl 0 (by decide) (hts _ k_101) (fun _ h9 => h9) rfl dX4_code_21 ?_
      refine lv_iload_n hx hb dX4_code_24 rfl (lv_at hl 1 rfl) ?_
      have g3 := ok.1
      have ok := ok.2
      refine q_ldM hx hb hK hP g3 dX4_code_25 ?_
      refine lv_astore (lv' := [(5, .ref (ad (Mb x1))), (0, .ref (ad 0)), (1, .int x1), (2, .int x2), (3, .int x3), (4, .int x4)]) hx hb dX4_code_26 hl (by decide) rfl (fun ls hl => ?_)
      refine lv_aload hx hb dX4_code_28 (lv_at hl 0 rfl) ?_
      refine va_get (D := D) (ci := 0) (v := .int (I (Mb x1) 1)) (C := RX0) (T := TX0) (N := 8) hx hb hts inX0 hown hK hP (Mb x1) (mq_M (isM_O (isM_in g3))) rfl 5 (by decide) (hts _ k_88) (fun _ h9 => h9) rfl dX4_code_30 ?_
      refine lv_if_ne (tgt := 47) hx hb dX4_code_33 (by decide) (fun c4 => ?_) (fun c4 => ?_)
      · have ok := ok.2 c4
        refine lv_iconst (v := 0) hx hb dX4_code_47 (by decide) ?_
        exact q_zret hx hb hr hlocks dX4_code_48 hP hS rfl (by rw [f_G_code, if_neg c1, if_neg c2, if_neg c4])
      · have ok := ok.1 c4
        refine lv_aload hx hb dX4_code_36 (lv_at hl 0 rfl) ?_
        refine va_get (D := D) (ci := 0) (v := .ref (ad ((Mb x1) + 1))) (C := RX0) (T := TX0) (N := 8) hx hb hts inX0 hown hK hP (Mb x1) (mq_M (isM_O (isM_in g3))) rfl 0 (by decide) (hts _ k_79) (fun _ h9 => h9) rfl dX4_code_38 ?_
        refine q_callp (va_runV (As := []) (rest := []) ⟨hx, hb, hml, hown, hts⟩ (c_P_isFull l D cs ad hi (isM_P (isM_in g3)) I) (cwV 0 hts (gV k_123 k_124 k_125 k_3 k_126) rfl rfl rfl (by decide +kernel) ⟨Nat.le_of_ble_eq_true rfl, Nat.le_of_ble_eq_true rfl⟩) (q_preV hK hP (va_recv hK hP (ci := 2) (q0 := ((Mb x1) + 1)) rfl (mq_P (isM_P (isM_in g3)).1))) rfl rfl hl.1 rfl (lv_room (Nat.le_of_ble_eq_true rfl)) dX4_code_41 ⟨Nat.zero_le _, Nat.zero_le _⟩) hS (fun _ h => h) (fun H locs hP hS => ?_)
        refine lv_if_eq (tgt := 49) hx hb dX4_code_44 (by decide) (fun c5 => ?_) (fun c5 => ?_)
        · have ok := ok.1 c5
          refine lv_aload hx hb dX4_code_49 (lv_at hl 0 rfl) ?_
          refine va_get (D := D) (ci := 0) (v := .ref (ad ((Mb x1) + 1))) (C := RX0) (T := TX0) (N := 8) hx hb hts inX0 hown hK hP (Mb x1) (mq_M (isM_O (isM_in g3))) rfl 0 (by decide) (hts _ k_79) (fun _ h9 => h9) rfl dX4_code_51 ?_
          refine lv_iload_n hx hb dX4_code_54 rfl (lv_at hl 3 rfl) ?_
          refine lv_iload_n hx hb dX4_code_55 rfl (lv_at hl 4 rfl) ?_
          refine lv_iload hx hb dX4_code_56 (lv_at hl 5 rfl) ?_
          have g6 := ok
          refine q_callv (va_runV (As := [.int x2, .int x3, .int x4]) (rest := []) ⟨hx, hb, hml, hown, hts⟩ (c_P_append l D cs ad hi (isM_P (isM_in g3)) I x2 x3 x4 g6) (cwV 3 hts (gV k_127 k_128 k_129 k_3 k_130) rfl rfl rfl (by decide +kernel) ⟨Nat.le_of_ble_eq_true rfl, Nat.le_of_ble_eq_true rfl⟩) (q_preV hK hP (va_recv hK hP (ci := 2) (q0 := ((Mb x1) + 1)) rfl (mq_P (isM_P (isM_in g3)).1))) rfl rfl hl.1 rfl (lv_room (Nat.le_of_ble_eq_true rfl)) dX4_code_58 ⟨Nat.zero_le _, Nat.zero_le _⟩) hS (fun _ h => h) (fun H locs hP hS => ?_)
          refine lv_iconst (v := 1) hx hb dX4_code_61 (by decide) ?_
          exact q_zret hx hb hr hlocks dX4_code_62 hP hS rfl (by rw [f_G_code, if_neg c1, if_neg c2, if_pos c4, if_pos c5])
        · have ok := ok.2 c5
          refine lv_iconst (v := 0) hx hb dX4_code_47 (by decide) ?_
          exact q_zret hx hb hr hlocks dX4_code_48 hP hS rfl (by rw [f_G_code, if_neg c1, if_neg c2, if_pos c4, if_neg c5])
    · have ok := ok.1 c2
      refine lv_iconst (v := 0) hx hb dX4_code_18 (by decide) ?_
      exact q_zret hx hb hr hlocks dX4_code_19 hP hS rfl (by rw [f_G_code, if_neg c1, if_pos c2])
def f_G_input (I : Mm) (x1 x2 : Int32) : Int32 × Mm := (if (f_G_isProcess x1) = 0 then ((-1), I) else (if (I (Mb x1) 0) = 0 then ((-2), I) else (if (f_R_isFull I ((Mb x1) + 11) 20) = 0 then ((f_R_append I ((Mb x1) + 11) 20 x2 3).1, (f_R_append I ((Mb x1) + 11) 20 x2 3).2) else ((-4), I))))
def ok_G_input (I : Mm) (x1 x2 : Int32) : Prop := ((f_G_isProcess x1) = 0 → True) ∧ (¬ (f_G_isProcess x1) = 0 → vp_in x1 3 ∧ (((I (Mb x1) 0) = 0 → True) ∧ (¬ (I (Mb x1) 0) = 0 → ((f_R_isFull I ((Mb x1) + 11) 20) = 0 → ok_R_append I ((Mb x1) + 11) 20 x2 3) ∧ (¬ (f_R_isFull I ((Mb x1) + 11) 20) = 0 → True))))
set_option maxHeartbeats 4000000 in
set_option maxRecDepth 100000 in
theorem c_G_input (l : Launch) (D : va_G) (cs : Nat → ClassId) (ad : Nat → Nat) (hi : mi ad) (I : Mm) (x1 x2 : Int32) (ok : ok_G_input I x1 x2) : MC l yX4_input wX4_input { frames := 3, cells := 0, slots := 0, locals := 65 } D cs ad [.ref (ad 0), .int x1, .int x2] I (some (.int (f_G_input I x1 x2).1)) (f_G_input I x1 x2).2 := by
  unfold ok_G_input at ok
  refine q_enter (cc := cX4_input) (maxL := 4) (ret := (some .int)) (by decide +kernel) rfl (Nat.le_of_ble_eq_true rfl) ?_
  intro p e s m below meth c ls hx hb hr hml hown hts hlocks hK hP hS hl
  have hown : s.vm.findClass RX4 = some m.cls := hown
  have hts : ∀ w ∈ gtbl, w.before _ s = true := fun w h => hts w (List.mem_cons_of_mem _ h)
  have hl : lv_has ls 4 [(0, .ref (ad 0)), (1, .int x1), (2, .int x2)] := hl
  refine lv_iload_n hx hb dX4_input_0 rfl (lv_at hl 1 rfl) ?_
  refine q_callp (va_runS (As := [.int x1]) (rest := []) ⟨hx, hb, hml, hown, hts⟩ (c_G_isProcess l D cs ad hi I x1) (va_cwS 1 hts (gS k_111 k_112 k_1 k_113) rfl rfl rfl (by decide +kernel) ⟨Nat.le_of_ble_eq_true rfl, Nat.le_of_ble_eq_true rfl⟩) (q_preS hK hP) rfl rfl hl.1 rfl (lv_room (Nat.le_of_ble_eq_true rfl)) dX4_input_1 ⟨Nat.zero_le _, Nat.zero_le _⟩) hS (fun _ h => h) (fun H locs hP hS => ?_)
  refine lv_if_ne (tgt := 9) hx hb dX4_input_4 (by decide) (fun c1 => ?_) (fun c1 => ?_)
  · have ok := ok.2 c1
    refine lv_aload_n hx hb dX4_input_9 rfl (lv_at hl 0 rfl) ?_
    refine va_get (D := D) (ci := 4) (v := .ref (ad 1)) (C := RX4) (T := TX4) (N := 3) hx hb hts inX4 hown hK hP 0 (mq_G isO_0) rfl 0 (by decide) (hts _ k_101) (fun _ h9 => h9) rfl dX4_input_10 ?_
    refine lv_iload_n hx hb dX4_input_13 rfl (lv_at hl 1 rfl) ?_
    have g2 := ok.1
    have ok := ok.2
    refine q_ldM hx hb hK hP g2 dX4_input_14 ?_
    refine lv_astore_n (lv' := [(3, .ref (ad (Mb x1))), (0, .ref (ad 0)), (1, .int x1), (2, .int x2)]) hx hb dX4_input_15 rfl hl (by decide) rfl (fun ls hl => ?_)
    refine lv_aload_n hx hb dX4_input_16 rfl (lv_at hl 0 rfl) ?_
    refine va_get (D := D) (ci := 0) (v := .int (I (Mb x1) 0)) (C := RX0) (T := TX0) (N := 8) hx hb hts inX0 hown hK hP (Mb x1) (mq_M (isM_O (isM_in g2))) rfl 4 (by decide) (hts _ k_87) (fun _ h9 => h9) rfl dX4_input_17 ?_
    refine lv_if_ne (tgt := 26) hx hb dX4_input_20 (by decide) (fun c3 => ?_) (fun c3 => ?_)
    · have ok := ok.2 c3
      refine lv_aload_n hx hb dX4_input_26 rfl (lv_at hl 0 rfl) ?_
      refine va_get (D := D) (ci := 0) (v := .ref (ad ((Mb x1) + 11))) (C := RX0) (T := TX0) (N := 8) hx hb hts inX0 hown hK hP (Mb x1) (mq_M (isM_O (isM_in g2))) rfl 3 (by decide) (hts _ k_85) (fun _ h9 => h9) rfl dX4_input_27 ?_
      refine q_callp (va_runV (As := []) (rest := []) ⟨hx, hb, hml, hown, hts⟩ (c_R_isFull l D cs ad hi (isM_L (isM_in g2)) I) (cwV 0 hts (gV k_135 k_136 k_137 k_5 k_138) rfl rfl rfl (by decide +kernel) ⟨Nat.le_of_ble_eq_true rfl, Nat.le_of_ble_eq_true rfl⟩) (q_preV hK hP (va_recv hK hP (ci := 1) (q0 := ((Mb x1) + 11)) rfl (mq_R (isM_L (isM_in g2)).1))) rfl rfl hl.1 rfl (lv_room (Nat.le_of_ble_eq_true rfl)) dX4_input_30 ⟨Nat.zero_le _, Nat.zero_le _⟩) hS (fun _ h => h) (fun H locs hP hS => ?_)
      refine lv_if_eq (tgt := 39) hx hb dX4_input_33 (by decide) (fun c4 => ?_) (fun c4 => ?_)
      · have ok := ok.1 c4
        refine lv_aload_n hx hb dX4_input_39 rfl (lv_at hl 0 rfl) ?_
        refine va_get (D := D) (ci := 0) (v := .ref (ad ((Mb x1) + 11))) (C := RX0) (T := TX0) (N := 8) hx hb hts inX0 hown hK hP (Mb x1) (mq_M (isM_O (isM_in g2))) rfl 3 (by decide) (hts _ k_85) (fun _ h9 => h9) rfl dX4_input_40 ?_
        refine lv_iload_n hx hb dX4_input_43 rfl (lv_at hl 3 rfl) ?_
        refine lv_iconst (v := 3) hx hb dX4_input_44 (by decide) ?_
        have g5 := ok
        refine q_calli (va_runV (As := [.int x2, .int 3]) (rest := []) ⟨hx, hb, hml, hown, hts⟩ (c_R_append l D cs ad hi (isM_L (isM_in g2)) I x2 3 g5) (cwV 2 hts (gV k_143 k_144 k_145 k_5 k_146) rfl rfl rfl (by decide +kernel) ⟨Nat.le_of_ble_eq_true rfl, Nat.le_of_ble_eq_true rfl⟩) (q_preV hK hP (va_recv hK hP (ci := 1) (q0 := ((Mb x1) + 11)) rfl (mq_R (isM_L (isM_in g2)).1))) rfl rfl hl.1 rfl (lv_room (Nat.le_of_ble_eq_true rfl)) dX4_input_45 ⟨Nat.zero_le _, Nat.zero_le _⟩) hS (fun _ h => h) (fun H locs hP hS => ?_)
        exact q_iret hx hb hr hlocks dX4_input_48 hP hS (by rw [f_G_input, if_neg c1, if_neg c3, if_pos c4])
      · have ok := ok.2 c4
        refine lv_bipush (v := (-4)) hx hb dX4_input_36 (by decide) ?_
        exact q_iret hx hb hr hlocks dX4_input_38 hP hS (by rw [f_G_input, if_neg c1, if_neg c3, if_neg c4])
    · have ok := ok.1 c3
      refine lv_bipush (v := (-2)) hx hb dX4_input_23 (by decide) ?_
      exact q_iret hx hb hr hlocks dX4_input_25 hP hS (by rw [f_G_input, if_neg c1, if_pos c3])
  · have ok := ok.1 c1
    refine lv_iconst (v := (-1)) hx hb dX4_input_7 (by decide) ?_
    exact q_iret hx hb hr hlocks dX4_input_8 hP hS (by rw [f_G_input, if_pos c1])
def f_G_deliver (I : Mm) (x1 x2 : Int32) : Int32 × Mm := (if (f_G_isChannel x1 x2) = 0 then ((-1), I) else (if (I (Mb x2) 0) = 0 then ((-2), I) else (if (f_R_count I (Cb ((x1 * 3) + x2)) 8) = 0 then ((-3), I) else (if (f_R_isFull I ((Mb x2) + 11) 20) = 0 then ((f_R_append ((f_R_dropThrough I (Cb ((x1 * 3) + x2)) 8 ((I (Cb ((x1 * 3) + x2)) 0) + 1)).2) ((Mb x2) + 11) 20 (f_R_valueAt I (Cb ((x1 * 3) + x2)) 8 ((I (Cb ((x1 * 3) + x2)) 0) + 1)) x1).1, (f_R_append ((f_R_dropThrough I (Cb ((x1 * 3) + x2)) 8 ((I (Cb ((x1 * 3) + x2)) 0) + 1)).2) ((Mb x2) + 11) 20 (f_R_valueAt I (Cb ((x1 * 3) + x2)) 8 ((I (Cb ((x1 * 3) + x2)) 0) + 1)) x1).2) else ((-4), I)))))
def ok_G_deliver (I : Mm) (x1 x2 : Int32) : Prop := ((f_G_isChannel x1 x2) = 0 → True) ∧ (¬ (f_G_isChannel x1 x2) = 0 → vp_in x2 3 ∧ (ok_G_channelBetween x1 x2 ∧ (((I (Mb x2) 0) = 0 → True) ∧ (¬ (I (Mb x2) 0) = 0 → ((f_R_count I (Cb ((x1 * 3) + x2)) 8) = 0 → True) ∧ (¬ (f_R_count I (Cb ((x1 * 3) + x2)) 8) = 0 → ((f_R_isFull I ((Mb x2) + 11) 20) = 0 → ok_R_valueAt (Cb ((x1 * 3) + x2)) 8 ((I (Cb ((x1 * 3) + x2)) 0) + 1) ∧ (ok_R_append ((f_R_dropThrough I (Cb ((x1 * 3) + x2)) 8 ((I (Cb ((x1 * 3) + x2)) 0) + 1)).2) ((Mb x2) + 11) 20 (f_R_valueAt I (Cb ((x1 * 3) + x2)) 8 ((I (Cb ((x1 * 3) + x2)) 0) + 1)) x1)) ∧ (¬ (f_R_isFull I ((Mb x2) + 11) 20) = 0 → True))))))
set_option maxHeartbeats 4000000 in
set_option maxRecDepth 100000 in
theorem c_G_deliver (l : Launch) (D : va_G) (cs : Nat → ClassId) (ad : Nat → Nat) (hi : mi ad) (I : Mm) (x1 x2 : Int32) (ok : ok_G_deliver I x1 x2) : MC l yX4_deliver wX4_deliver { frames := 3, cells := 0, slots := 0, locals := 65 } D cs ad [.ref (ad 0), .int x1, .int x2] I (some (.int (f_G_deliver I x1 x2).1)) (f_G_deliver I x1 x2).2 := by
  unfold ok_G_deliver at ok
  refine q_enter (cc := cX4_deliver) (maxL := 7) (ret := (some .int)) (by decide +kernel) rfl (Nat.le_of_ble_eq_true rfl) ?_
  intro p e s m below meth c ls hx hb hr hml hown hts hlocks hK hP hS hl
  have hown : s.vm.findClass RX4 = some m.cls := hown
  have hts : ∀ w ∈ gtbl, w.before _ s = true := fun w h => hts w (List.mem_cons_of_mem _ h)
  have hl : lv_has ls 7 [(0, .ref (ad 0)), (1, .int x1), (2, .int x2)] := hl
  refine lv_iload_n hx hb dX4_deliver_0 rfl (lv_at hl 1 rfl) ?_
  refine lv_iload_n hx hb dX4_deliver_1 rfl (lv_at hl 2 rfl) ?_
  refine q_callp (va_runS (As := [.int x1, .int x2]) (rest := []) ⟨hx, hb, hml, hown, hts⟩ (c_G_isChannel l D cs ad hi I x1 x2) (va_cwS 2 hts (gS k_120 k_121 k_1 k_122) rfl rfl rfl (by decide +kernel) ⟨Nat.le_of_ble_eq_true rfl, Nat.le_of_ble_eq_true rfl⟩) (q_preS hK hP) rfl rfl hl.1 rfl (lv_room (Nat.le_of_ble_eq_true rfl)) dX4_deliver_2 ⟨Nat.zero_le _, Nat.zero_le _⟩) hS (fun _ h => h) (fun H locs hP hS => ?_)
  refine lv_if_ne (tgt := 10) hx hb dX4_deliver_5 (by decide) (fun c1 => ?_) (fun c1 => ?_)
  · have ok := ok.2 c1
    refine lv_aload_n hx hb dX4_deliver_10 rfl (lv_at hl 0 rfl) ?_
    refine va_get (D := D) (ci := 4) (v := .ref (ad 1)) (C := RX4) (T := TX4) (N := 3) hx hb hts inX4 hown hK hP 0 (mq_G isO_0) rfl 0 (by decide) (hts _ k_101) (fun _ h9 => h9) rfl dX4_deliver_11 ?_
    refine lv_iload_n hx hb dX4_deliver_14 rfl (lv_at hl 2 rfl) ?_
    have g2 := ok.1
    have ok := ok.2
    refine q_ldM hx hb hK hP g2 dX4_deliver_15 ?_
    refine lv_astore_n (lv' := [(3, .ref (ad (Mb x2))), (0, .ref (ad 0)), (1, .int x1), (2, .int x2)]) hx hb dX4_deliver_16 rfl hl (by decide) rfl (fun ls hl => ?_)
    refine lv_aload_n hx hb dX4_deliver_17 rfl (lv_at hl 1 rfl) ?_
    refine lv_iload_n hx hb dX4_deliver_18 rfl (lv_at hl 2 rfl) ?_
    refine lv_iload_n hx hb dX4_deliver_19 rfl (lv_at hl 3 rfl) ?_
    have g3 := ok.1
    have ok := ok.2
    refine q_callr (va_runV (As := [.int x1, .int x2]) (rest := []) ⟨hx, hb, hml, hown, hts⟩ (c_G_channelBetween l D cs ad hi I x1 x2 g3) (cwV 2 hts (gV k_157 k_158 k_431 k_1 k_159) rfl rfl rfl (by decide +kernel) ⟨Nat.le_of_ble_eq_true rfl, Nat.le_of_ble_eq_true rfl⟩) (q_preV hK hP (va_recv hK hP (ci := 4) (q0 := 0) rfl (mq_G isO_0))) rfl rfl hl.1 rfl (lv_room (Nat.le_of_ble_eq_true rfl)) dX4_deliver_20 ⟨Nat.zero_le _, Nat.zero_le _⟩) hS (fun _ h => h) (fun H locs hP hS => ?_)
    refine lv_astore (lv' := [(4, .ref (ad (Cb ((x1 * 3) + x2)))), (3, .ref (ad (Mb x2))), (0, .ref (ad 0)), (1, .int x1), (2, .int x2)]) hx hb dX4_deliver_23 hl (by decide) rfl (fun ls hl => ?_)
    refine lv_aload_n hx hb dX4_deliver_25 rfl (lv_at hl 1 rfl) ?_
    refine va_get (D := D) (ci := 0) (v := .int (I (Mb x2) 0)) (C := RX0) (T := TX0) (N := 8) hx hb hts inX0 hown hK hP (Mb x2) (mq_M (isM_O (isM_in g2))) rfl 4 (by decide) (hts _ k_87) (fun _ h9 => h9) rfl dX4_deliver_26 ?_
    refine lv_if_ne (tgt := 35) hx hb dX4_deliver_29 (by decide) (fun c4 => ?_) (fun c4 => ?_)
    · have ok := ok.2 c4
      refine lv_aload hx hb dX4_deliver_35 (lv_at hl 0 rfl) ?_
      refine q_callp (va_runV (As := []) (rest := []) ⟨hx, hb, hml, hown, hts⟩ (c_R_count l D cs ad hi (isR_in g3) I) (cwV 0 hts (gV k_160 k_140 k_141 k_5 k_142) rfl rfl rfl (by decide +kernel) ⟨Nat.le_of_ble_eq_true rfl, Nat.le_of_ble_eq_true rfl⟩) (q_preV hK hP (va_recv hK hP (ci := 1) (q0 := (Cb ((x1 * 3) + x2))) rfl (mq_R (isR_in g3).1))) rfl rfl hl.1 rfl (lv_room (Nat.le_of_ble_eq_true rfl)) dX4_deliver_37 ⟨Nat.zero_le _, Nat.zero_le _⟩) hS (fun _ h => h) (fun H locs hP hS => ?_)
      refine lv_if_ne (tgt := 46) hx hb dX4_deliver_40 (by decide) (fun c5 => ?_) (fun c5 => ?_)
      · have ok := ok.2 c5
        refine lv_aload_n hx hb dX4_deliver_46 rfl (lv_at hl 1 rfl) ?_
        refine va_get (D := D) (ci := 0) (v := .ref (ad ((Mb x2) + 11))) (C := RX0) (T := TX0) (N := 8) hx hb hts inX0 hown hK hP (Mb x2) (mq_M (isM_O (isM_in g2))) rfl 3 (by decide) (hts _ k_85) (fun _ h9 => h9) rfl dX4_deliver_47 ?_
        refine q_callp (va_runV (As := []) (rest := []) ⟨hx, hb, hml, hown, hts⟩ (c_R_isFull l D cs ad hi (isM_L (isM_in g2)) I) (cwV 0 hts (gV k_135 k_136 k_137 k_5 k_138) rfl rfl rfl (by decide +kernel) ⟨Nat.le_of_ble_eq_true rfl, Nat.le_of_ble_eq_true rfl⟩) (q_preV hK hP (va_recv hK hP (ci := 1) (q0 := ((Mb x2) + 11)) rfl (mq_R (isM_L (isM_in g2)).1))) rfl rfl hl.1 rfl (lv_room (Nat.le_of_ble_eq_true rfl)) dX4_deliver_50 ⟨Nat.zero_le _, Nat.zero_le _⟩) hS (fun _ h => h) (fun H locs hP hS => ?_)
        refine lv_if_eq (tgt := 59) hx hb dX4_deliver_53 (by decide) (fun c6 => ?_) (fun c6 => ?_)
        · have ok := ok.1 c6
          refine lv_aload hx hb dX4_deliver_59 (lv_at hl 0 rfl) ?_
          refine va_get (D := D) (ci := 1) (v := .int (I (Cb ((x1 * 3) + x2)) 0)) (C := RX1) (T := TX1) (N := 4) hx hb hts inX1 hown hK hP (Cb ((x1 * 3) + x2)) (mq_R (isR_in g3).1) rfl 2 (by decide) (hts _ k_71) (fun _ h9 => h9) rfl dX4_deliver_61 ?_
          refine lv_iconst (v := 1) hx hb dX4_deliver_64 (by decide) ?_
          refine lv_iadd hx hb dX4_deliver_65 ?_
          refine lv_istore (lv' := [(5, .int ((I (Cb ((x1 * 3) + x2)) 0) + 1)), (4, .ref (ad (Cb ((x1 * 3) + x2)))), (3, .ref (ad (Mb x2))), (0, .ref (ad 0)), (1, .int x1), (2, .int x2)]) hx hb dX4_deliver_66 hl (by decide) rfl (fun ls hl => ?_)
          refine lv_aload hx hb dX4_deliver_68 (lv_at hl 1 rfl) ?_
          refine lv_iload hx hb dX4_deliver_70 (lv_at hl 0 rfl) ?_
          have g7 := ok.1
          have ok := ok.2
          refine q_callp (va_runV (As := [.int ((I (Cb ((x1 * 3) + x2)) 0) + 1)]) (rest := []) ⟨hx, hb, hml, hown, hts⟩ (c_R_valueAt l D cs ad hi (isR_in g3) I ((I (Cb ((x1 * 3) + x2)) 0) + 1) g7) (cwV 1 hts (gV k_161 k_162 k_163 k_5 k_164) rfl rfl rfl (by decide +kernel) ⟨Nat.le_of_ble_eq_true rfl, Nat.le_of_ble_eq_true rfl⟩) (q_preV hK hP (va_recv hK hP (ci := 1) (q0 := (Cb ((x1 * 3) + x2))) rfl (mq_R (isR_in g3).1))) rfl rfl hl.1 rfl (lv_room (Nat.le_of_ble_eq_true rfl)) dX4_deliver_72 ⟨Nat.zero_le _, Nat.zero_le _⟩) hS (fun _ h => h) (fun H locs hP hS => ?_)
          refine lv_istore (lv' := [(6, .int (f_R_valueAt I (Cb ((x1 * 3) + x2)) 8 ((I (Cb ((x1 * 3) + x2)) 0) + 1))), (5, .int ((I (Cb ((x1 * 3) + x2)) 0) + 1)), (4, .ref (ad (Cb ((x1 * 3) + x2)))), (3, .ref (ad (Mb x2))), (0, .ref (ad 0)), (1, .int x1), (2, .int x2)]) hx hb dX4_deliver_75 hl (by decide) rfl (fun ls hl => ?_)
          refine lv_aload hx hb dX4_deliver_77 (lv_at hl 2 rfl) ?_
          refine lv_iload hx hb dX4_deliver_79 (lv_at hl 1 rfl) ?_
          refine q_calli (va_runV (As := [.int ((I (Cb ((x1 * 3) + x2)) 0) + 1)]) (rest := []) ⟨hx, hb, hml, hown, hts⟩ (c_R_dropThrough l D cs ad hi (isR_in g3) I ((I (Cb ((x1 * 3) + x2)) 0) + 1)) (cwV 1 hts (gV k_165 k_166 k_167 k_5 k_168) rfl rfl rfl (by decide +kernel) ⟨Nat.le_of_ble_eq_true rfl, Nat.le_of_ble_eq_true rfl⟩) (q_preV hK hP (va_recv hK hP (ci := 1) (q0 := (Cb ((x1 * 3) + x2))) rfl (mq_R (isR_in g3).1))) rfl rfl hl.1 rfl (lv_room (Nat.le_of_ble_eq_true rfl)) dX4_deliver_81 ⟨Nat.zero_le _, Nat.zero_le _⟩) hS (fun _ h => h) (fun H locs hP hS => ?_)
          refine lv_pop hx hb dX4_deliver_84 rfl ?_
          refine lv_aload_n hx hb dX4_deliver_85 rfl (lv_at hl 3 rfl) ?_
          refine va_get (D := D) (ci := 0) (v := .ref (ad ((Mb x2) + 11))) (C := RX0) (T := TX0) (N := 8) hx hb hts inX0 hown hK hP (Mb x2) (mq_M (isM_O (isM_in g2))) rfl 3 (by decide) (hts _ k_85) (fun _ h9 => h9) rfl dX4_deliver_86 ?_
          refine lv_iload hx hb dX4_deliver_89 (lv_at hl 0 rfl) ?_
          refine lv_iload_n hx hb dX4_deliver_91 rfl (lv_at hl 5 rfl) ?_
          have g8 := ok
          refine q_calli (va_runV (As := [.int (f_R_valueAt I (Cb ((x1 * 3) + x2)) 8 ((I (Cb ((x1 * 3) + x2)) 0) + 1)), .int x1]) (rest := []) ⟨hx, hb, hml, hown, hts⟩ (c_R_append l D cs ad hi (isM_L (isM_in g2)) ((f_R_dropThrough I (Cb ((x1 * 3) + x2)) 8 ((I (Cb ((x1 * 3) + x2)) 0) + 1)).2) (f_R_valueAt I (Cb ((x1 * 3) + x2)) 8 ((I (Cb ((x1 * 3) + x2)) 0) + 1)) x1 g8) (cwV 2 hts (gV k_143 k_144 k_145 k_5 k_146) rfl rfl rfl (by decide +kernel) ⟨Nat.le_of_ble_eq_true rfl, Nat.le_of_ble_eq_true rfl⟩) (q_preV hK hP (va_recv hK hP (ci := 1) (q0 := ((Mb x2) + 11)) rfl (mq_R (isM_L (isM_in g2)).1))) rfl rfl hl.1 rfl (lv_room (Nat.le_of_ble_eq_true rfl)) dX4_deliver_92 ⟨Nat.zero_le _, Nat.zero_le _⟩) hS (fun _ h => h) (fun H locs hP hS => ?_)
          exact q_iret hx hb hr hlocks dX4_deliver_95 hP hS (by rw [f_G_deliver, if_neg c1, if_neg c4, if_neg c5, if_pos c6])
        · have ok := ok.2 c6
          refine lv_bipush (v := (-4)) hx hb dX4_deliver_56 (by decide) ?_
          exact q_iret hx hb hr hlocks dX4_deliver_58 hP hS (by rw [f_G_deliver, if_neg c1, if_neg c4, if_neg c5, if_neg c6])
      · have ok := ok.1 c5
        refine lv_bipush (v := (-3)) hx hb dX4_deliver_43 (by decide) ?_
        exact q_iret hx hb hr hlocks dX4_deliver_45 hP hS (by rw [f_G_deliver, if_neg c1, if_neg c4, if_pos c5])
    · have ok := ok.1 c4
      refine lv_bipush (v := (-2)) hx hb dX4_deliver_32 (by decide) ?_
      exact q_iret hx hb hr hlocks dX4_deliver_34 hP hS (by rw [f_G_deliver, if_neg c1, if_pos c4])
  · have ok := ok.1 c1
    refine lv_iconst (v := (-1)) hx hb dX4_deliver_8 (by decide) ?_
    exact q_iret hx hb hr hlocks dX4_deliver_9 hP hS (by rw [f_G_deliver, if_pos c1])
def f_G_step (I : Mm) (x1 : Int32) : Int32 × Mm := (if (f_G_isProcess x1) = 0 then ((-1), I) else (if (I (Mb x1) 0) = 0 then ((-2), I) else ((f_G_doNext I x1).1, (f_G_doNext I x1).2)))
def ok_G_step (I : Mm) (x1 : Int32) : Prop := ((f_G_isProcess x1) = 0 → True) ∧ (¬ (f_G_isProcess x1) = 0 → vp_in x1 3 ∧ (((I (Mb x1) 0) = 0 → True) ∧ (¬ (I (Mb x1) 0) = 0 → ok_G_doNext I x1)))
set_option maxHeartbeats 4000000 in
set_option maxRecDepth 100000 in
theorem c_G_step (l : Launch) (D : va_G) (cs : Nat → ClassId) (ad : Nat → Nat) (hi : mi ad) (I : Mm) (x1 : Int32) (ok : ok_G_step I x1) : MC l yX4_step wX4_step { frames := 6, cells := 0, slots := 0, locals := 143 } D cs ad [.ref (ad 0), .int x1] I (some (.int (f_G_step I x1).1)) (f_G_step I x1).2 := by
  unfold ok_G_step at ok
  refine q_enter (cc := cX4_step) (maxL := 2) (ret := (some .int)) (by decide +kernel) rfl (Nat.le_of_ble_eq_true rfl) ?_
  intro p e s m below meth c ls hx hb hr hml hown hts hlocks hK hP hS hl
  have hown : s.vm.findClass RX4 = some m.cls := hown
  have hts : ∀ w ∈ gtbl, w.before _ s = true := fun w h => hts w (List.mem_cons_of_mem _ h)
  have hl : lv_has ls 2 [(0, .ref (ad 0)), (1, .int x1)] := hl
  refine lv_iload_n hx hb dX4_step_0 rfl (lv_at hl 1 rfl) ?_
  refine q_callp (va_runS (As := [.int x1]) (rest := []) ⟨hx, hb, hml, hown, hts⟩ (c_G_isProcess l D cs ad hi I x1) (va_cwS 1 hts (gS k_111 k_112 k_1 k_113) rfl rfl rfl (by decide +kernel) ⟨Nat.le_of_ble_eq_true rfl, Nat.le_of_ble_eq_true rfl⟩) (q_preS hK hP) rfl rfl hl.1 rfl (lv_room (Nat.le_of_ble_eq_true rfl)) dX4_step_1 ⟨Nat.zero_le _, Nat.zero_le _⟩) hS (fun _ h => h) (fun H locs hP hS => ?_)
  refine lv_if_ne (tgt := 9) hx hb dX4_step_4 (by decide) (fun c1 => ?_) (fun c1 => ?_)
  · have ok := ok.2 c1
    refine lv_aload_n hx hb dX4_step_9 rfl (lv_at hl 0 rfl) ?_
    refine va_get (D := D) (ci := 4) (v := .ref (ad 1)) (C := RX4) (T := TX4) (N := 3) hx hb hts inX4 hown hK hP 0 (mq_G isO_0) rfl 0 (by decide) (hts _ k_101) (fun _ h9 => h9) rfl dX4_step_10 ?_
    refine lv_iload_n hx hb dX4_step_13 rfl (lv_at hl 1 rfl) ?_
    have g2 := ok.1
    have ok := ok.2
    refine q_ldM hx hb hK hP g2 dX4_step_14 ?_
    refine va_get (D := D) (ci := 0) (v := .int (I (Mb x1) 0)) (C := RX0) (T := TX0) (N := 8) hx hb hts inX0 hown hK hP (Mb x1) (mq_M (isM_O (isM_in g2))) rfl 4 (by decide) (hts _ k_87) (fun _ h9 => h9) rfl dX4_step_15 ?_
    refine lv_if_ne (tgt := 24) hx hb dX4_step_18 (by decide) (fun c3 => ?_) (fun c3 => ?_)
    · have ok := ok.2 c3
      refine lv_aload_n hx hb dX4_step_24 rfl (lv_at hl 0 rfl) ?_
      refine lv_iload_n hx hb dX4_step_25 rfl (lv_at hl 1 rfl) ?_
      have g4 := ok
      refine q_calli (va_runV (As := [.int x1]) (rest := []) ⟨hx, hb, hml, hown, hts⟩ (c_G_doNext l D cs ad hi I x1 g4) (cwV 1 hts (gV k_173 k_174 k_432 k_1 k_175) rfl rfl rfl (by decide +kernel) ⟨Nat.le_of_ble_eq_true rfl, Nat.le_of_ble_eq_true rfl⟩) (q_preV hK hP (va_recv hK hP (ci := 4) (q0 := 0) rfl (mq_G isO_0))) rfl rfl hl.1 rfl (lv_room (Nat.le_of_ble_eq_true rfl)) dX4_step_26 ⟨Nat.zero_le _, Nat.zero_le _⟩) hS (fun _ h => h) (fun H locs hP hS => ?_)
      exact q_iret hx hb hr hlocks dX4_step_29 hP hS (by rw [f_G_step, if_neg c1, if_neg c3])
    · have ok := ok.1 c3
      refine lv_bipush (v := (-2)) hx hb dX4_step_21 (by decide) ?_
      exact q_iret hx hb hr hlocks dX4_step_23 hP hS (by rw [f_G_step, if_neg c1, if_pos c3])
  · have ok := ok.1 c1
    refine lv_iconst (v := (-1)) hx hb dX4_step_7 (by decide) ?_
    exact q_iret hx hb hr hlocks dX4_step_8 hP hS (by rw [f_G_step, if_pos c1])
def f_G_checkpoint (I : Mm) (x1 : Int32) : Int32 × Mm := (if (f_G_isProcess x1) = 0 then ((-1), I) else (if (I (Mb x1) 0) = 0 then ((-2), I) else ((f_R_dropThrough (f_S_copyFrom I ((Mb x1) + 8) ((Mb x1) + 5)) ((Mb x1) + 11) 20 ((f_S_copyFrom I ((Mb x1) + 8) ((Mb x1) + 5)) ((Mb x1) + 8) 2)).1, (f_R_dropThrough (f_S_copyFrom I ((Mb x1) + 8) ((Mb x1) + 5)) ((Mb x1) + 11) 20 ((f_S_copyFrom I ((Mb x1) + 8) ((Mb x1) + 5)) ((Mb x1) + 8) 2)).2)))
def ok_G_checkpoint  (x1 : Int32) : Prop := ((f_G_isProcess x1) = 0 → True) ∧ (¬ (f_G_isProcess x1) = 0 → vp_in x1 3)
set_option maxHeartbeats 4000000 in
set_option maxRecDepth 100000 in
theorem c_G_checkpoint (l : Launch) (D : va_G) (cs : Nat → ClassId) (ad : Nat → Nat) (hi : mi ad) (I : Mm) (x1 : Int32) (ok : ok_G_checkpoint x1) : MC l yX4_checkpoint wX4_checkpoint { frames := 2, cells := 0, slots := 0, locals := 81 } D cs ad [.ref (ad 0), .int x1] I (some (.int (f_G_checkpoint I x1).1)) (f_G_checkpoint I x1).2 := by
  unfold ok_G_checkpoint at ok
  refine q_enter (cc := cX4_checkpoint) (maxL := 3) (ret := (some .int)) (by decide +kernel) rfl (Nat.le_of_ble_eq_true rfl) ?_
  intro p e s m below meth c ls hx hb hr hml hown hts hlocks hK hP hS hl
  have hown : s.vm.findClass RX4 = some m.cls := hown
  have hts : ∀ w ∈ gtbl, w.before _ s = true := fun w h => hts w (List.mem_cons_of_mem _ h)
  have hl : lv_has ls 3 [(0, .ref (ad 0)), (1, .int x1)] := hl
  refine lv_iload_n hx hb dX4_checkpoint_0 rfl (lv_at hl 1 rfl) ?_
  refine q_callp (va_runS (As := [.int x1]) (rest := []) ⟨hx, hb, hml, hown, hts⟩ (c_G_isProcess l D cs ad hi I x1) (va_cwS 1 hts (gS k_111 k_112 k_1 k_113) rfl rfl rfl (by decide +kernel) ⟨Nat.le_of_ble_eq_true rfl, Nat.le_of_ble_eq_true rfl⟩) (q_preS hK hP) rfl rfl hl.1 rfl (lv_room (Nat.le_of_ble_eq_true rfl)) dX4_checkpoint_1 ⟨Nat.zero_le _, Nat.zero_le _⟩) hS (fun _ h => h) (fun H locs hP hS => ?_)
  refine lv_if_ne (tgt := 9) hx hb dX4_checkpoint_4 (by decide) (fun c1 => ?_) (fun c1 => ?_)
  · have ok := ok.2 c1
    refine lv_aload_n hx hb dX4_checkpoint_9 rfl (lv_at hl 0 rfl) ?_
    refine va_get (D := D) (ci := 4) (v := .ref (ad 1)) (C := RX4) (T := TX4) (N := 3) hx hb hts inX4 hown hK hP 0 (mq_G isO_0) rfl 0 (by decide) (hts _ k_101) (fun _ h9 => h9) rfl dX4_checkpoint_10 ?_
    refine lv_iload_n hx hb dX4_checkpoint_13 rfl (lv_at hl 1 rfl) ?_
    have g2 := ok
    refine q_ldM hx hb hK hP g2 dX4_checkpoint_14 ?_
    refine lv_astore_n (lv' := [(2, .ref (ad (Mb x1))), (0, .ref (ad 0)), (1, .int x1)]) hx hb dX4_checkpoint_15 rfl hl (by decide) rfl (fun ls hl => ?_)
    refine lv_aload_n hx hb dX4_checkpoint_16 rfl (lv_at hl 0 rfl) ?_
    refine va_get (D := D) (ci := 0) (v := .int (I (Mb x1) 0)) (C := RX0) (T := TX0) (N := 8) hx hb hts inX0 hown hK hP (Mb x1) (mq_M (isM_O (isM_in g2))) rfl 4 (by decide) (hts _ k_87) (fun _ h9 => h9) rfl dX4_checkpoint_17 ?_
    refine lv_if_ne (tgt := 26) hx hb dX4_checkpoint_20 (by decide) (fun c3 => ?_) (fun c3 => ?_)
    · have c3 := c3
      refine lv_aload_n hx hb dX4_checkpoint_26 rfl (lv_at hl 0 rfl) ?_
      refine va_get (D := D) (ci := 0) (v := .ref (ad ((Mb x1) + 8))) (C := RX0) (T := TX0) (N := 8) hx hb hts inX0 hown hK hP (Mb x1) (mq_M (isM_O (isM_in g2))) rfl 2 (by decide) (hts _ k_83) (fun _ h9 => h9) rfl dX4_checkpoint_27 ?_
      refine lv_aload_n hx hb dX4_checkpoint_30 rfl (lv_at hl 0 rfl) ?_
      refine va_get (D := D) (ci := 0) (v := .ref (ad ((Mb x1) + 5))) (C := RX0) (T := TX0) (N := 8) hx hb hts inX0 hown hK hP (Mb x1) (mq_M (isM_O (isM_in g2))) rfl 1 (by decide) (hts _ k_81) (fun _ h9 => h9) rfl dX4_checkpoint_31 ?_
      refine q_callv (va_runV (As := [.ref (ad ((Mb x1) + 5))]) (rest := []) ⟨hx, hb, hml, hown, hts⟩ (c_S_copyFrom l D cs ad hi (isM_S (isM_in g2)) (isM_C (isM_in g2)) I) (cwV 1 hts (gV k_211 k_212 k_213 k_4 k_214) rfl rfl rfl (by decide +kernel) ⟨Nat.le_of_ble_eq_true rfl, Nat.le_of_ble_eq_true rfl⟩) (q_preV hK hP (va_recv hK hP (ci := 3) (q0 := ((Mb x1) + 8)) rfl (mq_S (isM_S (isM_in g2)).1))) rfl rfl hl.1 rfl (lv_room (Nat.le_of_ble_eq_true rfl)) dX4_checkpoint_34 ⟨Nat.zero_le _, Nat.zero_le _⟩) hS (fun _ h => h) (fun H locs hP hS => ?_)
      refine lv_aload_n hx hb dX4_checkpoint_37 rfl (lv_at hl 0 rfl) ?_
      refine va_get (D := D) (ci := 0) (v := .ref (ad ((Mb x1) + 11))) (C := RX0) (T := TX0) (N := 8) hx hb hts inX0 hown hK hP (Mb x1) (mq_M (isM_O (isM_in g2))) rfl 3 (by decide) (hts _ k_85) (fun _ h9 => h9) rfl dX4_checkpoint_38 ?_
      refine lv_aload_n hx hb dX4_checkpoint_41 rfl (lv_at hl 0 rfl) ?_
      refine va_get (D := D) (ci := 0) (v := .ref (ad ((Mb x1) + 8))) (C := RX0) (T := TX0) (N := 8) hx hb hts inX0 hown hK hP (Mb x1) (mq_M (isM_O (isM_in g2))) rfl 2 (by decide) (hts _ k_83) (fun _ h9 => h9) rfl dX4_checkpoint_42 ?_
      refine va_get (D := D) (ci := 3) (v := .int ((f_S_copyFrom I ((Mb x1) + 8) ((Mb x1) + 5)) ((Mb x1) + 8) 2)) (C := RX3) (T := TX3) (N := 6) hx hb hts inX3 hown hK hP ((Mb x1) + 8) (mq_S (isM_S (isM_in g2)).1) rfl 4 (by decide) (hts _ k_53) (fun _ h9 => h9) rfl dX4_checkpoint_45 ?_
      refine q_calli (va_runV (As := [.int ((f_S_copyFrom I ((Mb x1) + 8) ((Mb x1) + 5)) ((Mb x1) + 8) 2)]) (rest := []) ⟨hx, hb, hml, hown, hts⟩ (c_R_dropThrough l D cs ad hi (isM_L (isM_in g2)) (f_S_copyFrom I ((Mb x1) + 8) ((Mb x1) + 5)) ((f_S_copyFrom I ((Mb x1) + 8) ((Mb x1) + 5)) ((Mb x1) + 8) 2)) (cwV 1 hts (gV k_165 k_166 k_167 k_5 k_168) rfl rfl rfl (by decide +kernel) ⟨Nat.le_of_ble_eq_true rfl, Nat.le_of_ble_eq_true rfl⟩) (q_preV hK hP (va_recv hK hP (ci := 1) (q0 := ((Mb x1) + 11)) rfl (mq_R (isM_L (isM_in g2)).1))) rfl rfl hl.1 rfl (lv_room (Nat.le_of_ble_eq_true rfl)) dX4_checkpoint_48 ⟨Nat.zero_le _, Nat.zero_le _⟩) hS (fun _ h => h) (fun H locs hP hS => ?_)
      exact q_iret hx hb hr hlocks dX4_checkpoint_51 hP hS (by rw [f_G_checkpoint, if_neg c1, if_neg c3])
    · have c3 := c3
      refine lv_bipush (v := (-2)) hx hb dX4_checkpoint_23 (by decide) ?_
      exact q_iret hx hb hr hlocks dX4_checkpoint_25 hP hS (by rw [f_G_checkpoint, if_neg c1, if_pos c3])
  · have ok := ok.1 c1
    refine lv_iconst (v := (-1)) hx hb dX4_checkpoint_7 (by decide) ?_
    exact q_iret hx hb hr hlocks dX4_checkpoint_8 hP hS (by rw [f_G_checkpoint, if_pos c1])
def m_G_crash_1 (I : Mm) (x1 : Int32) : Mm := u2 I (Mb x1) 0 0
def f_G_crash (I : Mm) (x1 : Int32) : Int32 × Mm := (if (f_G_isProcess x1) = 0 then (0, I) else (if (I (Mb x1) 0) = 0 then (0, I) else (1, (m_G_crash_1 I x1))))
def ok_G_crash  (x1 : Int32) : Prop := ((f_G_isProcess x1) = 0 → True) ∧ (¬ (f_G_isProcess x1) = 0 → vp_in x1 3)
theorem z_G_crash (I : Mm) (x1 : Int32) : narrow .boolean (.int (f_G_crash I x1).1) = .int (f_G_crash I x1).1 := by
  unfold f_G_crash
  (repeat' split) <;> first | (with_reducible exact nb0 _) | (with_reducible exact nb1 _) | (with_reducible exact zz (z_G_isProcess _))
set_option maxHeartbeats 4000000 in
set_option maxRecDepth 100000 in
theorem c_G_crash (l : Launch) (D : va_G) (cs : Nat → ClassId) (ad : Nat → Nat) (hi : mi ad) (I : Mm) (x1 : Int32) (ok : ok_G_crash x1) : MC l yX4_crash wX4_crash { frames := 1, cells := 0, slots := 0, locals := 20 } D cs ad [.ref (ad 0), .int x1] I (some (.int (f_G_crash I x1).1)) (f_G_crash I x1).2 := by
  unfold ok_G_crash at ok
  refine q_enter (cc := cX4_crash) (maxL := 2) (ret := (some .boolean)) (by decide +kernel) rfl (Nat.le_of_ble_eq_true rfl) ?_
  intro p e s m below meth c ls hx hb hr hml hown hts hlocks hK hP hS hl
  have hown : s.vm.findClass RX4 = some m.cls := hown
  have hts : ∀ w ∈ gtbl, w.before _ s = true := fun w h => hts w (List.mem_cons_of_mem _ h)
  have hl : lv_has ls 2 [(0, .ref (ad 0)), (1, .int x1)] := hl
  refine lv_iload_n hx hb dX4_crash_0 rfl (lv_at hl 1 rfl) ?_
  refine q_callp (va_runS (As := [.int x1]) (rest := []) ⟨hx, hb, hml, hown, hts⟩ (c_G_isProcess l D cs ad hi I x1) (va_cwS 1 hts (gS k_111 k_112 k_1 k_113) rfl rfl rfl (by decide +kernel) ⟨Nat.le_of_ble_eq_true rfl, Nat.le_of_ble_eq_true rfl⟩) (q_preS hK hP) rfl rfl hl.1 rfl (lv_room (Nat.le_of_ble_eq_true rfl)) dX4_crash_1 ⟨Nat.zero_le _, Nat.zero_le _⟩) hS (fun _ h => h) (fun H locs hP hS => ?_)
  refine lv_if_eq (tgt := 19) hx hb dX4_crash_4 (by decide) (fun c1 => ?_) (fun c1 => ?_)
  · have ok := ok.1 c1
    refine lv_iconst (v := 0) hx hb dX4_crash_19 (by decide) ?_
    exact q_zret hx hb hr hlocks dX4_crash_20 hP hS rfl (by rw [f_G_crash, if_pos c1])
  · have ok := ok.2 c1
    refine lv_aload_n hx hb dX4_crash_7 rfl (lv_at hl 0 rfl) ?_
    refine va_get (D := D) (ci := 4) (v := .ref (ad 1)) (C := RX4) (T := TX4) (N := 3) hx hb hts inX4 hown hK hP 0 (mq_G isO_0) rfl 0 (by decide) (hts _ k_101) (fun _ h9 => h9) rfl dX4_crash_8 ?_
    refine lv_iload_n hx hb dX4_crash_11 rfl (lv_at hl 1 rfl) ?_
    have g2 := ok
    refine q_ldM hx hb hK hP g2 dX4_crash_12 ?_
    refine va_get (D := D) (ci := 0) (v := .int (I (Mb x1) 0)) (C := RX0) (T := TX0) (N := 8) hx hb hts inX0 hown hK hP (Mb x1) (mq_M (isM_O (isM_in g2))) rfl 4 (by decide) (hts _ k_87) (fun _ h9 => h9) rfl dX4_crash_13 ?_
    refine lv_if_ne (tgt := 21) hx hb dX4_crash_16 (by decide) (fun c3 => ?_) (fun c3 => ?_)
    · have c3 := c3
      refine lv_aload_n hx hb dX4_crash_21 rfl (lv_at hl 0 rfl) ?_
      refine va_get (D := D) (ci := 4) (v := .ref (ad 1)) (C := RX4) (T := TX4) (N := 3) hx hb hts inX4 hown hK hP 0 (mq_G isO_0) rfl 0 (by decide) (hts _ k_101) (fun _ h9 => h9) rfl dX4_crash_22 ?_
      refine lv_iload_n hx hb dX4_crash_25 rfl (lv_at hl 1 rfl) ?_
      refine q_ldM hx hb hK hP g2 dX4_crash_26 ?_
      refine lv_iconst (v := 0) hx hb dX4_crash_27 (by decide) ?_
      refine va_put (D := D) (ci := 0) (v := .int 0) (ty := .boolean) (C := RX0) (T := TX0) (N := 8) hx hb hts inX0 tyX0 tyX0_ok nmX0 hown hK hP (mD hi) hS (Mb x1) (mq_M (isM_O (isM_in g2))) rfl 4 (by decide) (hts _ k_87) (fun _ h9 => h9) rfl (by decide +kernel) rfl rfl (Nat.le_of_ble_eq_true rfl) dX4_crash_28 (fun H locs hP _ hS => ?_)
      have hP := ms_M0 (isM_O (isM_in g2)) hP
      have hP : va_P D vwCl (mw 97 ad (gs cs ad (m_G_crash_1 I x1))) H := hP
      refine lv_iconst (v := 1) hx hb dX4_crash_31 (by decide) ?_
      exact q_zret hx hb hr hlocks dX4_crash_32 hP hS rfl (by rw [f_G_crash, if_neg c1, if_neg c3])
    · have c3 := c3
      refine lv_iconst (v := 0) hx hb dX4_crash_19 (by decide) ?_
      exact q_zret hx hb hr hlocks dX4_crash_20 hP hS rfl (by rw [f_G_crash, if_neg c1, if_pos c3])
def m_G_recover_1 (I : Mm) (x1 : Int32) : Mm := u2 (f_S_copyFrom I ((Mb x1) + 5) ((Mb x1) + 8)) (Mb x1) 0 1
def f_G_recover (I : Mm) (x1 : Int32) : Int32 × Mm := (if (f_G_isProcess x1) = 0 then ((-1), I) else (if (I (Mb x1) 0) = 0 then (((m_G_recover_1 I x1) ((Mb x1) + 11) 1) - ((m_G_recover_1 I x1) ((Mb x1) + 5) 2), (m_G_recover_1 I x1)) else ((-3), I)))
def ok_G_recover  (x1 : Int32) : Prop := ((f_G_isProcess x1) = 0 → True) ∧ (¬ (f_G_isProcess x1) = 0 → vp_in x1 3)
set_option maxHeartbeats 4000000 in
set_option maxRecDepth 100000 in
theorem c_G_recover (l : Launch) (D : va_G) (cs : Nat → ClassId) (ad : Nat → Nat) (hi : mi ad) (I : Mm) (x1 : Int32) (ok : ok_G_recover x1) : MC l yX4_recover wX4_recover { frames := 2, cells := 0, slots := 0, locals := 81 } D cs ad [.ref (ad 0), .int x1] I (some (.int (f_G_recover I x1).1)) (f_G_recover I x1).2 := by
  unfold ok_G_recover at ok
  refine q_enter (cc := cX4_recover) (maxL := 3) (ret := (some .int)) (by decide +kernel) rfl (Nat.le_of_ble_eq_true rfl) ?_
  intro p e s m below meth c ls hx hb hr hml hown hts hlocks hK hP hS hl
  have hown : s.vm.findClass RX4 = some m.cls := hown
  have hts : ∀ w ∈ gtbl, w.before _ s = true := fun w h => hts w (List.mem_cons_of_mem _ h)
  have hl : lv_has ls 3 [(0, .ref (ad 0)), (1, .int x1)] := hl
  refine lv_iload_n hx hb dX4_recover_0 rfl (lv_at hl 1 rfl) ?_
  refine q_callp (va_runS (As := [.int x1]) (rest := []) ⟨hx, hb, hml, hown, hts⟩ (c_G_isProcess l D cs ad hi I x1) (va_cwS 1 hts (gS k_111 k_112 k_1 k_113) rfl rfl rfl (by decide +kernel) ⟨Nat.le_of_ble_eq_true rfl, Nat.le_of_ble_eq_true rfl⟩) (q_preS hK hP) rfl rfl hl.1 rfl (lv_room (Nat.le_of_ble_eq_true rfl)) dX4_recover_1 ⟨Nat.zero_le _, Nat.zero_le _⟩) hS (fun _ h => h) (fun H locs hP hS => ?_)
  refine lv_if_ne (tgt := 9) hx hb dX4_recover_4 (by decide) (fun c1 => ?_) (fun c1 => ?_)
  · have ok := ok.2 c1
    refine lv_aload_n hx hb dX4_recover_9 rfl (lv_at hl 0 rfl) ?_
    refine va_get (D := D) (ci := 4) (v := .ref (ad 1)) (C := RX4) (T := TX4) (N := 3) hx hb hts inX4 hown hK hP 0 (mq_G isO_0) rfl 0 (by decide) (hts _ k_101) (fun _ h9 => h9) rfl dX4_recover_10 ?_
    refine lv_iload_n hx hb dX4_recover_13 rfl (lv_at hl 1 rfl) ?_
    have g2 := ok
    refine q_ldM hx hb hK hP g2 dX4_recover_14 ?_
    refine lv_astore_n (lv' := [(2, .ref (ad (Mb x1))), (0, .ref (ad 0)), (1, .int x1)]) hx hb dX4_recover_15 rfl hl (by decide) rfl (fun ls hl => ?_)
    refine lv_aload_n hx hb dX4_recover_16 rfl (lv_at hl 0 rfl) ?_
    refine va_get (D := D) (ci := 0) (v := .int (I (Mb x1) 0)) (C := RX0) (T := TX0) (N := 8) hx hb hts inX0 hown hK hP (Mb x1) (mq_M (isM_O (isM_in g2))) rfl 4 (by decide) (hts _ k_87) (fun _ h9 => h9) rfl dX4_recover_17 ?_
    refine lv_if_eq (tgt := 26) hx hb dX4_recover_20 (by decide) (fun c3 => ?_) (fun c3 => ?_)
    · have c3 := c3
      refine lv_aload_n hx hb dX4_recover_26 rfl (lv_at hl 0 rfl) ?_
      refine va_get (D := D) (ci := 0) (v := .ref (ad ((Mb x1) + 5))) (C := RX0) (T := TX0) (N := 8) hx hb hts inX0 hown hK hP (Mb x1) (mq_M (isM_O (isM_in g2))) rfl 1 (by decide) (hts _ k_81) (fun _ h9 => h9) rfl dX4_recover_27 ?_
      refine lv_aload_n hx hb dX4_recover_30 rfl (lv_at hl 0 rfl) ?_
      refine va_get (D := D) (ci := 0) (v := .ref (ad ((Mb x1) + 8))) (C := RX0) (T := TX0) (N := 8) hx hb hts inX0 hown hK hP (Mb x1) (mq_M (isM_O (isM_in g2))) rfl 2 (by decide) (hts _ k_83) (fun _ h9 => h9) rfl dX4_recover_31 ?_
      refine q_callv (va_runV (As := [.ref (ad ((Mb x1) + 8))]) (rest := []) ⟨hx, hb, hml, hown, hts⟩ (c_S_copyFrom l D cs ad hi (isM_C (isM_in g2)) (isM_S (isM_in g2)) I) (cwV 1 hts (gV k_211 k_212 k_213 k_4 k_214) rfl rfl rfl (by decide +kernel) ⟨Nat.le_of_ble_eq_true rfl, Nat.le_of_ble_eq_true rfl⟩) (q_preV hK hP (va_recv hK hP (ci := 3) (q0 := ((Mb x1) + 5)) rfl (mq_S (isM_C (isM_in g2)).1))) rfl rfl hl.1 rfl (lv_room (Nat.le_of_ble_eq_true rfl)) dX4_recover_34 ⟨Nat.zero_le _, Nat.zero_le _⟩) hS (fun _ h => h) (fun H locs hP hS => ?_)
      refine lv_aload_n hx hb dX4_recover_37 rfl (lv_at hl 0 rfl) ?_
      refine lv_iconst (v := 1) hx hb dX4_recover_38 (by decide) ?_
      refine va_put (D := D) (ci := 0) (v := .int 1) (ty := .boolean) (C := RX0) (T := TX0) (N := 8) hx hb hts inX0 tyX0 tyX0_ok nmX0 hown hK hP (mD hi) hS (Mb x1) (mq_M (isM_O (isM_in g2))) rfl 4 (by decide) (hts _ k_87) (fun _ h9 => h9) rfl (by decide +kernel) rfl rfl (Nat.le_of_ble_eq_true rfl) dX4_recover_39 (fun H locs hP _ hS => ?_)
      have hP := ms_M0 (isM_O (isM_in g2)) hP
      have hP : va_P D vwCl (mw 97 ad (gs cs ad (m_G_recover_1 I x1))) H := hP
      refine lv_aload_n hx hb dX4_recover_42 rfl (lv_at hl 0 rfl) ?_
      refine va_get (D := D) (ci := 0) (v := .ref (ad ((Mb x1) + 11))) (C := RX0) (T := TX0) (N := 8) hx hb hts inX0 hown hK hP (Mb x1) (mq_M (isM_O (isM_in g2))) rfl 3 (by decide) (hts _ k_85) (fun _ h9 => h9) rfl dX4_recover_43 ?_
      refine va_get (D := D) (ci := 1) (v := .int ((m_G_recover_1 I x1) ((Mb x1) + 11) 1)) (C := RX1) (T := TX1) (N := 4) hx hb hts inX1 hown hK hP ((Mb x1) + 11) (mq_R (isM_L (isM_in g2)).1) rfl 3 (by decide) (hts _ k_73) (fun _ h9 => h9) rfl dX4_recover_46 ?_
      refine lv_aload_n hx hb dX4_recover_49 rfl (lv_at hl 0 rfl) ?_
      refine va_get (D := D) (ci := 0) (v := .ref (ad ((Mb x1) + 5))) (C := RX0) (T := TX0) (N := 8) hx hb hts inX0 hown hK hP (Mb x1) (mq_M (isM_O (isM_in g2))) rfl 1 (by decide) (hts _ k_81) (fun _ h9 => h9) rfl dX4_recover_50 ?_
      refine va_get (D := D) (ci := 3) (v := .int ((m_G_recover_1 I x1) ((Mb x1) + 5) 2)) (C := RX3) (T := TX3) (N := 6) hx hb hts inX3 hown hK hP ((Mb x1) + 5) (mq_S (isM_C (isM_in g2)).1) rfl 4 (by decide) (hts _ k_53) (fun _ h9 => h9) rfl dX4_recover_53 ?_
      refine lv_isub hx hb dX4_recover_56 ?_
      exact q_iret hx hb hr hlocks dX4_recover_57 hP hS (by rw [f_G_recover, if_neg c1, if_pos c3])
    · have c3 := c3
      refine lv_bipush (v := (-3)) hx hb dX4_recover_23 (by decide) ?_
      exact q_iret hx hb hr hlocks dX4_recover_25 hP hS (by rw [f_G_recover, if_neg c1, if_neg c3])
  · have ok := ok.1 c1
    refine lv_iconst (v := (-1)) hx hb dX4_recover_7 (by decide) ?_
    exact q_iret hx hb hr hlocks dX4_recover_8 hP hS (by rw [f_G_recover, if_pos c1])
end
section
def f_G_register (I : Mm) (x1 x2 : Int32) : Int32 := (if (f_G_isProcess x1) = 0 then 0 else (if (f_G_isRegister x2) = 0 then 0 else (if (I (Mb x1) 0) = 0 then 0 else (I (((Mb x1) + 5) + 1) x2.toNatClampNeg))))
def ok_G_register (I : Mm) (x1 x2 : Int32) : Prop := ((f_G_isProcess x1) = 0 → True) ∧ (¬ (f_G_isProcess x1) = 0 → ((f_G_isRegister x2) = 0 → True) ∧ (¬ (f_G_isRegister x2) = 0 → vp_in x1 3 ∧ (((I (Mb x1) 0) = 0 → True) ∧ (¬ (I (Mb x1) 0) = 0 → vp_in x2 4))))
set_option maxHeartbeats 4000000 in
set_option maxRecDepth 100000 in
theorem c_G_register (l : Launch) (D : va_G) (cs : Nat → ClassId) (ad : Nat → Nat) (hi : mi ad) (I : Mm) (x1 x2 : Int32) (ok : ok_G_register I x1 x2) : MC l yX4_register wX4_register { frames := 1, cells := 0, slots := 0, locals := 20 } D cs ad [.ref (ad 0), .int x1, .int x2] I (some (.int (f_G_register I x1 x2))) I := by
  unfold ok_G_register at ok
  refine q_enter (cc := cX4_register) (maxL := 3) (ret := (some .int)) (by decide +kernel) rfl (Nat.le_of_ble_eq_true rfl) ?_
  intro p e s m below meth c ls hx hb hr hml hown hts hlocks hK hP hS hl
  have hown : s.vm.findClass RX4 = some m.cls := hown
  have hts : ∀ w ∈ gtbl, w.before _ s = true := fun w h => hts w (List.mem_cons_of_mem _ h)
  have hl : lv_has ls 3 [(0, .ref (ad 0)), (1, .int x1), (2, .int x2)] := hl
  refine lv_iload_n hx hb dX4_register_0 rfl (lv_at hl 1 rfl) ?_
  refine q_callp (va_runS (As := [.int x1]) (rest := []) ⟨hx, hb, hml, hown, hts⟩ (c_G_isProcess l D cs ad hi I x1) (va_cwS 1 hts (gS k_111 k_112 k_1 k_113) rfl rfl rfl (by decide +kernel) ⟨Nat.le_of_ble_eq_true rfl, Nat.le_of_ble_eq_true rfl⟩) (q_preS hK hP) rfl rfl hl.1 rfl (lv_room (Nat.le_of_ble_eq_true rfl)) dX4_register_1 ⟨Nat.zero_le _, Nat.zero_le _⟩) hS (fun _ h => h) (fun H locs hP hS => ?_)
  refine lv_if_eq (tgt := 26) hx hb dX4_register_4 (by decide) (fun c1 => ?_) (fun c1 => ?_)
  · have ok := ok.1 c1
    refine lv_iconst (v := 0) hx hb dX4_register_26 (by decide) ?_
    exact q_iretP hx hb hr hlocks dX4_register_27 hP hS (by rw [f_G_register, if_pos c1])
  · have ok := ok.2 c1
    refine lv_iload_n hx hb dX4_register_7 rfl (lv_at hl 2 rfl) ?_
    refine q_callp (va_runS (As := [.int x2]) (rest := []) ⟨hx, hb, hml, hown, hts⟩ (c_G_isRegister l D cs ad hi I x2) (va_cwS 1 hts (gS k_117 k_118 k_1 k_119) rfl rfl rfl (by decide +kernel) ⟨Nat.le_of_ble_eq_true rfl, Nat.le_of_ble_eq_true rfl⟩) (q_preS hK hP) rfl rfl hl.1 rfl (lv_room (Nat.le_of_ble_eq_true rfl)) dX4_register_8 ⟨Nat.zero_le _, Nat.zero_le _⟩) hS (fun _ h => h) (fun H locs hP hS => ?_)
    refine lv_if_eq (tgt := 26) hx hb dX4_register_11 (by decide) (fun c2 => ?_) (fun c2 => ?_)
    · have ok := ok.1 c2
      refine lv_iconst (v := 0) hx hb dX4_register_26 (by decide) ?_
      exact q_iretP hx hb hr hlocks dX4_register_27 hP hS (by rw [f_G_register, if_neg c1, if_pos c2])
    · have ok := ok.2 c2
      refine lv_aload_n hx hb dX4_register_14 rfl (lv_at hl 0 rfl) ?_
      refine va_get (D := D) (ci := 4) (v := .ref (ad 1)) (C := RX4) (T := TX4) (N := 3) hx hb hts inX4 hown hK hP 0 (mq_G isO_0) rfl 0 (by decide) (hts _ k_101) (fun _ h9 => h9) rfl dX4_register_15 ?_
      refine lv_iload_n hx hb dX4_register_18 rfl (lv_at hl 1 rfl) ?_
      have g3 := ok.1
      have ok := ok.2
      refine q_ldM hx hb hK hP g3 dX4_register_19 ?_
      refine va_get (D := D) (ci := 0) (v := .int (I (Mb x1) 0)) (C := RX0) (T := TX0) (N := 8) hx hb hts inX0 hown hK hP (Mb x1) (mq_M (isM_O (isM_in g3))) rfl 4 (by decide) (hts _ k_87) (fun _ h9 => h9) rfl dX4_register_20 ?_
      refine lv_if_ne (tgt := 28) hx hb dX4_register_23 (by decide) (fun c4 => ?_) (fun c4 => ?_)
      · have ok := ok.2 c4
        refine lv_aload_n hx hb dX4_register_28 rfl (lv_at hl 0 rfl) ?_
        refine va_get (D := D) (ci := 4) (v := .ref (ad 1)) (C := RX4) (T := TX4) (N := 3) hx hb hts inX4 hown hK hP 0 (mq_G isO_0) rfl 0 (by decide) (hts _ k_101) (fun _ h9 => h9) rfl dX4_register_29 ?_
        refine lv_iload_n hx hb dX4_register_32 rfl (lv_at hl 1 rfl) ?_
        refine q_ldM hx hb hK hP g3 dX4_register_33 ?_
        refine va_get (D := D) (ci := 0) (v := .ref (ad ((Mb x1) + 5))) (C := RX0) (T := TX0) (N := 8) hx hb hts inX0 hown hK hP (Mb x1) (mq_M (isM_O (isM_in g3))) rfl 1 (by decide) (hts _ k_81) (fun _ h9 => h9) rfl dX4_register_34 ?_
        refine va_get (D := D) (ci := 3) (v := .ref (ad (((Mb x1) + 5) + 1))) (C := RX3) (T := TX3) (N := 6) hx hb hts inX3 hown hK hP ((Mb x1) + 5) (mq_S (isM_C (isM_in g3)).1) rfl 0 (by decide) (hts _ k_45) (fun _ h9 => h9) rfl dX4_register_37 ?_
        refine lv_iload_n hx hb dX4_register_40 rfl (lv_at hl 2 rfl) ?_
        have g5 := ok
        refine va_iald hx hb hK hP (((Mb x1) + 5) + 1) 0 (mq_A (isM_C (isM_in g3)).2.1) rfl g5 dX4_register_41 ?_
        exact q_iretP hx hb hr hlocks dX4_register_42 hP hS (by rw [f_G_register, if_neg c1, if_neg c2, if_neg c4])
      · have ok := ok.1 c4
        refine lv_iconst (v := 0) hx hb dX4_register_26 (by decide) ?_
        exact q_iretP hx hb hr hlocks dX4_register_27 hP hS (by rw [f_G_register, if_neg c1, if_neg c2, if_pos c4])
def f_G_state (I : Mm) (x1 x2 : Int32) : Int32 := (if (f_G_isProcess x1) = 0 then (-1) else (if x2 < 0 then (-1) else (if x2 ≤ 3 then (if (I (Mb x1) 0) = 0 then (-2) else (if x2 = 0 then (I ((Mb x1) + 5) 0) else (if x2 = 1 then (I ((Mb x1) + 5) 1) else (if x2 = 2 then (I ((Mb x1) + 5) 2) else (I ((Mb x1) + 5) 3))))) else (-1))))
def ok_G_state  (x1 x2 : Int32) : Prop := ((f_G_isProcess x1) = 0 → True) ∧ (¬ (f_G_isProcess x1) = 0 → (x2 < 0 → True) ∧ (¬ x2 < 0 → (x2 ≤ 3 → vp_in x1 3) ∧ (¬ x2 ≤ 3 → True)))
set_option maxHeartbeats 4000000 in
set_option maxRecDepth 100000 in
theorem c_G_state (l : Launch) (D : va_G) (cs : Nat → ClassId) (ad : Nat → Nat) (hi : mi ad) (I : Mm) (x1 x2 : Int32) (ok : ok_G_state x1 x2) : MC l yX4_state wX4_state { frames := 1, cells := 0, slots := 0, locals := 20 } D cs ad [.ref (ad 0), .int x1, .int x2] I (some (.int (f_G_state I x1 x2))) I := by
  unfold ok_G_state at ok
  refine q_enter (cc := cX4_state) (maxL := 4) (ret := (some .int)) (by decide +kernel) rfl (Nat.le_of_ble_eq_true rfl) ?_
  intro p e s m below meth c ls hx hb hr hml hown hts hlocks hK hP hS hl
  have hown : s.vm.findClass RX4 = some m.cls := hown
  have hts : ∀ w ∈ gtbl, w.before _ s = true := fun w h => hts w (List.mem_cons_of_mem _ h)
  have hl : lv_has ls 4 [(0, .ref (ad 0)), (1, .int x1), (2, .int x2)] := hl
  refine lv_iload_n hx hb dX4_state_0 rfl (lv_at hl 1 rfl) ?_
  refine q_callp (va_runS (As := [.int x1]) (rest := []) ⟨hx, hb, hml, hown, hts⟩ (c_G_isProcess l D cs ad hi I x1) (va_cwS 1 hts (gS k_111 k_112 k_1 k_113) rfl rfl rfl (by decide +kernel) ⟨Nat.le_of_ble_eq_true rfl, Nat.le_of_ble_eq_true rfl⟩) (q_preS hK hP) rfl rfl hl.1 rfl (lv_room (Nat.le_of_ble_eq_true rfl)) dX4_state_1 ⟨Nat.zero_le _, Nat.zero_le _⟩) hS (fun _ h => h) (fun H locs hP hS => ?_)
  refine lv_if_eq (tgt := 16) hx hb dX4_state_4 (by decide) (fun c1 => ?_) (fun c1 => ?_)
  · have ok := ok.1 c1
    refine lv_iconst (v := (-1)) hx hb dX4_state_16 (by decide) ?_
    exact q_iretP hx hb hr hlocks dX4_state_17 hP hS (by rw [f_G_state, if_pos c1])
  · have ok := ok.2 c1
    refine lv_iload_n hx hb dX4_state_7 rfl (lv_at hl 2 rfl) ?_
    refine lv_if_lt (tgt := 16) hx hb dX4_state_8 (by decide) (fun c2 => ?_) (fun c2 => ?_)
    · have ok := ok.1 c2
      refine lv_iconst (v := (-1)) hx hb dX4_state_16 (by decide) ?_
      exact q_iretP hx hb hr hlocks dX4_state_17 hP hS (by rw [f_G_state, if_neg c1, if_pos c2])
    · have ok := ok.2 c2
      refine lv_iload_n hx hb dX4_state_11 rfl (lv_at hl 2 rfl) ?_
      refine lv_iconst (v := 3) hx hb dX4_state_12 (by decide) ?_
      refine lv_icmp_le (tgt := 18) hx hb dX4_state_13 (by decide) (fun c3 => ?_) (fun c3 => ?_)
      · have ok := ok.1 c3
        refine lv_aload_n hx hb dX4_state_18 rfl (lv_at hl 0 rfl) ?_
        refine va_get (D := D) (ci := 4) (v := .ref (ad 1)) (C := RX4) (T := TX4) (N := 3) hx hb hts inX4 hown hK hP 0 (mq_G isO_0) rfl 0 (by decide) (hts _ k_101) (fun _ h9 => h9) rfl dX4_state_19 ?_
        refine lv_iload_n hx hb dX4_state_22 rfl (lv_at hl 1 rfl) ?_
        have g4 := ok
        refine q_ldM hx hb hK hP g4 dX4_state_23 ?_
        refine va_get (D := D) (ci := 0) (v := .int (I (Mb x1) 0)) (C := RX0) (T := TX0) (N := 8) hx hb hts inX0 hown hK hP (Mb x1) (mq_M (isM_O (isM_in g4))) rfl 4 (by decide) (hts _ k_87) (fun _ h9 => h9) rfl dX4_state_24 ?_
        refine lv_if_ne (tgt := 33) hx hb dX4_state_27 (by decide) (fun c5 => ?_) (fun c5 => ?_)
        · have c5 := c5
          refine lv_aload_n hx hb dX4_state_33 rfl (lv_at hl 0 rfl) ?_
          refine va_get (D := D) (ci := 4) (v := .ref (ad 1)) (C := RX4) (T := TX4) (N := 3) hx hb hts inX4 hown hK hP 0 (mq_G isO_0) rfl 0 (by decide) (hts _ k_101) (fun _ h9 => h9) rfl dX4_state_34 ?_
          refine lv_iload_n hx hb dX4_state_37 rfl (lv_at hl 1 rfl) ?_
          refine q_ldM hx hb hK hP g4 dX4_state_38 ?_
          refine va_get (D := D) (ci := 0) (v := .ref (ad ((Mb x1) + 5))) (C := RX0) (T := TX0) (N := 8) hx hb hts inX0 hown hK hP (Mb x1) (mq_M (isM_O (isM_in g4))) rfl 1 (by decide) (hts _ k_81) (fun _ h9 => h9) rfl dX4_state_39 ?_
          refine lv_astore_n (lv' := [(3, .ref (ad ((Mb x1) + 5))), (0, .ref (ad 0)), (1, .int x1), (2, .int x2)]) hx hb dX4_state_42 rfl hl (by decide) rfl (fun ls hl => ?_)
          refine lv_iload_n hx hb dX4_state_43 rfl (lv_at hl 3 rfl) ?_
          by_cases c6 : x2 = 0
          · have c6 := c6
            refine lv_tableIn (tgt := 72) (off := 28) hx hb dX4_state_44 (by rw [c6]; decide) (by rw [c6]; decide) (by rw [c6]; rfl) (by decide) ?_
            refine lv_aload_n hx hb dX4_state_72 rfl (lv_at hl 0 rfl) ?_
            refine va_get (D := D) (ci := 3) (v := .int (I ((Mb x1) + 5) 0)) (C := RX3) (T := TX3) (N := 6) hx hb hts inX3 hown hK hP ((Mb x1) + 5) (mq_S (isM_C (isM_in g4)).1) rfl 2 (by decide) (hts _ k_49) (fun _ h9 => h9) rfl dX4_state_73 ?_
            exact q_iretP hx hb hr hlocks dX4_state_76 hP hS (by rw [f_G_state, if_neg c1, if_neg c2, if_pos c3, if_neg c5, if_pos c6])
          · have c6 := c6
            by_cases c7 : x2 = 1
            · have c7 := c7
              refine lv_tableIn (tgt := 77) (off := 33) hx hb dX4_state_44 (by rw [c7]; decide) (by rw [c7]; decide) (by rw [c7]; rfl) (by decide) ?_
              refine lv_aload_n hx hb dX4_state_77 rfl (lv_at hl 0 rfl) ?_
              refine va_get (D := D) (ci := 3) (v := .int (I ((Mb x1) + 5) 1)) (C := RX3) (T := TX3) (N := 6) hx hb hts inX3 hown hK hP ((Mb x1) + 5) (mq_S (isM_C (isM_in g4)).1) rfl 3 (by decide) (hts _ k_51) (fun _ h9 => h9) rfl dX4_state_78 ?_
              exact q_iretP hx hb hr hlocks dX4_state_81 hP hS (by rw [f_G_state, if_neg c1, if_neg c2, if_pos c3, if_neg c5, if_neg c6, if_pos c7])
            · have c7 := c7
              by_cases c8 : x2 = 2
              · have c8 := c8
                refine lv_tableIn (tgt := 82) (off := 38) hx hb dX4_state_44 (by rw [c8]; decide) (by rw [c8]; decide) (by rw [c8]; rfl) (by decide) ?_
                refine lv_aload_n hx hb dX4_state_82 rfl (lv_at hl 0 rfl) ?_
                refine va_get (D := D) (ci := 3) (v := .int (I ((Mb x1) + 5) 2)) (C := RX3) (T := TX3) (N := 6) hx hb hts inX3 hown hK hP ((Mb x1) + 5) (mq_S (isM_C (isM_in g4)).1) rfl 4 (by decide) (hts _ k_53) (fun _ h9 => h9) rfl dX4_state_83 ?_
                exact q_iretP hx hb hr hlocks dX4_state_86 hP hS (by rw [f_G_state, if_neg c1, if_neg c2, if_pos c3, if_neg c5, if_neg c6, if_neg c7, if_pos c8])
              · have c8 := c8
                refine lv_tableOut (tgt := 87) hx hb dX4_state_44 (tb_out0_2 c6 c7 c8) (by decide) ?_
                refine lv_aload_n hx hb dX4_state_87 rfl (lv_at hl 0 rfl) ?_
                refine va_get (D := D) (ci := 3) (v := .int (I ((Mb x1) + 5) 3)) (C := RX3) (T := TX3) (N := 6) hx hb hts inX3 hown hK hP ((Mb x1) + 5) (mq_S (isM_C (isM_in g4)).1) rfl 5 (by decide) (hts _ k_55) (fun _ h9 => h9) rfl dX4_state_88 ?_
                exact q_iretP hx hb hr hlocks dX4_state_91 hP hS (by rw [f_G_state, if_neg c1, if_neg c2, if_pos c3, if_neg c5, if_neg c6, if_neg c7, if_neg c8])
        · have c5 := c5
          refine lv_bipush (v := (-2)) hx hb dX4_state_30 (by decide) ?_
          exact q_iretP hx hb hr hlocks dX4_state_32 hP hS (by rw [f_G_state, if_neg c1, if_neg c2, if_pos c3, if_pos c5])
      · have ok := ok.2 c3
        refine lv_iconst (v := (-1)) hx hb dX4_state_16 (by decide) ?_
        exact q_iretP hx hb hr hlocks dX4_state_17 hP hS (by rw [f_G_state, if_neg c1, if_neg c2, if_neg c3])
def f_G_sent (I : Mm) (x1 x2 : Int32) : Int32 := (if (f_G_isChannel x1 x2) = 0 then (-1) else (if (I (Mb x1) 0) = 0 then (-2) else (I (((Mb x1) + 5) + 2) x2.toNatClampNeg)))
def ok_G_sent (I : Mm) (x1 x2 : Int32) : Prop := ((f_G_isChannel x1 x2) = 0 → True) ∧ (¬ (f_G_isChannel x1 x2) = 0 → vp_in x1 3 ∧ (((I (Mb x1) 0) = 0 → True) ∧ (¬ (I (Mb x1) 0) = 0 → vp_in x2 3)))
set_option maxHeartbeats 4000000 in
set_option maxRecDepth 100000 in
theorem c_G_sent (l : Launch) (D : va_G) (cs : Nat → ClassId) (ad : Nat → Nat) (hi : mi ad) (I : Mm) (x1 x2 : Int32) (ok : ok_G_sent I x1 x2) : MC l yX4_sent wX4_sent { frames := 2, cells := 0, slots := 0, locals := 41 } D cs ad [.ref (ad 0), .int x1, .int x2] I (some (.int (f_G_sent I x1 x2))) I := by
  unfold ok_G_sent at ok
  refine q_enter (cc := cX4_sent) (maxL := 3) (ret := (some .int)) (by decide +kernel) rfl (Nat.le_of_ble_eq_true rfl) ?_
  intro p e s m below meth c ls hx hb hr hml hown hts hlocks hK hP hS hl
  have hown : s.vm.findClass RX4 = some m.cls := hown
  have hts : ∀ w ∈ gtbl, w.before _ s = true := fun w h => hts w (List.mem_cons_of_mem _ h)
  have hl : lv_has ls 3 [(0, .ref (ad 0)), (1, .int x1), (2, .int x2)] := hl
  refine lv_iload_n hx hb dX4_sent_0 rfl (lv_at hl 1 rfl) ?_
  refine lv_iload_n hx hb dX4_sent_1 rfl (lv_at hl 2 rfl) ?_
  refine q_callp (va_runS (As := [.int x1, .int x2]) (rest := []) ⟨hx, hb, hml, hown, hts⟩ (c_G_isChannel l D cs ad hi I x1 x2) (va_cwS 2 hts (gS k_120 k_121 k_1 k_122) rfl rfl rfl (by decide +kernel) ⟨Nat.le_of_ble_eq_true rfl, Nat.le_of_ble_eq_true rfl⟩) (q_preS hK hP) rfl rfl hl.1 rfl (lv_room (Nat.le_of_ble_eq_true rfl)) dX4_sent_2 ⟨Nat.zero_le _, Nat.zero_le _⟩) hS (fun _ h => h) (fun H locs hP hS => ?_)
  refine lv_if_ne (tgt := 10) hx hb dX4_sent_5 (by decide) (fun c1 => ?_) (fun c1 => ?_)
  · have ok := ok.2 c1
    refine lv_aload_n hx hb dX4_sent_10 rfl (lv_at hl 0 rfl) ?_
    refine va_get (D := D) (ci := 4) (v := .ref (ad 1)) (C := RX4) (T := TX4) (N := 3) hx hb hts inX4 hown hK hP 0 (mq_G isO_0) rfl 0 (by decide) (hts _ k_101) (fun _ h9 => h9) rfl dX4_sent_11 ?_
    refine lv_iload_n hx hb dX4_sent_14 rfl (lv_at hl 1 rfl) ?_
    have g2 := ok.1
    have ok := ok.2
    refine q_ldM hx hb hK hP g2 dX4_sent_15 ?_
    refine va_get (D := D) (ci := 0) (v := .int (I (Mb x1) 0)) (C := RX0) (T := TX0) (N := 8) hx hb hts inX0 hown hK hP (Mb x1) (mq_M (isM_O (isM_in g2))) rfl 4 (by decide) (hts _ k_87) (fun _ h9 => h9) rfl dX4_sent_16 ?_
    refine lv_if_ne (tgt := 25) hx hb dX4_sent_19 (by decide) (fun c3 => ?_) (fun c3 => ?_)
    · have ok := ok.2 c3
      refine lv_aload_n hx hb dX4_sent_25 rfl (lv_at hl 0 rfl) ?_
      refine va_get (D := D) (ci := 4) (v := .ref (ad 1)) (C := RX4) (T := TX4) (N := 3) hx hb hts inX4 hown hK hP 0 (mq_G isO_0) rfl 0 (by decide) (hts _ k_101) (fun _ h9 => h9) rfl dX4_sent_26 ?_
      refine lv_iload_n hx hb dX4_sent_29 rfl (lv_at hl 1 rfl) ?_
      refine q_ldM hx hb hK hP g2 dX4_sent_30 ?_
      refine va_get (D := D) (ci := 0) (v := .ref (ad ((Mb x1) + 5))) (C := RX0) (T := TX0) (N := 8) hx hb hts inX0 hown hK hP (Mb x1) (mq_M (isM_O (isM_in g2))) rfl 1 (by decide) (hts _ k_81) (fun _ h9 => h9) rfl dX4_sent_31 ?_
      refine va_get (D := D) (ci := 3) (v := .ref (ad (((Mb x1) + 5) + 2))) (C := RX3) (T := TX3) (N := 6) hx hb hts inX3 hown hK hP ((Mb x1) + 5) (mq_S (isM_C (isM_in g2)).1) rfl 1 (by decide) (hts _ k_47) (fun _ h9 => h9) rfl dX4_sent_34 ?_
      refine lv_iload_n hx hb dX4_sent_37 rfl (lv_at hl 2 rfl) ?_
      have g4 := ok
      refine va_iald hx hb hK hP (((Mb x1) + 5) + 2) 0 (mq_A (isM_C (isM_in g2)).2.2) rfl g4 dX4_sent_38 ?_
      exact q_iretP hx hb hr hlocks dX4_sent_39 hP hS (by rw [f_G_sent, if_neg c1, if_neg c3])
    · have ok := ok.1 c3
      refine lv_bipush (v := (-2)) hx hb dX4_sent_22 (by decide) ?_
      exact q_iretP hx hb hr hlocks dX4_sent_24 hP hS (by rw [f_G_sent, if_neg c1, if_pos c3])
  · have ok := ok.1 c1
    refine lv_iconst (v := (-1)) hx hb dX4_sent_8 (by decide) ?_
    exact q_iretP hx hb hr hlocks dX4_sent_9 hP hS (by rw [f_G_sent, if_pos c1])
def f_G_kept (I : Mm) (x1 : Int32) : Int32 := (if (f_G_isProcess x1) = 0 then (-1) else (f_R_count I ((Mb x1) + 11) 20))
def ok_G_kept  (x1 : Int32) : Prop := ((f_G_isProcess x1) = 0 → True) ∧ (¬ (f_G_isProcess x1) = 0 → vp_in x1 3)
set_option maxHeartbeats 4000000 in
set_option maxRecDepth 100000 in
theorem c_G_kept (l : Launch) (D : va_G) (cs : Nat → ClassId) (ad : Nat → Nat) (hi : mi ad) (I : Mm) (x1 : Int32) (ok : ok_G_kept x1) : MC l yX4_kept wX4_kept { frames := 1, cells := 0, slots := 0, locals := 20 } D cs ad [.ref (ad 0), .int x1] I (some (.int (f_G_kept I x1))) I := by
  unfold ok_G_kept at ok
  refine q_enter (cc := cX4_kept) (maxL := 2) (ret := (some .int)) (by decide +kernel) rfl (Nat.le_of_ble_eq_true rfl) ?_
  intro p e s m below meth c ls hx hb hr hml hown hts hlocks hK hP hS hl
  have hown : s.vm.findClass RX4 = some m.cls := hown
  have hts : ∀ w ∈ gtbl, w.before _ s = true := fun w h => hts w (List.mem_cons_of_mem _ h)
  have hl : lv_has ls 2 [(0, .ref (ad 0)), (1, .int x1)] := hl
  refine lv_iload_n hx hb dX4_kept_0 rfl (lv_at hl 1 rfl) ?_
  refine q_callp (va_runS (As := [.int x1]) (rest := []) ⟨hx, hb, hml, hown, hts⟩ (c_G_isProcess l D cs ad hi I x1) (va_cwS 1 hts (gS k_111 k_112 k_1 k_113) rfl rfl rfl (by decide +kernel) ⟨Nat.le_of_ble_eq_true rfl, Nat.le_of_ble_eq_true rfl⟩) (q_preS hK hP) rfl rfl hl.1 rfl (lv_room (Nat.le_of_ble_eq_true rfl)) dX4_kept_1 ⟨Nat.zero_le _, Nat.zero_le _⟩) hS (fun _ h => h) (fun H locs hP hS => ?_)
  refine lv_if_ne (tgt := 9) hx hb dX4_kept_4 (by decide) (fun c1 => ?_) (fun c1 => ?_)
  · have ok := ok.2 c1
    refine lv_aload_n hx hb dX4_kept_9 rfl (lv_at hl 0 rfl) ?_
    refine va_get (D := D) (ci := 4) (v := .ref (ad 1)) (C := RX4) (T := TX4) (N := 3) hx hb hts inX4 hown hK hP 0 (mq_G isO_0) rfl 0 (by decide) (hts _ k_101) (fun _ h9 => h9) rfl dX4_kept_10 ?_
    refine lv_iload_n hx hb dX4_kept_13 rfl (lv_at hl 1 rfl) ?_
    have g2 := ok
    refine q_ldM hx hb hK hP g2 dX4_kept_14 ?_
    refine va_get (D := D) (ci := 0) (v := .ref (ad ((Mb x1) + 11))) (C := RX0) (T := TX0) (N := 8) hx hb hts inX0 hown hK hP (Mb x1) (mq_M (isM_O (isM_in g2))) rfl 3 (by decide) (hts _ k_85) (fun _ h9 => h9) rfl dX4_kept_15 ?_
    refine q_callp (va_runV (As := []) (rest := []) ⟨hx, hb, hml, hown, hts⟩ (c_R_count l D cs ad hi (isM_L (isM_in g2)) I) (cwV 0 hts (gV k_160 k_140 k_141 k_5 k_142) rfl rfl rfl (by decide +kernel) ⟨Nat.le_of_ble_eq_true rfl, Nat.le_of_ble_eq_true rfl⟩) (q_preV hK hP (va_recv hK hP (ci := 1) (q0 := ((Mb x1) + 11)) rfl (mq_R (isM_L (isM_in g2)).1))) rfl rfl hl.1 rfl (lv_room (Nat.le_of_ble_eq_true rfl)) dX4_kept_18 ⟨Nat.zero_le _, Nat.zero_le _⟩) hS (fun _ h => h) (fun H locs hP hS => ?_)
    exact q_iretP hx hb hr hlocks dX4_kept_21 hP hS (by rw [f_G_kept, if_neg c1])
  · have ok := ok.1 c1
    refine lv_iconst (v := (-1)) hx hb dX4_kept_7 (by decide) ?_
    exact q_iretP hx hb hr hlocks dX4_kept_8 hP hS (by rw [f_G_kept, if_pos c1])
def f_G_source (I : Mm) (x1 x2 : Int32) : Int32 := (if (f_G_isProcess x1) = 0 then (-1) else (if (f_R_has I ((Mb x1) + 11) 20 x2) = 0 then (-3) else (f_R_originAt I ((Mb x1) + 11) 20 x2)))
def ok_G_source (I : Mm) (x1 x2 : Int32) : Prop := ((f_G_isProcess x1) = 0 → True) ∧ (¬ (f_G_isProcess x1) = 0 → vp_in x1 3 ∧ (((f_R_has I ((Mb x1) + 11) 20 x2) = 0 → True) ∧ (¬ (f_R_has I ((Mb x1) + 11) 20 x2) = 0 → ok_R_originAt ((Mb x1) + 11) 20 x2)))
set_option maxHeartbeats 4000000 in
set_option maxRecDepth 100000 in
theorem c_G_source (l : Launch) (D : va_G) (cs : Nat → ClassId) (ad : Nat → Nat) (hi : mi ad) (I : Mm) (x1 x2 : Int32) (ok : ok_G_source I x1 x2) : MC l yX4_source wX4_source { frames := 3, cells := 0, slots := 0, locals := 64 } D cs ad [.ref (ad 0), .int x1, .int x2] I (some (.int (f_G_source I x1 x2))) I := by
  unfold ok_G_source at ok
  refine q_enter (cc := cX4_source) (maxL := 4) (ret := (some .int)) (by decide +kernel) rfl (Nat.le_of_ble_eq_true rfl) ?_
  intro p e s m below meth c ls hx hb hr hml hown hts hlocks hK hP hS hl
  have hown : s.vm.findClass RX4 = some m.cls := hown
  have hts : ∀ w ∈ gtbl, w.before _ s = true := fun w h => hts w (List.mem_cons_of_mem _ h)
  have hl : lv_has ls 4 [(0, .ref (ad 0)), (1, .int x1), (2, .int x2)] := hl
  refine lv_iload_n hx hb dX4_source_0 rfl (lv_at hl 1 rfl) ?_
  refine q_callp (va_runS (As := [.int x1]) (rest := []) ⟨hx, hb, hml, hown, hts⟩ (c_G_isProcess l D cs ad hi I x1) (va_cwS 1 hts (gS k_111 k_112 k_1 k_113) rfl rfl rfl (by decide +kernel) ⟨Nat.le_of_ble_eq_true rfl, Nat.le_of_ble_eq_true rfl⟩) (q_preS hK hP) rfl rfl hl.1 rfl (lv_room (Nat.le_of_ble_eq_true rfl)) dX4_source_1 ⟨Nat.zero_le _, Nat.zero_le _⟩) hS (fun _ h => h) (fun H locs hP hS => ?_)
  refine lv_if_ne (tgt := 9) hx hb dX4_source_4 (by decide) (fun c1 => ?_) (fun c1 => ?_)
  · have ok := ok.2 c1
    refine lv_aload_n hx hb dX4_source_9 rfl (lv_at hl 0 rfl) ?_
    refine va_get (D := D) (ci := 4) (v := .ref (ad 1)) (C := RX4) (T := TX4) (N := 3) hx hb hts inX4 hown hK hP 0 (mq_G isO_0) rfl 0 (by decide) (hts _ k_101) (fun _ h9 => h9) rfl dX4_source_10 ?_
    refine lv_iload_n hx hb dX4_source_13 rfl (lv_at hl 1 rfl) ?_
    have g2 := ok.1
    have ok := ok.2
    refine q_ldM hx hb hK hP g2 dX4_source_14 ?_
    refine va_get (D := D) (ci := 0) (v := .ref (ad ((Mb x1) + 11))) (C := RX0) (T := TX0) (N := 8) hx hb hts inX0 hown hK hP (Mb x1) (mq_M (isM_O (isM_in g2))) rfl 3 (by decide) (hts _ k_85) (fun _ h9 => h9) rfl dX4_source_15 ?_
    refine lv_astore_n (lv' := [(3, .ref (ad ((Mb x1) + 11))), (0, .ref (ad 0)), (1, .int x1), (2, .int x2)]) hx hb dX4_source_18 rfl hl (by decide) rfl (fun ls hl => ?_)
    refine lv_aload_n hx hb dX4_source_19 rfl (lv_at hl 0 rfl) ?_
    refine lv_iload_n hx hb dX4_source_20 rfl (lv_at hl 3 rfl) ?_
    refine q_callp (va_runV (As := [.int x2]) (rest := []) ⟨hx, hb, hml, hown, hts⟩ (c_R_has l D cs ad hi (isM_L (isM_in g2)) I x2) (cwV 1 hts (gV k_192 k_193 k_194 k_5 k_195) rfl rfl rfl (by decide +kernel) ⟨Nat.le_of_ble_eq_true rfl, Nat.le_of_ble_eq_true rfl⟩) (q_preV hK hP (va_recv hK hP (ci := 1) (q0 := ((Mb x1) + 11)) rfl (mq_R (isM_L (isM_in g2)).1))) rfl rfl hl.1 rfl (lv_room (Nat.le_of_ble_eq_true rfl)) dX4_source_21 ⟨Nat.zero_le _, Nat.zero_le _⟩) hS (fun _ h => h) (fun H locs hP hS => ?_)
    refine lv_if_ne (tgt := 30) hx hb dX4_source_24 (by decide) (fun c3 => ?_) (fun c3 => ?_)
    · have ok := ok.2 c3
      refine lv_aload_n hx hb dX4_source_30 rfl (lv_at hl 0 rfl) ?_
      refine lv_iload_n hx hb dX4_source_31 rfl (lv_at hl 3 rfl) ?_
      have g4 := ok
      refine q_callp (va_runV (As := [.int x2]) (rest := []) ⟨hx, hb, hml, hown, hts⟩ (c_R_originAt l D cs ad hi (isM_L (isM_in g2)) I x2 g4) (cwV 1 hts (gV k_196 k_197 k_198 k_5 k_199) rfl rfl rfl (by decide +kernel) ⟨Nat.le_of_ble_eq_true rfl, Nat.le_of_ble_eq_true rfl⟩) (q_preV hK hP (va_recv hK hP (ci := 1) (q0 := ((Mb x1) + 11)) rfl (mq_R (isM_L (isM_in g2)).1))) rfl rfl hl.1 rfl (lv_room (Nat.le_of_ble_eq_true rfl)) dX4_source_32 ⟨Nat.zero_le _, Nat.zero_le _⟩) hS (fun _ h => h) (fun H locs hP hS => ?_)
      exact q_iretP hx hb hr hlocks dX4_source_35 hP hS (by rw [f_G_source, if_neg c1, if_neg c3])
    · have ok := ok.1 c3
      refine lv_bipush (v := (-3)) hx hb dX4_source_27 (by decide) ?_
      exact q_iretP hx hb hr hlocks dX4_source_29 hP hS (by rw [f_G_source, if_neg c1, if_pos c3])
  · have ok := ok.1 c1
    refine lv_iconst (v := (-1)) hx hb dX4_source_7 (by decide) ?_
    exact q_iretP hx hb hr hlocks dX4_source_8 hP hS (by rw [f_G_source, if_pos c1])
def f_G_waiting (I : Mm) (x1 x2 : Int32) : Int32 := (if (f_G_isChannel x1 x2) = 0 then (-1) else (f_R_count I (Cb ((x1 * 3) + x2)) 8))
def ok_G_waiting  (x1 x2 : Int32) : Prop := ((f_G_isChannel x1 x2) = 0 → True) ∧ (¬ (f_G_isChannel x1 x2) = 0 → ok_G_channelBetween x1 x2)
set_option maxHeartbeats 4000000 in
set_option maxRecDepth 100000 in
theorem c_G_waiting (l : Launch) (D : va_G) (cs : Nat → ClassId) (ad : Nat → Nat) (hi : mi ad) (I : Mm) (x1 x2 : Int32) (ok : ok_G_waiting x1 x2) : MC l yX4_waiting wX4_waiting { frames := 2, cells := 0, slots := 0, locals := 41 } D cs ad [.ref (ad 0), .int x1, .int x2] I (some (.int (f_G_waiting I x1 x2))) I := by
  unfold ok_G_waiting at ok
  refine q_enter (cc := cX4_waiting) (maxL := 3) (ret := (some .int)) (by decide +kernel) rfl (Nat.le_of_ble_eq_true rfl) ?_
  intro p e s m below meth c ls hx hb hr hml hown hts hlocks hK hP hS hl
  have hown : s.vm.findClass RX4 = some m.cls := hown
  have hts : ∀ w ∈ gtbl, w.before _ s = true := fun w h => hts w (List.mem_cons_of_mem _ h)
  have hl : lv_has ls 3 [(0, .ref (ad 0)), (1, .int x1), (2, .int x2)] := hl
  refine lv_iload_n hx hb dX4_waiting_0 rfl (lv_at hl 1 rfl) ?_
  refine lv_iload_n hx hb dX4_waiting_1 rfl (lv_at hl 2 rfl) ?_
  refine q_callp (va_runS (As := [.int x1, .int x2]) (rest := []) ⟨hx, hb, hml, hown, hts⟩ (c_G_isChannel l D cs ad hi I x1 x2) (va_cwS 2 hts (gS k_120 k_121 k_1 k_122) rfl rfl rfl (by decide +kernel) ⟨Nat.le_of_ble_eq_true rfl, Nat.le_of_ble_eq_true rfl⟩) (q_preS hK hP) rfl rfl hl.1 rfl (lv_room (Nat.le_of_ble_eq_true rfl)) dX4_waiting_2 ⟨Nat.zero_le _, Nat.zero_le _⟩) hS (fun _ h => h) (fun H locs hP hS => ?_)
  refine lv_if_ne (tgt := 10) hx hb dX4_waiting_5 (by decide) (fun c1 => ?_) (fun c1 => ?_)
  · have ok := ok.2 c1
    refine lv_aload_n hx hb dX4_waiting_10 rfl (lv_at hl 0 rfl) ?_
    refine lv_iload_n hx hb dX4_waiting_11 rfl (lv_at hl 1 rfl) ?_
    refine lv_iload_n hx hb dX4_waiting_12 rfl (lv_at hl 2 rfl) ?_
    have g2 := ok
    refine q_callr (va_runV (As := [.int x1, .int x2]) (rest := []) ⟨hx, hb, hml, hown, hts⟩ (c_G_channelBetween l D cs ad hi I x1 x2 g2) (cwV 2 hts (gV k_157 k_158 k_431 k_1 k_159) rfl rfl rfl (by decide +kernel) ⟨Nat.le_of_ble_eq_true rfl, Nat.le_of_ble_eq_true rfl⟩) (q_preV hK hP (va_recv hK hP (ci := 4) (q0 := 0) rfl (mq_G isO_0))) rfl rfl hl.1 rfl (lv_room (Nat.le_of_ble_eq_true rfl)) dX4_waiting_13 ⟨Nat.zero_le _, Nat.zero_le _⟩) hS (fun _ h => h) (fun H locs hP hS => ?_)
    refine q_callp (va_runV (As := []) (rest := []) ⟨hx, hb, hml, hown, hts⟩ (c_R_count l D cs ad hi (isR_in g2) I) (cwV 0 hts (gV k_160 k_140 k_141 k_5 k_142) rfl rfl rfl (by decide +kernel) ⟨Nat.le_of_ble_eq_true rfl, Nat.le_of_ble_eq_true rfl⟩) (q_preV hK hP (va_recv hK hP (ci := 1) (q0 := (Cb ((x1 * 3) + x2))) rfl (mq_R (isR_in g2).1))) rfl rfl hl.1 rfl (lv_room (Nat.le_of_ble_eq_true rfl)) dX4_waiting_16 ⟨Nat.zero_le _, Nat.zero_le _⟩) hS (fun _ h => h) (fun H locs hP hS => ?_)
    exact q_iretP hx hb hr hlocks dX4_waiting_19 hP hS (by rw [f_G_waiting, if_neg c1])
  · have ok := ok.1 c1
    refine lv_iconst (v := (-1)) hx hb dX4_waiting_8 (by decide) ?_
    exact q_iretP hx hb hr hlocks dX4_waiting_9 hP hS (by rw [f_G_waiting, if_pos c1])
def f_G_held (I : Mm) (x1 : Int32) : Int32 := (if (f_G_isProcess x1) = 0 then (-1) else (I (Mb x1) 3))
def ok_G_held  (x1 : Int32) : Prop := ((f_G_isProcess x1) = 0 → True) ∧ (¬ (f_G_isProcess x1) = 0 → vp_in x1 3)
set_option maxHeartbeats 4000000 in
set_option maxRecDepth 100000 in
theorem c_G_held (l : Launch) (D : va_G) (cs : Nat → ClassId) (ad : Nat → Nat) (hi : mi ad) (I : Mm) (x1 : Int32) (ok : ok_G_held x1) : MC l yX4_held wX4_held { frames := 1, cells := 0, slots := 0, locals := 20 } D cs ad [.ref (ad 0), .int x1] I (some (.int (f_G_held I x1))) I := by
  unfold ok_G_held at ok
  refine q_enter (cc := cX4_held) (maxL := 2) (ret := (some .int)) (by decide +kernel) rfl (Nat.le_of_ble_eq_true rfl) ?_
  intro p e s m below meth c ls hx hb hr hml hown hts hlocks hK hP hS hl
  have hown : s.vm.findClass RX4 = some m.cls := hown
  have hts : ∀ w ∈ gtbl, w.before _ s = true := fun w h => hts w (List.mem_cons_of_mem _ h)
  have hl : lv_has ls 2 [(0, .ref (ad 0)), (1, .int x1)] := hl
  refine lv_iload_n hx hb dX4_held_0 rfl (lv_at hl 1 rfl) ?_
  refine q_callp (va_runS (As := [.int x1]) (rest := []) ⟨hx, hb, hml, hown, hts⟩ (c_G_isProcess l D cs ad hi I x1) (va_cwS 1 hts (gS k_111 k_112 k_1 k_113) rfl rfl rfl (by decide +kernel) ⟨Nat.le_of_ble_eq_true rfl, Nat.le_of_ble_eq_true rfl⟩) (q_preS hK hP) rfl rfl hl.1 rfl (lv_room (Nat.le_of_ble_eq_true rfl)) dX4_held_1 ⟨Nat.zero_le _, Nat.zero_le _⟩) hS (fun _ h => h) (fun H locs hP hS => ?_)
  refine lv_if_ne (tgt := 9) hx hb dX4_held_4 (by decide) (fun c1 => ?_) (fun c1 => ?_)
  · have ok := ok.2 c1
    refine lv_aload_n hx hb dX4_held_9 rfl (lv_at hl 0 rfl) ?_
    refine va_get (D := D) (ci := 4) (v := .ref (ad 1)) (C := RX4) (T := TX4) (N := 3) hx hb hts inX4 hown hK hP 0 (mq_G isO_0) rfl 0 (by decide) (hts _ k_101) (fun _ h9 => h9) rfl dX4_held_10 ?_
    refine lv_iload_n hx hb dX4_held_13 rfl (lv_at hl 1 rfl) ?_
    have g2 := ok
    refine q_ldM hx hb hK hP g2 dX4_held_14 ?_
    refine va_get (D := D) (ci := 0) (v := .int (I (Mb x1) 3)) (C := RX0) (T := TX0) (N := 8) hx hb hts inX0 hown hK hP (Mb x1) (mq_M (isM_O (isM_in g2))) rfl 7 (by decide) (hts _ k_90) (fun _ h9 => h9) rfl dX4_held_15 ?_
    exact q_iretP hx hb hr hlocks dX4_held_18 hP hS (by rw [f_G_held, if_neg c1])
  · have ok := ok.1 c1
    refine lv_iconst (v := (-1)) hx hb dX4_held_7 (by decide) ?_
    exact q_iretP hx hb hr hlocks dX4_held_8 hP hS (by rw [f_G_held, if_pos c1])
def f_G_outputs (I : Mm) : Int32 := (f_R_count I 72 60)
set_option maxHeartbeats 4000000 in
set_option maxRecDepth 100000 in
theorem c_G_outputs (l : Launch) (D : va_G) (cs : Nat → ClassId) (ad : Nat → Nat) (hi : mi ad) (I : Mm) : MC l yX4_outputs wX4_outputs { frames := 1, cells := 0, slots := 0, locals := 20 } D cs ad [.ref (ad 0)] I (some (.int (f_G_outputs I))) I := by
  refine q_enter (cc := cX4_outputs) (maxL := 1) (ret := (some .int)) (by decide +kernel) rfl (Nat.le_of_ble_eq_true rfl) ?_
  intro p e s m below meth c ls hx hb hr hml hown hts hlocks hK hP hS hl
  have hown : s.vm.findClass RX4 = some m.cls := hown
  have hts : ∀ w ∈ gtbl, w.before _ s = true := fun w h => hts w (List.mem_cons_of_mem _ h)
  have hl : lv_has ls 1 [(0, .ref (ad 0))] := hl
  refine lv_aload_n hx hb dX4_outputs_0 rfl (lv_at hl 0 rfl) ?_
  refine va_get (D := D) (ci := 4) (v := .ref (ad 72)) (C := RX4) (T := TX4) (N := 3) hx hb hts inX4 hown hK hP 0 (mq_G isO_0) rfl 2 (by decide) (hts _ k_103) (fun _ h9 => h9) rfl dX4_outputs_1 ?_
  refine q_callp (va_runV (As := []) (rest := []) ⟨hx, hb, hml, hown, hts⟩ (c_R_count l D cs ad hi isR_72 I) (cwV 0 hts (gV k_160 k_140 k_141 k_5 k_142) rfl rfl rfl (by decide +kernel) ⟨Nat.le_of_ble_eq_true rfl, Nat.le_of_ble_eq_true rfl⟩) (q_preV hK hP (va_recv hK hP (ci := 1) (q0 := 72) rfl (mq_R isR_72.1))) rfl rfl hl.1 rfl (lv_room (Nat.le_of_ble_eq_true rfl)) dX4_outputs_4 ⟨Nat.zero_le _, Nat.zero_le _⟩) hS (fun _ h => h) (fun H locs hP hS => ?_)
  exact q_iretP hx hb hr hlocks dX4_outputs_7 hP hS rfl
def f_G_author (I : Mm) (x1 : Int32) : Int32 := (if (f_R_has I 72 60 (f_G_outputNumber x1)) = 0 then (-1) else (f_R_originAt I 72 60 (f_G_outputNumber x1)))
def ok_G_author (I : Mm) (x1 : Int32) : Prop := ((f_R_has I 72 60 (f_G_outputNumber x1)) = 0 → True) ∧ (¬ (f_R_has I 72 60 (f_G_outputNumber x1)) = 0 → ok_R_originAt 72 60 (f_G_outputNumber x1))
set_option maxHeartbeats 4000000 in
set_option maxRecDepth 100000 in
theorem c_G_author (l : Launch) (D : va_G) (cs : Nat → ClassId) (ad : Nat → Nat) (hi : mi ad) (I : Mm) (x1 : Int32) (ok : ok_G_author I x1) : MC l yX4_author wX4_author { frames := 3, cells := 0, slots := 0, locals := 64 } D cs ad [.ref (ad 0), .int x1] I (some (.int (f_G_author I x1))) I := by
  unfold ok_G_author at ok
  refine q_enter (cc := cX4_author) (maxL := 3) (ret := (some .int)) (by decide +kernel) rfl (Nat.le_of_ble_eq_true rfl) ?_
  intro p e s m below meth c ls hx hb hr hml hown hts hlocks hK hP hS hl
  have hown : s.vm.findClass RX4 = some m.cls := hown
  have hts : ∀ w ∈ gtbl, w.before _ s = true := fun w h => hts w (List.mem_cons_of_mem _ h)
  have hl : lv_has ls 3 [(0, .ref (ad 0)), (1, .int x1)] := hl
  refine lv_iload_n hx hb dX4_author_0 rfl (lv_at hl 1 rfl) ?_
  refine q_callp (va_runS (As := [.int x1]) (rest := []) ⟨hx, hb, hml, hown, hts⟩ (c_G_outputNumber l D cs ad hi I x1) (va_cwS 1 hts (gS k_262 k_263 k_1 k_264) rfl rfl rfl (by decide +kernel) ⟨Nat.le_of_ble_eq_true rfl, Nat.le_of_ble_eq_true rfl⟩) (q_preS hK hP) rfl rfl hl.1 rfl (lv_room (Nat.le_of_ble_eq_true rfl)) dX4_author_1 ⟨Nat.zero_le _, Nat.zero_le _⟩) hS (fun _ h => h) (fun H locs hP hS => ?_)
  refine lv_istore_n (lv' := [(2, .int (f_G_outputNumber x1)), (0, .ref (ad 0)), (1, .int x1)]) hx hb dX4_author_4 rfl hl (by decide) rfl (fun ls hl => ?_)
  refine lv_aload_n hx hb dX4_author_5 rfl (lv_at hl 1 rfl) ?_
  refine va_get (D := D) (ci := 4) (v := .ref (ad 72)) (C := RX4) (T := TX4) (N := 3) hx hb hts inX4 hown hK hP 0 (mq_G isO_0) rfl 2 (by decide) (hts _ k_103) (fun _ h9 => h9) rfl dX4_author_6 ?_
  refine lv_iload_n hx hb dX4_author_9 rfl (lv_at hl 0 rfl) ?_
  refine q_callp (va_runV (As := [.int (f_G_outputNumber x1)]) (rest := []) ⟨hx, hb, hml, hown, hts⟩ (c_R_has l D cs ad hi isR_72 I (f_G_outputNumber x1)) (cwV 1 hts (gV k_192 k_193 k_194 k_5 k_195) rfl rfl rfl (by decide +kernel) ⟨Nat.le_of_ble_eq_true rfl, Nat.le_of_ble_eq_true rfl⟩) (q_preV hK hP (va_recv hK hP (ci := 1) (q0 := 72) rfl (mq_R isR_72.1))) rfl rfl hl.1 rfl (lv_room (Nat.le_of_ble_eq_true rfl)) dX4_author_10 ⟨Nat.zero_le _, Nat.zero_le _⟩) hS (fun _ h => h) (fun H locs hP hS => ?_)
  refine lv_if_ne (tgt := 18) hx hb dX4_author_13 (by decide) (fun c1 => ?_) (fun c1 => ?_)
  · have ok := ok.2 c1
    refine lv_aload_n hx hb dX4_author_18 rfl (lv_at hl 1 rfl) ?_
    refine va_get (D := D) (ci := 4) (v := .ref (ad 72)) (C := RX4) (T := TX4) (N := 3) hx hb hts inX4 hown hK hP 0 (mq_G isO_0) rfl 2 (by decide) (hts _ k_103) (fun _ h9 => h9) rfl dX4_author_19 ?_
    refine lv_iload_n hx hb dX4_author_22 rfl (lv_at hl 0 rfl) ?_
    have g2 := ok
    refine q_callp (va_runV (As := [.int (f_G_outputNumber x1)]) (rest := []) ⟨hx, hb, hml, hown, hts⟩ (c_R_originAt l D cs ad hi isR_72 I (f_G_outputNumber x1) g2) (cwV 1 hts (gV k_196 k_197 k_198 k_5 k_199) rfl rfl rfl (by decide +kernel) ⟨Nat.le_of_ble_eq_true rfl, Nat.le_of_ble_eq_true rfl⟩) (q_preV hK hP (va_recv hK hP (ci := 1) (q0 := 72) rfl (mq_R isR_72.1))) rfl rfl hl.1 rfl (lv_room (Nat.le_of_ble_eq_true rfl)) dX4_author_23 ⟨Nat.zero_le _, Nat.zero_le _⟩) hS (fun _ h => h) (fun H locs hP hS => ?_)
    exact q_iretP hx hb hr hlocks dX4_author_26 hP hS (by rw [f_G_author, if_neg c1])
  · have ok := ok.1 c1
    refine lv_iconst (v := (-1)) hx hb dX4_author_16 (by decide) ?_
    exact q_iretP hx hb hr hlocks dX4_author_17 hP hS (by rw [f_G_author, if_pos c1])
def f_G_output (I : Mm) (x1 : Int32) : Int32 := (if (f_R_has I 72 60 (f_G_outputNumber x1)) = 0 then 0 else (f_R_valueAt I 72 60 (f_G_outputNumber x1)))
def ok_G_output (I : Mm) (x1 : Int32) : Prop := ((f_R_has I 72 60 (f_G_outputNumber x1)) = 0 → True) ∧ (¬ (f_R_has I 72 60 (f_G_outputNumber x1)) = 0 → ok_R_valueAt 72 60 (f_G_outputNumber x1))
set_option maxHeartbeats 4000000 in
set_option maxRecDepth 100000 in
theorem c_G_output (l : Launch) (D : va_G) (cs : Nat → ClassId) (ad : Nat → Nat) (hi : mi ad) (I : Mm) (x1 : Int32) (ok : ok_G_output I x1) : MC l yX4_output wX4_output { frames := 3, cells := 0, slots := 0, locals := 64 } D cs ad [.ref (ad 0), .int x1] I (some (.int (f_G_output I x1))) I := by
  unfold ok_G_output at ok
  refine q_enter (cc := cX4_output) (maxL := 3) (ret := (some .int)) (by decide +kernel) rfl (Nat.le_of_ble_eq_true rfl) ?_
  intro p e s m below meth c ls hx hb hr hml hown hts hlocks hK hP hS hl
  have hown : s.vm.findClass RX4 = some m.cls := hown
  have hts : ∀ w ∈ gtbl, w.before _ s = true := fun w h => hts w (List.mem_cons_of_mem _ h)
  have hl : lv_has ls 3 [(0, .ref (ad 0)), (1, .int x1)] := hl
  refine lv_iload_n hx hb dX4_output_0 rfl (lv_at hl 1 rfl) ?_
  refine q_callp (va_runS (As := [.int x1]) (rest := []) ⟨hx, hb, hml, hown, hts⟩ (c_G_outputNumber l D cs ad hi I x1) (va_cwS 1 hts (gS k_262 k_263 k_1 k_264) rfl rfl rfl (by decide +kernel) ⟨Nat.le_of_ble_eq_true rfl, Nat.le_of_ble_eq_true rfl⟩) (q_preS hK hP) rfl rfl hl.1 rfl (lv_room (Nat.le_of_ble_eq_true rfl)) dX4_output_1 ⟨Nat.zero_le _, Nat.zero_le _⟩) hS (fun _ h => h) (fun H locs hP hS => ?_)
  refine lv_istore_n (lv' := [(2, .int (f_G_outputNumber x1)), (0, .ref (ad 0)), (1, .int x1)]) hx hb dX4_output_4 rfl hl (by decide) rfl (fun ls hl => ?_)
  refine lv_aload_n hx hb dX4_output_5 rfl (lv_at hl 1 rfl) ?_
  refine va_get (D := D) (ci := 4) (v := .ref (ad 72)) (C := RX4) (T := TX4) (N := 3) hx hb hts inX4 hown hK hP 0 (mq_G isO_0) rfl 2 (by decide) (hts _ k_103) (fun _ h9 => h9) rfl dX4_output_6 ?_
  refine lv_iload_n hx hb dX4_output_9 rfl (lv_at hl 0 rfl) ?_
  refine q_callp (va_runV (As := [.int (f_G_outputNumber x1)]) (rest := []) ⟨hx, hb, hml, hown, hts⟩ (c_R_has l D cs ad hi isR_72 I (f_G_outputNumber x1)) (cwV 1 hts (gV k_192 k_193 k_194 k_5 k_195) rfl rfl rfl (by decide +kernel) ⟨Nat.le_of_ble_eq_true rfl, Nat.le_of_ble_eq_true rfl⟩) (q_preV hK hP (va_recv hK hP (ci := 1) (q0 := 72) rfl (mq_R isR_72.1))) rfl rfl hl.1 rfl (lv_room (Nat.le_of_ble_eq_true rfl)) dX4_output_10 ⟨Nat.zero_le _, Nat.zero_le _⟩) hS (fun _ h => h) (fun H locs hP hS => ?_)
  refine lv_if_ne (tgt := 18) hx hb dX4_output_13 (by decide) (fun c1 => ?_) (fun c1 => ?_)
  · have ok := ok.2 c1
    refine lv_aload_n hx hb dX4_output_18 rfl (lv_at hl 1 rfl) ?_
    refine va_get (D := D) (ci := 4) (v := .ref (ad 72)) (C := RX4) (T := TX4) (N := 3) hx hb hts inX4 hown hK hP 0 (mq_G isO_0) rfl 2 (by decide) (hts _ k_103) (fun _ h9 => h9) rfl dX4_output_19 ?_
    refine lv_iload_n hx hb dX4_output_22 rfl (lv_at hl 0 rfl) ?_
    have g2 := ok
    refine q_callp (va_runV (As := [.int (f_G_outputNumber x1)]) (rest := []) ⟨hx, hb, hml, hown, hts⟩ (c_R_valueAt l D cs ad hi isR_72 I (f_G_outputNumber x1) g2) (cwV 1 hts (gV k_161 k_162 k_163 k_5 k_164) rfl rfl rfl (by decide +kernel) ⟨Nat.le_of_ble_eq_true rfl, Nat.le_of_ble_eq_true rfl⟩) (q_preV hK hP (va_recv hK hP (ci := 1) (q0 := 72) rfl (mq_R isR_72.1))) rfl rfl hl.1 rfl (lv_room (Nat.le_of_ble_eq_true rfl)) dX4_output_23 ⟨Nat.zero_le _, Nat.zero_le _⟩) hS (fun _ h => h) (fun H locs hP hS => ?_)
    exact q_iretP hx hb hr hlocks dX4_output_26 hP hS (by rw [f_G_output, if_neg c1])
  · have ok := ok.1 c1
    refine lv_iconst (v := 0) hx hb dX4_output_16 (by decide) ?_
    exact q_iretP hx hb hr hlocks dX4_output_17 hP hS (by rw [f_G_output, if_pos c1])
end
section
def l_G_run : Nat → Mm → Int32 → Int32 → Int32 → Int32 × Mm
  | 0, J, _, _, _ => (0, J)
  | n + 1, J, x1, x2, x3 => (if x2 ≤ x3 then (x2, J) else (if ((f_G_doNext J x1).1) = 1 then (l_G_run n ((f_G_doNext J x1).2) x1 x2 (x3 + 1)) else (x3, (f_G_doNext J x1).2)))
def okl_G_run : Nat → Mm → Int32 → Int32 → Int32 → Prop
  | 0, _, _, _, _ => False
  | n + 1, J, x1, x2, x3 => (x2 ≤ x3 → True) ∧ (¬ x2 ≤ x3 → ok_G_doNext J x1 ∧ ((((f_G_doNext J x1).1) = 1 → okl_G_run n ((f_G_doNext J x1).2) x1 x2 (x3 + 1)) ∧ (¬ ((f_G_doNext J x1).1) = 1 → True)))
set_option maxHeartbeats 4000000 in
set_option maxRecDepth 100000 in
theorem w_G_run (l : Launch) (D : va_G) (cs : Nat → ClassId) (ad : Nat → Nat) (hi : mi ad) {p : Program} {e : Env} {s : State} {m : MethodId} {args : Array Value} {below : List Frame} {meth : Method} {c : Code} (x1 x2 : Int32) (hx : p.tables.exec = Jvm.exec) (hb : c.code = cX4_run) (hml : c.maxLocals = 4) (hown : s.vm.findClass RX4 = some m.cls) (hts : ∀ w ∈ gtbl, w.before args s = true) (hK : va_K D vwCl (tyl cs) s) (hr : meth.sig.returnType = some .int) (hlocks : meth.locks = false) : ∀ (n : Nat) (J : Mm) (x3 : Int32) (H : Heap) (locs : List Loc) (ls : Array Slot), okl_G_run n J x1 x2 x3 → va_P D vwCl (mw 97 ad (gs cs ad J)) H → va_S (mA ad) s.heap H locs → lv_has ls 4 [(3, .int x3), (0, .ref (ad 0)), (1, .int x1), (2, .int x2)] → W p l e { frames := 6, cells := 0, slots := 0, locals := 143 } s m args below meth c H locs 0 0 (MQ below (mQ D cs ad (some (.int (l_G_run n J x1 x2 x3).1)) (l_G_run n J x1 x2 x3).2) args s 0 0 (mA ad)) (F0 m 37 ls []) := by
  intro n
  induction n with
  | zero =>
    intro J x3 H locs ls ok hP hS hl
    exact absurd ok id
  | succ n ih =>
    intro J x3 H locs ls ok hP hS hl
    rw [okl_G_run] at ok
    refine lv_iload_n hx hb dX4_run_37 rfl (lv_at hl 0 rfl) ?_
    refine lv_iload_n hx hb dX4_run_38 rfl (lv_at hl 3 rfl) ?_
    refine lv_icmp_ge (tgt := 59) hx hb dX4_run_39 (by decide) (fun c1 => ?_) (fun c1 => ?_)
    · have ok := ok.1 c1
      refine lv_iload_n hx hb dX4_run_59 rfl (lv_at hl 3 rfl) ?_
      exact q_iret hx hb hr hlocks dX4_run_60 hP hS (by rw [l_G_run, if_pos c1])
    · have ok := ok.2 c1
      refine lv_aload_n hx hb dX4_run_42 rfl (lv_at hl 1 rfl) ?_
      refine lv_iload_n hx hb dX4_run_43 rfl (lv_at hl 2 rfl) ?_
      have g2 := ok.1
      have ok := ok.2
      refine q_calli (va_runV (As := [.int x1]) (rest := []) ⟨hx, hb, hml, hown, hts⟩ (c_G_doNext l D cs ad hi J x1 g2) (cwV 1 hts (gV k_173 k_174 k_432 k_1 k_175) rfl rfl rfl (by decide +kernel) ⟨Nat.le_of_ble_eq_true rfl, Nat.le_of_ble_eq_true rfl⟩) (q_preV hK hP (va_recv hK hP (ci := 4) (q0 := 0) rfl (mq_G isO_0))) rfl rfl hl.1 rfl (lv_room (Nat.le_of_ble_eq_true rfl)) dX4_run_44 ⟨Nat.zero_le _, Nat.zero_le _⟩) hS (fun _ h => h) (fun H locs hP hS => ?_)
      refine lv_iconst (v := 1) hx hb dX4_run_47 (by decide) ?_
      refine lv_icmp_eq (tgt := 53) hx hb dX4_run_48 (by decide) (fun c3 => ?_) (fun c3 => ?_)
      · have ok := ok.1 c3
        refine lv_iinc (v := x3 + 1) (lv' := [(3, .int (x3 + 1)), (0, .ref (ad 0)), (1, .int x1), (2, .int x2)]) hx hb dX4_run_53 hl (k := 0) rfl rfl (by decide) rfl (fun ls hl => ?_)
        refine lv_goto (tgt := 37) hx hb dX4_run_56 (by decide) ?_
        have e9 : l_G_run (n + 1) J x1 x2 x3 = l_G_run n ((f_G_doNext J x1).2) x1 x2 (x3 + 1) := (by rw [l_G_run, if_neg c1, if_pos c3])
        rw [e9]
        exact ih ((f_G_doNext J x1).2) (x3 + 1) _ _ _ ok hP hS (lv_sub hl [0, 1, 2, 3] rfl)
      · have ok := ok.2 c3
        refine lv_iload_n hx hb dX4_run_51 rfl (lv_at hl 0 rfl) ?_
        exact q_iret hx hb hr hlocks dX4_run_52 hP hS (by rw [l_G_run, if_neg c1, if_neg c3])
def f_G_run (I : Mm) (x1 x2 : Int32) : Int32 × Mm := (if (f_G_isProcess x1) = 0 then ((-1), I) else (if x2 < 1 then ((-1), I) else (if x2 ≤ 100 then (if (I (Mb x1) 0) = 0 then ((-2), I) else (l_G_run 101 I x1 x2 0)) else ((-1), I))))
def ok_G_run (I : Mm) (x1 x2 : Int32) : Prop := ((f_G_isProcess x1) = 0 → True) ∧ (¬ (f_G_isProcess x1) = 0 → (x2 < 1 → True) ∧ (¬ x2 < 1 → (x2 ≤ 100 → vp_in x1 3 ∧ (((I (Mb x1) 0) = 0 → True) ∧ (¬ (I (Mb x1) 0) = 0 → okl_G_run 101 I x1 x2 0))) ∧ (¬ x2 ≤ 100 → True)))
set_option maxHeartbeats 4000000 in
set_option maxRecDepth 100000 in
theorem c_G_run (l : Launch) (D : va_G) (cs : Nat → ClassId) (ad : Nat → Nat) (hi : mi ad) (I : Mm) (x1 x2 : Int32) (ok : ok_G_run I x1 x2) : MC l yX4_run wX4_run { frames := 6, cells := 0, slots := 0, locals := 143 } D cs ad [.ref (ad 0), .int x1, .int x2] I (some (.int (f_G_run I x1 x2).1)) (f_G_run I x1 x2).2 := by
  unfold ok_G_run at ok
  refine q_enter (cc := cX4_run) (maxL := 4) (ret := (some .int)) (by decide +kernel) rfl (Nat.le_of_ble_eq_true rfl) ?_
  intro p e s m below meth c ls hx hb hr hml hown hts hlocks hK hP hS hl
  have hown : s.vm.findClass RX4 = some m.cls := hown
  have hts : ∀ w ∈ gtbl, w.before _ s = true := fun w h => hts w (List.mem_cons_of_mem _ h)
  have hl : lv_has ls 4 [(0, .ref (ad 0)), (1, .int x1), (2, .int x2)] := hl
  refine lv_iload_n hx hb dX4_run_0 rfl (lv_at hl 1 rfl) ?_
  refine q_callp (va_runS (As := [.int x1]) (rest := []) ⟨hx, hb, hml, hown, hts⟩ (c_G_isProcess l D cs ad hi I x1) (va_cwS 1 hts (gS k_111 k_112 k_1 k_113) rfl rfl rfl (by decide +kernel) ⟨Nat.le_of_ble_eq_true rfl, Nat.le_of_ble_eq_true rfl⟩) (q_preS hK hP) rfl rfl hl.1 rfl (lv_room (Nat.le_of_ble_eq_true rfl)) dX4_run_1 ⟨Nat.zero_le _, Nat.zero_le _⟩) hS (fun _ h => h) (fun H locs hP hS => ?_)
  refine lv_if_eq (tgt := 18) hx hb dX4_run_4 (by decide) (fun c1 => ?_) (fun c1 => ?_)
  · have ok := ok.1 c1
    refine lv_iconst (v := (-1)) hx hb dX4_run_18 (by decide) ?_
    exact q_iret hx hb hr hlocks dX4_run_19 hP hS (by rw [f_G_run, if_pos c1])
  · have ok := ok.2 c1
    refine lv_iload_n hx hb dX4_run_7 rfl (lv_at hl 2 rfl) ?_
    refine lv_iconst (v := 1) hx hb dX4_run_8 (by decide) ?_
    refine lv_icmp_lt (tgt := 18) hx hb dX4_run_9 (by decide) (fun c2 => ?_) (fun c2 => ?_)
    · have ok := ok.1 c2
      refine lv_iconst (v := (-1)) hx hb dX4_run_18 (by decide) ?_
      exact q_iret hx hb hr hlocks dX4_run_19 hP hS (by rw [f_G_run, if_neg c1, if_pos c2])
    · have ok := ok.2 c2
      refine lv_iload_n hx hb dX4_run_12 rfl (lv_at hl 2 rfl) ?_
      refine lv_bipush (v := 100) hx hb dX4_run_13 (by decide) ?_
      refine lv_icmp_le (tgt := 20) hx hb dX4_run_15 (by decide) (fun c3 => ?_) (fun c3 => ?_)
      · have ok := ok.1 c3
        refine lv_aload_n hx hb dX4_run_20 rfl (lv_at hl 0 rfl) ?_
        refine va_get (D := D) (ci := 4) (v := .ref (ad 1)) (C := RX4) (T := TX4) (N := 3) hx hb hts inX4 hown hK hP 0 (mq_G isO_0) rfl 0 (by decide) (hts _ k_101) (fun _ h9 => h9) rfl dX4_run_21 ?_
        refine lv_iload_n hx hb dX4_run_24 rfl (lv_at hl 1 rfl) ?_
        have g4 := ok.1
        have ok := ok.2
        refine q_ldM hx hb hK hP g4 dX4_run_25 ?_
        refine va_get (D := D) (ci := 0) (v := .int (I (Mb x1) 0)) (C := RX0) (T := TX0) (N := 8) hx hb hts inX0 hown hK hP (Mb x1) (mq_M (isM_O (isM_in g4))) rfl 4 (by decide) (hts _ k_87) (fun _ h9 => h9) rfl dX4_run_26 ?_
        refine lv_if_ne (tgt := 35) hx hb dX4_run_29 (by decide) (fun c5 => ?_) (fun c5 => ?_)
        · have ok := ok.2 c5
          refine lv_iconst (v := 0) hx hb dX4_run_35 (by decide) ?_
          refine lv_istore_n (lv' := [(3, .int 0), (0, .ref (ad 0)), (1, .int x1), (2, .int x2)]) hx hb dX4_run_36 rfl hl (by decide) rfl (fun ls hl => ?_)
          have g6 := ok
          have e9 : f_G_run I x1 x2 = l_G_run 101 I x1 x2 0 := (by rw [f_G_run, if_neg c1, if_neg c2, if_pos c3, if_neg c5])
          rw [e9]
          exact w_G_run l D cs ad hi x1 x2 hx hb hml hown hts hK hr hlocks 101 I 0 _ _ _ g6 hP hS (lv_sub hl [0, 1, 2, 3] rfl)
        · have ok := ok.1 c5
          refine lv_bipush (v := (-2)) hx hb dX4_run_32 (by decide) ?_
          exact q_iret hx hb hr hlocks dX4_run_34 hP hS (by rw [f_G_run, if_neg c1, if_neg c2, if_pos c3, if_pos c5])
      · have ok := ok.2 c3
        refine lv_iconst (v := (-1)) hx hb dX4_run_18 (by decide) ?_
        exact q_iret hx hb hr hlocks dX4_run_19 hP hS (by rw [f_G_run, if_neg c1, if_neg c2, if_neg c3])
end
section
def f_X_isProcess  (x1 : Int32) : Int32 := (if x1 < 0 then 0 else (if 3 ≤ x1 then 0 else 1))
theorem z_X_isProcess  (x1 : Int32) : narrow .boolean (.int (f_X_isProcess x1)) = .int (f_X_isProcess x1) := by
  unfold f_X_isProcess
  (repeat' split) <;> first | (with_reducible exact nbp0) | (with_reducible exact nbp1)
set_option maxHeartbeats 4000000 in
set_option maxRecDepth 100000 in
theorem c_X_isProcess (l : Launch) (D : va_G) (cs : Nat → ClassId) (ad : Nat → Nat) (hi : mi ad) (I : Mm) (x1 : Int32) : MC l yX5_isProcess wX5_isProcess { frames := 0, cells := 0, slots := 0, locals := 0 } D cs ad [.int x1] I (some (.int (f_X_isProcess x1))) I := by
  refine q_enter (cc := cX5_isProcess) (maxL := 1) (ret := (some .boolean)) (by decide +kernel) rfl (Nat.le_of_ble_eq_true rfl) ?_
  intro p e s m below meth c ls hx hb hr hml hown hts hlocks hK hP hS hl
  have hown : s.vm.findClass RX5 = some m.cls := hown
  have hts : ∀ w ∈ gtbl, w.before _ s = true := fun w h => hts w (List.mem_cons_of_mem _ h)
  have hl : lv_has ls 1 [(0, .int x1)] := hl
  refine lv_iload_n hx hb dX5_isProcess_0 rfl (lv_at hl 0 rfl) ?_
  refine lv_if_lt (tgt := 13) hx hb dX5_isProcess_1 (by decide) (fun c1 => ?_) (fun c1 => ?_)
  · have c1 := c1
    refine lv_iconst (v := 0) hx hb dX5_isProcess_13 (by decide) ?_
    exact q_zretP hx hb hr hlocks dX5_isProcess_14 hP hS rfl (by rw [f_X_isProcess, if_pos c1])
  · have c1 := c1
    refine lv_iload_n hx hb dX5_isProcess_4 rfl (lv_at hl 0 rfl) ?_
    refine lv_iconst (v := 3) hx hb dX5_isProcess_5 (by decide) ?_
    refine lv_icmp_ge (tgt := 13) hx hb dX5_isProcess_6 (by decide) (fun c2 => ?_) (fun c2 => ?_)
    · have c2 := c2
      refine lv_iconst (v := 0) hx hb dX5_isProcess_13 (by decide) ?_
      exact q_zretP hx hb hr hlocks dX5_isProcess_14 hP hS rfl (by rw [f_X_isProcess, if_neg c1, if_pos c2])
    · have c2 := c2
      refine lv_iconst (v := 1) hx hb dX5_isProcess_9 (by decide) ?_
      refine lv_goto (tgt := 14) hx hb dX5_isProcess_10 (by decide) ?_
      exact q_zretP hx hb hr hlocks dX5_isProcess_14 hP hS rfl (by rw [f_X_isProcess, if_neg c1, if_neg c2])
def f_X_isChannel  (x1 x2 : Int32) : Int32 := (if (f_X_isProcess x1) = 0 then 0 else (if (f_X_isProcess x2) = 0 then 0 else (if x1 = x2 then 0 else 1)))
theorem z_X_isChannel  (x1 x2 : Int32) : narrow .boolean (.int (f_X_isChannel x1 x2)) = .int (f_X_isChannel x1 x2) := by
  unfold f_X_isChannel
  (repeat' split) <;> first | (with_reducible exact nbp0) | (with_reducible exact nbp1) | (with_reducible exact z_X_isProcess _)
set_option maxHeartbeats 4000000 in
set_option maxRecDepth 100000 in
theorem c_X_isChannel (l : Launch) (D : va_G) (cs : Nat → ClassId) (ad : Nat → Nat) (hi : mi ad) (I : Mm) (x1 x2 : Int32) : MC l yX5_isChannel wX5_isChannel { frames := 1, cells := 0, slots := 0, locals := 20 } D cs ad [.int x1, .int x2] I (some (.int (f_X_isChannel x1 x2))) I := by
  refine q_enter (cc := cX5_isChannel) (maxL := 2) (ret := (some .boolean)) (by decide +kernel) rfl (Nat.le_of_ble_eq_true rfl) ?_
  intro p e s m below meth c ls hx hb hr hml hown hts hlocks hK hP hS hl
  have hown : s.vm.findClass RX5 = some m.cls := hown
  have hts : ∀ w ∈ gtbl, w.before _ s = true := fun w h => hts w (List.mem_cons_of_mem _ h)
  have hl : lv_has ls 2 [(0, .int x1), (1, .int x2)] := hl
  refine lv_iload_n hx hb dX5_isChannel_0 rfl (lv_at hl 0 rfl) ?_
  refine q_callp (va_runS (As := [.int x1]) (rest := []) ⟨hx, hb, hml, hown, hts⟩ (c_X_isProcess l D cs ad hi I x1) (va_cwS 1 hts (gS k_332 k_333 k_6 k_334) rfl rfl rfl (by decide +kernel) ⟨Nat.le_of_ble_eq_true rfl, Nat.le_of_ble_eq_true rfl⟩) (q_preS hK hP) rfl rfl hl.1 rfl (lv_room (Nat.le_of_ble_eq_true rfl)) dX5_isChannel_1 ⟨Nat.zero_le _, Nat.zero_le _⟩) hS (fun _ h => h) (fun H locs hP hS => ?_)
  refine lv_if_eq (tgt := 23) hx hb dX5_isChannel_4 (by decide) (fun c1 => ?_) (fun c1 => ?_)
  · have c1 := c1
    refine lv_iconst (v := 0) hx hb dX5_isChannel_23 (by decide) ?_
    exact q_zretP hx hb hr hlocks dX5_isChannel_24 hP hS rfl (by rw [f_X_isChannel, if_pos c1])
  · have c1 := c1
    refine lv_iload_n hx hb dX5_isChannel_7 rfl (lv_at hl 1 rfl) ?_
    refine q_callp (va_runS (As := [.int x2]) (rest := []) ⟨hx, hb, hml, hown, hts⟩ (c_X_isProcess l D cs ad hi I x2) (va_cwS 1 hts (gS k_332 k_333 k_6 k_334) rfl rfl rfl (by decide +kernel) ⟨Nat.le_of_ble_eq_true rfl, Nat.le_of_ble_eq_true rfl⟩) (q_preS hK hP) rfl rfl hl.1 rfl (lv_room (Nat.le_of_ble_eq_true rfl)) dX5_isChannel_8 ⟨Nat.zero_le _, Nat.zero_le _⟩) hS (fun _ h => h) (fun H locs hP hS => ?_)
    refine lv_if_eq (tgt := 23) hx hb dX5_isChannel_11 (by decide) (fun c2 => ?_) (fun c2 => ?_)
    · have c2 := c2
      refine lv_iconst (v := 0) hx hb dX5_isChannel_23 (by decide) ?_
      exact q_zretP hx hb hr hlocks dX5_isChannel_24 hP hS rfl (by rw [f_X_isChannel, if_neg c1, if_pos c2])
    · have c2 := c2
      refine lv_iload_n hx hb dX5_isChannel_14 rfl (lv_at hl 0 rfl) ?_
      refine lv_iload_n hx hb dX5_isChannel_15 rfl (lv_at hl 1 rfl) ?_
      refine lv_icmp_eq (tgt := 23) hx hb dX5_isChannel_16 (by decide) (fun c3 => ?_) (fun c3 => ?_)
      · have c3 := c3
        refine lv_iconst (v := 0) hx hb dX5_isChannel_23 (by decide) ?_
        exact q_zretP hx hb hr hlocks dX5_isChannel_24 hP hS rfl (by rw [f_X_isChannel, if_neg c1, if_neg c2, if_pos c3])
      · have c3 := c3
        refine lv_iconst (v := 1) hx hb dX5_isChannel_19 (by decide) ?_
        refine lv_goto (tgt := 24) hx hb dX5_isChannel_20 (by decide) ?_
        exact q_zretP hx hb hr hlocks dX5_isChannel_24 hP hS rfl (by rw [f_X_isChannel, if_neg c1, if_neg c2, if_neg c3])
def f_X_isRegister  (x1 : Int32) : Int32 := (if x1 < 0 then 0 else (if 4 ≤ x1 then 0 else 1))
theorem z_X_isRegister  (x1 : Int32) : narrow .boolean (.int (f_X_isRegister x1)) = .int (f_X_isRegister x1) := by
  unfold f_X_isRegister
  (repeat' split) <;> first | (with_reducible exact nbp0) | (with_reducible exact nbp1)
set_option maxHeartbeats 4000000 in
set_option maxRecDepth 100000 in
theorem c_X_isRegister (l : Launch) (D : va_G) (cs : Nat → ClassId) (ad : Nat → Nat) (hi : mi ad) (I : Mm) (x1 : Int32) : MC l yX5_isRegister wX5_isRegister { frames := 0, cells := 0, slots := 0, locals := 0 } D cs ad [.int x1] I (some (.int (f_X_isRegister x1))) I := by
  refine q_enter (cc := cX5_isRegister) (maxL := 1) (ret := (some .boolean)) (by decide +kernel) rfl (Nat.le_of_ble_eq_true rfl) ?_
  intro p e s m below meth c ls hx hb hr hml hown hts hlocks hK hP hS hl
  have hown : s.vm.findClass RX5 = some m.cls := hown
  have hts : ∀ w ∈ gtbl, w.before _ s = true := fun w h => hts w (List.mem_cons_of_mem _ h)
  have hl : lv_has ls 1 [(0, .int x1)] := hl
  refine lv_iload_n hx hb dX5_isRegister_0 rfl (lv_at hl 0 rfl) ?_
  refine lv_if_lt (tgt := 13) hx hb dX5_isRegister_1 (by decide) (fun c1 => ?_) (fun c1 => ?_)
  · have c1 := c1
    refine lv_iconst (v := 0) hx hb dX5_isRegister_13 (by decide) ?_
    exact q_zretP hx hb hr hlocks dX5_isRegister_14 hP hS rfl (by rw [f_X_isRegister, if_pos c1])
  · have c1 := c1
    refine lv_iload_n hx hb dX5_isRegister_4 rfl (lv_at hl 0 rfl) ?_
    refine lv_iconst (v := 4) hx hb dX5_isRegister_5 (by decide) ?_
    refine lv_icmp_ge (tgt := 13) hx hb dX5_isRegister_6 (by decide) (fun c2 => ?_) (fun c2 => ?_)
    · have c2 := c2
      refine lv_iconst (v := 0) hx hb dX5_isRegister_13 (by decide) ?_
      exact q_zretP hx hb hr hlocks dX5_isRegister_14 hP hS rfl (by rw [f_X_isRegister, if_neg c1, if_pos c2])
    · have c2 := c2
      refine lv_iconst (v := 1) hx hb dX5_isRegister_9 (by decide) ?_
      refine lv_goto (tgt := 14) hx hb dX5_isRegister_10 (by decide) ?_
      exact q_zretP hx hb hr hlocks dX5_isRegister_14 hP hS rfl (by rw [f_X_isRegister, if_neg c1, if_neg c2])
def f_X_usesB  (x1 : Int32) : Int32 := (if x1 = 1 then 1 else (if x1 = 2 then 1 else (if x1 = 3 then 1 else (if x1 = 5 then 1 else (if x1 = 6 then 1 else 0)))))
theorem z_X_usesB  (x1 : Int32) : narrow .boolean (.int (f_X_usesB x1)) = .int (f_X_usesB x1) := by
  unfold f_X_usesB
  (repeat' split) <;> first | (with_reducible exact nbp0) | (with_reducible exact nbp1)
set_option maxHeartbeats 4000000 in
set_option maxRecDepth 100000 in
theorem c_X_usesB (l : Launch) (D : va_G) (cs : Nat → ClassId) (ad : Nat → Nat) (hi : mi ad) (I : Mm) (x1 : Int32) : MC l yX5_usesB wX5_usesB { frames := 0, cells := 0, slots := 0, locals := 0 } D cs ad [.int x1] I (some (.int (f_X_usesB x1))) I := by
  refine q_enter (cc := cX5_usesB) (maxL := 1) (ret := (some .boolean)) (by decide +kernel) rfl (Nat.le_of_ble_eq_true rfl) ?_
  intro p e s m below meth c ls hx hb hr hml hown hts hlocks hK hP hS hl
  have hown : s.vm.findClass RX5 = some m.cls := hown
  have hts : ∀ w ∈ gtbl, w.before _ s = true := fun w h => hts w (List.mem_cons_of_mem _ h)
  have hl : lv_has ls 1 [(0, .int x1)] := hl
  refine lv_iload_n hx hb dX5_usesB_0 rfl (lv_at hl 0 rfl) ?_
  refine lv_iconst (v := 1) hx hb dX5_usesB_1 (by decide) ?_
  refine lv_icmp_eq (tgt := 26) hx hb dX5_usesB_2 (by decide) (fun c1 => ?_) (fun c1 => ?_)
  · have c1 := c1
    refine lv_iconst (v := 1) hx hb dX5_usesB_26 (by decide) ?_
    refine lv_goto (tgt := 31) hx hb dX5_usesB_27 (by decide) ?_
    exact q_zretP hx hb hr hlocks dX5_usesB_31 hP hS rfl (by rw [f_X_usesB, if_pos c1])
  · have c1 := c1
    refine lv_iload_n hx hb dX5_usesB_5 rfl (lv_at hl 0 rfl) ?_
    refine lv_iconst (v := 2) hx hb dX5_usesB_6 (by decide) ?_
    refine lv_icmp_eq (tgt := 26) hx hb dX5_usesB_7 (by decide) (fun c2 => ?_) (fun c2 => ?_)
    · have c2 := c2
      refine lv_iconst (v := 1) hx hb dX5_usesB_26 (by decide) ?_
      refine lv_goto (tgt := 31) hx hb dX5_usesB_27 (by decide) ?_
      exact q_zretP hx hb hr hlocks dX5_usesB_31 hP hS rfl (by rw [f_X_usesB, if_neg c1, if_pos c2])
    · have c2 := c2
      refine lv_iload_n hx hb dX5_usesB_10 rfl (lv_at hl 0 rfl) ?_
      refine lv_iconst (v := 3) hx hb dX5_usesB_11 (by decide) ?_
      refine lv_icmp_eq (tgt := 26) hx hb dX5_usesB_12 (by decide) (fun c3 => ?_) (fun c3 => ?_)
      · have c3 := c3
        refine lv_iconst (v := 1) hx hb dX5_usesB_26 (by decide) ?_
        refine lv_goto (tgt := 31) hx hb dX5_usesB_27 (by decide) ?_
        exact q_zretP hx hb hr hlocks dX5_usesB_31 hP hS rfl (by rw [f_X_usesB, if_neg c1, if_neg c2, if_pos c3])
      · have c3 := c3
        refine lv_iload_n hx hb dX5_usesB_15 rfl (lv_at hl 0 rfl) ?_
        refine lv_iconst (v := 5) hx hb dX5_usesB_16 (by decide) ?_
        refine lv_icmp_eq (tgt := 26) hx hb dX5_usesB_17 (by decide) (fun c4 => ?_) (fun c4 => ?_)
        · have c4 := c4
          refine lv_iconst (v := 1) hx hb dX5_usesB_26 (by decide) ?_
          refine lv_goto (tgt := 31) hx hb dX5_usesB_27 (by decide) ?_
          exact q_zretP hx hb hr hlocks dX5_usesB_31 hP hS rfl (by rw [f_X_usesB, if_neg c1, if_neg c2, if_neg c3, if_pos c4])
        · have c4 := c4
          refine lv_iload_n hx hb dX5_usesB_20 rfl (lv_at hl 0 rfl) ?_
          refine lv_bipush (v := 6) hx hb dX5_usesB_21 (by decide) ?_
          refine lv_icmp_ne (tgt := 30) hx hb dX5_usesB_23 (by decide) (fun c5 => ?_) (fun c5 => ?_)
          · have c5 := c5
            refine lv_iconst (v := 0) hx hb dX5_usesB_30 (by decide) ?_
            exact q_zretP hx hb hr hlocks dX5_usesB_31 hP hS rfl (by rw [f_X_usesB, if_neg c1, if_neg c2, if_neg c3, if_neg c4, if_neg c5])
          · have c5 := c5
            refine lv_iconst (v := 1) hx hb dX5_usesB_26 (by decide) ?_
            refine lv_goto (tgt := 31) hx hb dX5_usesB_27 (by decide) ?_
            exact q_zretP hx hb hr hlocks dX5_usesB_31 hP hS rfl (by rw [f_X_usesB, if_neg c1, if_neg c2, if_neg c3, if_neg c4, if_pos c5])
end
section
def m_X_code_1 (I : Mm) (x1 x2 x3 x4 : Int32) : Mm := u2 I 77 (((16 * x1) + (I 76 x1.toNatClampNeg)).toNatClampNeg) x2
def m_X_code_2 (I : Mm) (x1 x2 x3 x4 : Int32) : Mm := u2 (m_X_code_1 I x1 x2 x3 x4) 78 (((16 * x1) + (I 76 x1.toNatClampNeg)).toNatClampNeg) x3
def m_X_code_3 (I : Mm) (x1 x2 x3 x4 : Int32) : Mm := u2 (m_X_code_2 I x1 x2 x3 x4) 79 (((16 * x1) + (I 76 x1.toNatClampNeg)).toNatClampNeg) x4
def m_X_code_4 (I : Mm) (x1 x2 x3 x4 : Int32) : Mm := u2 (m_X_code_3 I x1 x2 x3 x4) 76 x1.toNatClampNeg (((m_X_code_3 I x1 x2 x3 x4) 76 x1.toNatClampNeg) + 1)
def f_X_code (I : Mm) (x1 x2 x3 x4 : Int32) : Int32 × Mm := (if (f_X_isProcess x1) = 0 then (0, I) else (if (I 84 x1.toNatClampNeg) = 0 then (if (I 76 x1.toNatClampNeg) = 16 then (0, I) else (if x2 < 0 then (0, I) else (if x2 ≤ 7 then (if x2 = 4 then (if x3 < 0 then (0, I) else (if 15 < x3 then (0, I) else (if (f_X_usesB x2) = 0 then (1, (m_X_code_4 I x1 x2 x3 x4)) else (if (f_X_isRegister x4) = 0 then (0, I) else (1, (m_X_code_4 I x1 x2 x3 x4)))))) else (if x2 = 5 then (if (f_X_isChannel x1 x3) = 0 then (0, I) else (if (f_X_usesB x2) = 0 then (1, (m_X_code_4 I x1 x2 x3 x4)) else (if (f_X_isRegister x4) = 0 then (0, I) else (1, (m_X_code_4 I x1 x2 x3 x4))))) else (if (f_X_isRegister x3) = 0 then (0, I) else (if (f_X_usesB x2) = 0 then (1, (m_X_code_4 I x1 x2 x3 x4)) else (if (f_X_isRegister x4) = 0 then (0, I) else (1, (m_X_code_4 I x1 x2 x3 x4))))))) else (0, I)))) else (0, I)))
def ok_X_code (I : Mm) (x1 x2 x3 x4 : Int32) : Prop := ((f_X_isProcess x1) = 0 → True) ∧ (¬ (f_X_isProcess x1) = 0 → vp_in x1 3 ∧ (((I 84 x1.toNatClampNeg) = 0 → ((I 76 x1.toNatClampNeg) = 16 → True) ∧ (¬ (I 76 x1.toNatClampNeg) = 16 → (x2 < 0 → True) ∧ (¬ x2 < 0 → (x2 ≤ 7 → (x2 = 4 → (x3 < 0 → True) ∧ (¬ x3 < 0 → (15 < x3 → True) ∧ (¬ 15 < x3 → ((f_X_usesB x2) = 0 → vp_in ((16 * x1) + (I 76 x1.toNatClampNeg)) 48) ∧ (¬ (f_X_usesB x2) = 0 → ((f_X_isRegister x4) = 0 → True) ∧ (¬ (f_X_isRegister x4) = 0 → vp_in ((16 * x1) + (I 76 x1.toNatClampNeg)) 48))))) ∧ (¬ x2 = 4 → (x2 = 5 → ((f_X_isChannel x1 x3) = 0 → True) ∧ (¬ (f_X_isChannel x1 x3) = 0 → ((f_X_usesB x2) = 0 → vp_in ((16 * x1) + (I 76 x1.toNatClampNeg)) 48) ∧ (¬ (f_X_usesB x2) = 0 → ((f_X_isRegister x4) = 0 → True) ∧ (¬ (f_X_isRegister x4) = 0 → vp_in ((16 * x1) + (I 76 x1.toNatClampNeg)) 48)))) ∧ (¬ x2 = 5 → ((f_X_isRegister x3) = 0 → True) ∧ (¬ (f_X_isRegister x3) = 0 → ((f_X_usesB x2) = 0 → vp_in ((16 * x1) + (I 76 x1.toNatClampNeg)) 48) ∧ (¬ (f_X_usesB x2) = 0 → ((f_X_isRegister x4) = 0 → True) ∧ (¬ (f_X_isRegister x4) = 0 → vp_in ((16 * x1) + (I 76 x1.toNatClampNeg)) 48)))))) ∧ (¬ x2 ≤ 7 → True)))) ∧ (¬ (I 84 x1.toNatClampNeg) = 0 → True)))
theorem z_X_code (I : Mm) (x1 x2 x3 x4 : Int32) : narrow .boolean (.int (f_X_code I x1 x2 x3 x4).1) = .int (f_X_code I x1 x2 x3 x4).1 := by
  unfold f_X_code
  (repeat' split) <;> first | (with_reducible exact nb0 _) | (with_reducible exact nb1 _) | (with_reducible exact zz (z_X_isChannel _ _)) | (with_reducible exact zz (z_X_isProcess _)) | (with_reducible exact zz (z_X_isRegister _)) | (with_reducible exact zz (z_X_usesB _))
set_option maxHeartbeats 4000000 in
set_option maxRecDepth 100000 in
theorem c_X_code (l : Launch) (D : va_G) (cs : Nat → ClassId) (ad : Nat → Nat) (hi : mi ad) (I : Mm) (x1 x2 x3 x4 : Int32) (ok : ok_X_code I x1 x2 x3 x4) : MC l yX5_code wX5_code { frames := 2, cells := 0, slots := 0, locals := 41 } D cs ad [.ref (ad 75), .int x1, .int x2, .int x3, .int x4] I (some (.int (f_X_code I x1 x2 x3 x4).1)) (f_X_code I x1 x2 x3 x4).2 := by
  unfold ok_X_code at ok
  refine q_enter (cc := cX5_code) (maxL := 7) (ret := (some .boolean)) (by decide +kernel) rfl (Nat.le_of_ble_eq_true rfl) ?_
  intro p e s m below meth c ls hx hb hr hml hown hts hlocks hK hP hS hl
  have hown : s.vm.findClass RX5 = some m.cls := hown
  have hts : ∀ w ∈ gtbl, w.before _ s = true := fun w h => hts w (List.mem_cons_of_mem _ h)
  have hl : lv_has ls 7 [(0, .ref (ad 75)), (1, .int x1), (2, .int x2), (3, .int x3), (4, .int x4)] := hl
  refine lv_iload_n hx hb dX5_code_0 rfl (lv_at hl 1 rfl) ?_
  refine q_callp (va_runS (As := [.int x1]) (rest := []) ⟨hx, hb, hml, hown, hts⟩ (c_X_isProcess l D cs ad hi I x1) (va_cwS 1 hts (gS k_332 k_333 k_6 k_334) rfl rfl rfl (by decide +kernel) ⟨Nat.le_of_ble_eq_true rfl, Nat.le_of_ble_eq_true rfl⟩) (q_preS hK hP) rfl rfl hl.1 rfl (lv_room (Nat.le_of_ble_eq_true rfl)) dX5_code_1 ⟨Nat.zero_le _, Nat.zero_le _⟩) hS (fun _ h => h) (fun H locs hP hS => ?_)
  refine lv_if_eq (tgt := 37) hx hb dX5_code_4 (by decide) (fun c1 => ?_) (fun c1 => ?_)
  · have ok := ok.1 c1
    refine lv_iconst (v := 0) hx hb dX5_code_37 (by decide) ?_
    exact q_zret hx hb hr hlocks dX5_code_38 hP hS rfl (by rw [f_X_code, if_pos c1])
  · have ok := ok.2 c1
    refine lv_aload_n hx hb dX5_code_7 rfl (lv_at hl 0 rfl) ?_
    refine va_get (D := D) (ci := 5) (v := .ref (ad 84)) (C := RX5) (T := TX5) (N := 26) hx hb hts inX5 hown hK hP 75 (mq_X isO_75) rfl 8 (by decide) (hts _ k_283) (fun _ h9 => h9) rfl dX5_code_8 ?_
    refine lv_iload_n hx hb dX5_code_11 rfl (lv_at hl 1 rfl) ?_
    have g2 := ok.1
    have ok := ok.2
    refine va_zald hx hb hK hP 84 1 (mq_Z iZ_84) rfl g2 dX5_code_12 ?_
    refine lv_if_ne (tgt := 37) hx hb dX5_code_13 (by decide) (fun c3 => ?_) (fun c3 => ?_)
    · have ok := ok.2 c3
      refine lv_iconst (v := 0) hx hb dX5_code_37 (by decide) ?_
      exact q_zret hx hb hr hlocks dX5_code_38 hP hS rfl (by rw [f_X_code, if_neg c1, if_neg c3])
    · have ok := ok.1 c3
      refine lv_aload_n hx hb dX5_code_16 rfl (lv_at hl 0 rfl) ?_
      refine va_get (D := D) (ci := 5) (v := .ref (ad 76)) (C := RX5) (T := TX5) (N := 26) hx hb hts inX5 hown hK hP 75 (mq_X isO_75) rfl 0 (by decide) (hts _ k_275) (fun _ h9 => h9) rfl dX5_code_17 ?_
      refine lv_iload_n hx hb dX5_code_20 rfl (lv_at hl 1 rfl) ?_
      refine va_iald hx hb hK hP 76 0 (mq_A iA_76) rfl g2 dX5_code_21 ?_
      refine lv_bipush (v := 16) hx hb dX5_code_22 (by decide) ?_
      refine lv_icmp_eq (tgt := 37) hx hb dX5_code_24 (by decide) (fun c4 => ?_) (fun c4 => ?_)
      · have ok := ok.1 c4
        refine lv_iconst (v := 0) hx hb dX5_code_37 (by decide) ?_
        exact q_zret hx hb hr hlocks dX5_code_38 hP hS rfl (by rw [f_X_code, if_neg c1, if_pos c3, if_pos c4])
      · have ok := ok.2 c4
        refine lv_iload_n hx hb dX5_code_27 rfl (lv_at hl 2 rfl) ?_
        refine lv_if_lt (tgt := 37) hx hb dX5_code_28 (by decide) (fun c5 => ?_) (fun c5 => ?_)
        · have ok := ok.1 c5
          refine lv_iconst (v := 0) hx hb dX5_code_37 (by decide) ?_
          exact q_zret hx hb hr hlocks dX5_code_38 hP hS rfl (by rw [f_X_code, if_neg c1, if_pos c3, if_neg c4, if_pos c5])
        · have ok := ok.2 c5
          refine lv_iload_n hx hb dX5_code_31 rfl (lv_at hl 2 rfl) ?_
          refine lv_bipush (v := 7) hx hb dX5_code_32 (by decide) ?_
          refine lv_icmp_le (tgt := 39) hx hb dX5_code_34 (by decide) (fun c6 => ?_) (fun c6 => ?_)
          · have ok := ok.1 c6
            refine lv_iload_n hx hb dX5_code_39 rfl (lv_at hl 2 rfl) ?_
            refine lv_iconst (v := 4) hx hb dX5_code_40 (by decide) ?_
            refine lv_icmp_ne (tgt := 62) hx hb dX5_code_41 (by decide) (fun c7 => ?_) (fun c7 => ?_)
            · have ok := ok.2 c7
              refine lv_iload_n hx hb dX5_code_62 rfl (lv_at hl 2 rfl) ?_
              refine lv_iconst (v := 5) hx hb dX5_code_63 (by decide) ?_
              refine lv_icmp_ne (tgt := 75) hx hb dX5_code_64 (by decide) (fun c8 => ?_) (fun c8 => ?_)
              · have ok := ok.2 c8
                refine lv_iload_n hx hb dX5_code_75 rfl (lv_at hl 3 rfl) ?_
                refine q_callp (va_runS (As := [.int x3]) (rest := []) ⟨hx, hb, hml, hown, hts⟩ (c_X_isRegister l D cs ad hi I x3) (va_cwS 1 hts (gS k_338 k_339 k_6 k_340) rfl rfl rfl (by decide +kernel) ⟨Nat.le_of_ble_eq_true rfl, Nat.le_of_ble_eq_true rfl⟩) (q_preS hK hP) rfl rfl hl.1 rfl (lv_room (Nat.le_of_ble_eq_true rfl)) dX5_code_76 ⟨Nat.zero_le _, Nat.zero_le _⟩) hS (fun _ h => h) (fun H locs hP hS => ?_)
                refine lv_istore (lv' := [(5, .int (f_X_isRegister x3)), (0, .ref (ad 75)), (1, .int x1), (2, .int x2), (3, .int x3), (4, .int x4)]) hx hb dX5_code_79 hl (by decide) rfl (fun ls hl => ?_)
                refine lv_iload hx hb dX5_code_81 (lv_at hl 0 rfl) ?_
                refine lv_if_eq (tgt := 101) hx hb dX5_code_83 (by decide) (fun c9 => ?_) (fun c9 => ?_)
                · have ok := ok.1 c9
                  refine lv_iconst (v := 0) hx hb dX5_code_101 (by decide) ?_
                  exact q_zret hx hb hr hlocks dX5_code_102 hP hS rfl (by rw [f_X_code, if_neg c1, if_pos c3, if_neg c4, if_neg c5, if_pos c6, if_neg c7, if_neg c8, if_pos c9])
                · have ok := ok.2 c9
                  refine lv_iload_n hx hb dX5_code_86 rfl (lv_at hl 3 rfl) ?_
                  refine q_callp (va_runS (As := [.int x2]) (rest := []) ⟨hx, hb, hml, hown, hts⟩ (c_X_usesB l D cs ad hi I x2) (va_cwS 1 hts (gS k_341 k_342 k_6 k_343) rfl rfl rfl (by decide +kernel) ⟨Nat.le_of_ble_eq_true rfl, Nat.le_of_ble_eq_true rfl⟩) (q_preS hK hP) rfl rfl hl.1 rfl (lv_room (Nat.le_of_ble_eq_true rfl)) dX5_code_87 ⟨Nat.zero_le _, Nat.zero_le _⟩) hS (fun _ h => h) (fun H locs hP hS => ?_)
                  refine lv_if_eq (tgt := 103) hx hb dX5_code_90 (by decide) (fun c10 => ?_) (fun c10 => ?_)
                  · have ok := ok.1 c10
                    refine lv_bipush (v := 16) hx hb dX5_code_103 (by decide) ?_
                    refine lv_iload_n hx hb dX5_code_105 rfl (lv_at hl 2 rfl) ?_
                    refine lv_imul hx hb dX5_code_106 ?_
                    refine lv_aload_n hx hb dX5_code_107 rfl (lv_at hl 1 rfl) ?_
                    refine va_get (D := D) (ci := 5) (v := .ref (ad 76)) (C := RX5) (T := TX5) (N := 26) hx hb hts inX5 hown hK hP 75 (mq_X isO_75) rfl 0 (by decide) (hts _ k_275) (fun _ h9 => h9) rfl dX5_code_108 ?_
                    refine lv_iload_n hx hb dX5_code_111 rfl (lv_at hl 2 rfl) ?_
                    refine va_iald hx hb hK hP 76 0 (mq_A iA_76) rfl g2 dX5_code_112 ?_
                    refine lv_iadd hx hb dX5_code_113 ?_
                    refine lv_istore (lv' := [(6, .int ((16 * x1) + (I 76 x1.toNatClampNeg))), (5, .int (f_X_isRegister x3)), (0, .ref (ad 75)), (1, .int x1), (2, .int x2), (3, .int x3), (4, .int x4)]) hx hb dX5_code_114 hl (by decide) rfl (fun ls hl => ?_)
                    refine lv_aload_n hx hb dX5_code_116 rfl (lv_at hl 2 rfl) ?_
                    refine va_get (D := D) (ci := 5) (v := .ref (ad 77)) (C := RX5) (T := TX5) (N := 26) hx hb hts inX5 hown hK hP 75 (mq_X isO_75) rfl 1 (by decide) (hts _ k_276) (fun _ h9 => h9) rfl dX5_code_117 ?_
                    refine lv_iload hx hb dX5_code_120 (lv_at hl 0 rfl) ?_
                    refine lv_iload_n hx hb dX5_code_122 rfl (lv_at hl 4 rfl) ?_
                    have g11 := ok
                    refine va_iast hx hb hK hP (mD hi) hS 77 0 (mq_A iA_77) rfl g11 dX5_code_123 (fun H locs hP _ hS => ?_)
                    have hP := ms_A iA_77 hP
                    have hP : va_P D vwCl (mw 97 ad (gs cs ad (m_X_code_1 I x1 x2 x3 x4))) H := hP
                    refine lv_aload_n hx hb dX5_code_124 rfl (lv_at hl 2 rfl) ?_
                    refine va_get (D := D) (ci := 5) (v := .ref (ad 78)) (C := RX5) (T := TX5) (N := 26) hx hb hts inX5 hown hK hP 75 (mq_X isO_75) rfl 2 (by decide) (hts _ k_277) (fun _ h9 => h9) rfl dX5_code_125 ?_
                    refine lv_iload hx hb dX5_code_128 (lv_at hl 0 rfl) ?_
                    refine lv_iload_n hx hb dX5_code_130 rfl (lv_at hl 5 rfl) ?_
                    refine va_iast hx hb hK hP (mD hi) hS 78 0 (mq_A iA_78) rfl g11 dX5_code_131 (fun H locs hP _ hS => ?_)
                    have hP := ms_A iA_78 hP
                    have hP : va_P D vwCl (mw 97 ad (gs cs ad (m_X_code_2 I x1 x2 x3 x4))) H := hP
                    refine lv_aload_n hx hb dX5_code_132 rfl (lv_at hl 2 rfl) ?_
                    refine va_get (D := D) (ci := 5) (v := .ref (ad 79)) (C := RX5) (T := TX5) (N := 26) hx hb hts inX5 hown hK hP 75 (mq_X isO_75) rfl 3 (by decide) (hts _ k_278) (fun _ h9 => h9) rfl dX5_code_133 ?_
                    refine lv_iload hx hb dX5_code_136 (lv_at hl 0 rfl) ?_
                    refine lv_iload hx hb dX5_code_138 (lv_at hl 6 rfl) ?_
                    refine va_iast hx hb hK hP (mD hi) hS 79 0 (mq_A iA_79) rfl g11 dX5_code_140 (fun H locs hP _ hS => ?_)
                    have hP := ms_A iA_79 hP
                    have hP : va_P D vwCl (mw 97 ad (gs cs ad (m_X_code_3 I x1 x2 x3 x4))) H := hP
                    refine lv_aload_n hx hb dX5_code_141 rfl (lv_at hl 2 rfl) ?_
                    refine va_get (D := D) (ci := 5) (v := .ref (ad 76)) (C := RX5) (T := TX5) (N := 26) hx hb hts inX5 hown hK hP 75 (mq_X isO_75) rfl 0 (by decide) (hts _ k_275) (fun _ h9 => h9) rfl dX5_code_142 ?_
                    refine lv_iload_n hx hb dX5_code_145 rfl (lv_at hl 3 rfl) ?_
                    refine lv_dup2_11 hx hb dX5_code_146 rfl rfl ?_
                    refine va_iald hx hb hK hP 76 0 (mq_A iA_76) rfl g2 dX5_code_147 ?_
                    refine lv_iconst (v := 1) hx hb dX5_code_148 (by decide) ?_
                    refine lv_iadd hx hb dX5_code_149 ?_
                    refine va_iast hx hb hK hP (mD hi) hS 76 0 (mq_A iA_76) rfl g2 dX5_code_150 (fun H locs hP _ hS => ?_)
                    have hP := ms_A iA_76 hP
                    have hP : va_P D vwCl (mw 97 ad (gs cs ad (m_X_code_4 I x1 x2 x3 x4))) H := hP
                    refine lv_iconst (v := 1) hx hb dX5_code_151 (by decide) ?_
                    exact q_zret hx hb hr hlocks dX5_code_152 hP hS rfl (by rw [f_X_code, if_neg c1, if_pos c3, if_neg c4, if_neg c5, if_pos c6, if_neg c7, if_neg c8, if_neg c9, if_pos c10])
                  · have ok := ok.2 c10
                    refine lv_iload hx hb dX5_code_93 (lv_at hl 5 rfl) ?_
                    refine q_callp (va_runS (As := [.int x4]) (rest := []) ⟨hx, hb, hml, hown, hts⟩ (c_X_isRegister l D cs ad hi I x4) (va_cwS 1 hts (gS k_338 k_339 k_6 k_340) rfl rfl rfl (by decide +kernel) ⟨Nat.le_of_ble_eq_true rfl, Nat.le_of_ble_eq_true rfl⟩) (q_preS hK hP) rfl rfl hl.1 rfl (lv_room (Nat.le_of_ble_eq_true rfl)) dX5_code_95 ⟨Nat.zero_le _, Nat.zero_le _⟩) hS (fun _ h => h) (fun H locs hP hS => ?_)
                    refine lv_if_ne (tgt := 103) hx hb dX5_code_98 (by decide) (fun c12 => ?_) (fun c12 => ?_)
                    · have ok := ok.2 c12
                      refine lv_bipush (v := 16) hx hb dX5_code_103 (by decide) ?_
                      refine lv_iload_n hx hb dX5_code_105 rfl (lv_at hl 2 rfl) ?_
                      refine lv_imul hx hb dX5_code_106 ?_
                      refine lv_aload_n hx hb dX5_code_107 rfl (lv_at hl 1 rfl) ?_
                      refine va_get (D := D) (ci := 5) (v := .ref (ad 76)) (C := RX5) (T := TX5) (N := 26) hx hb hts inX5 hown hK hP 75 (mq_X isO_75) rfl 0 (by decide) (hts _ k_275) (fun _ h9 => h9) rfl dX5_code_108 ?_
                      refine lv_iload_n hx hb dX5_code_111 rfl (lv_at hl 2 rfl) ?_
                      refine va_iald hx hb hK hP 76 0 (mq_A iA_76) rfl g2 dX5_code_112 ?_
                      refine lv_iadd hx hb dX5_code_113 ?_
                      refine lv_istore (lv' := [(6, .int ((16 * x1) + (I 76 x1.toNatClampNeg))), (5, .int (f_X_isRegister x3)), (0, .ref (ad 75)), (1, .int x1), (2, .int x2), (3, .int x3), (4, .int x4)]) hx hb dX5_code_114 hl (by decide) rfl (fun ls hl => ?_)
                      refine lv_aload_n hx hb dX5_code_116 rfl (lv_at hl 2 rfl) ?_
                      refine va_get (D := D) (ci := 5) (v := .ref (ad 77)) (C := RX5) (T := TX5) (N := 26) hx hb hts inX5 hown hK hP 75 (mq_X isO_75) rfl 1 (by decide) (hts _ k_276) (fun _ h9 => h9) rfl dX5_code_117 ?_
                      refine lv_iload hx hb dX5_code_120 (lv_at hl 0 rfl) ?_
                      refine lv_iload_n hx hb dX5_code_122 rfl (lv_at hl 4 rfl) ?_
                      have g13 := ok
                      refine va_iast hx hb hK hP (mD hi) hS 77 0 (mq_A iA_77) rfl g13 dX5_code_123 (fun H locs hP _ hS => ?_)
                      have hP := ms_A iA_77 hP
                      have hP : va_P D vwCl (mw 97 ad (gs cs ad (m_X_code_1 I x1 x2 x3 x4))) H := hP
                      refine lv_aload_n hx hb dX5_code_124 rfl (lv_at hl 2 rfl) ?_
                      refine va_get (D := D) (ci := 5) (v := .ref (ad 78)) (C := RX5) (T := TX5) (N := 26) hx hb hts inX5 hown hK hP 75 (mq_X isO_75) rfl 2 (by decide) (hts _ k_277) (fun _ h9 => h9) rfl dX5_code_125 ?_
                      refine lv_iload hx hb dX5_code_128 (lv_at hl 0 rfl) ?_
                      refine lv_iload_n hx hb dX5_code_130 rfl (lv_at hl 5 rfl) ?_
                      refine va_iast hx hb hK hP (mD hi) hS 78 0 (mq_A iA_78) rfl g13 dX5_code_131 (fun H locs hP _ hS => ?_)
                      have hP := ms_A iA_78 hP
                      have hP : va_P D vwCl (mw 97 ad (gs cs ad (m_X_code_2 I x1 x2 x3 x4))) H := hP
                      refine lv_aload_n hx hb dX5_code_132 rfl (lv_at hl 2 rfl) ?_
                      refine va_get (D := D) (ci := 5) (v := .ref (ad 79)) (C := RX5) (T := TX5) (N := 26) hx hb hts inX5 hown hK hP 75 (mq_X isO_75) rfl 3 (by decide) (hts _ k_278) (fun _ h9 => h9) rfl dX5_code_133 ?_
                      refine lv_iload hx hb dX5_code_136 (lv_at hl 0 rfl) ?_
                      refine lv_iload hx hb dX5_code_138 (lv_at hl 6 rfl) ?_
                      refine va_iast hx hb hK hP (mD hi) hS 79 0 (mq_A iA_79) rfl g13 dX5_code_140 (fun H locs hP _ hS => ?_)
                      have hP := ms_A iA_79 hP
                      have hP : va_P D vwCl (mw 97 ad (gs cs ad (m_X_code_3 I x1 x2 x3 x4))) H := hP
                      refine lv_aload_n hx hb dX5_code_141 rfl (lv_at hl 2 rfl) ?_
                      refine va_get (D := D) (ci := 5) (v := .ref (ad 76)) (C := RX5) (T := TX5) (N := 26) hx hb hts inX5 hown hK hP 75 (mq_X isO_75) rfl 0 (by decide) (hts _ k_275) (fun _ h9 => h9) rfl dX5_code_142 ?_
                      refine lv_iload_n hx hb dX5_code_145 rfl (lv_at hl 3 rfl) ?_
                      refine lv_dup2_11 hx hb dX5_code_146 rfl rfl ?_
                      refine va_iald hx hb hK hP 76 0 (mq_A iA_76) rfl g2 dX5_code_147 ?_
                      refine lv_iconst (v := 1) hx hb dX5_code_148 (by decide) ?_
                      refine lv_iadd hx hb dX5_code_149 ?_
                      refine va_iast hx hb hK hP (mD hi) hS 76 0 (mq_A iA_76) rfl g2 dX5_code_150 (fun H locs hP _ hS => ?_)
                      have hP := ms_A iA_76 hP
                      have hP : va_P D vwCl (mw 97 ad (gs cs ad (m_X_code_4 I x1 x2 x3 x4))) H := hP
                      refine lv_iconst (v := 1) hx hb dX5_code_151 (by decide) ?_
                      exact q_zret hx hb hr hlocks dX5_code_152 hP hS rfl (by rw [f_X_code, if_neg c1, if_pos c3, if_neg c4, if_neg c5, if_pos c6, if_neg c7, if_neg c8, if_neg c9, if_neg c10, if_neg c12])
                    · have ok := ok.1 c12
                      refine lv_iconst (v := 0) hx hb dX5_code_101 (by decide) ?_
                      exact q_zret hx hb hr hlocks dX5_code_102 hP hS rfl (by rw [f_X_code, if_neg c1, if_pos c3, if_neg c4, if_neg c5, if_pos c6, if_neg c7, if_neg c8, if_neg c9, if_neg c10, if_pos c12])
              · have ok := ok.1 c8
                refine lv_iload_n hx hb dX5_code_67 rfl (lv_at hl 1 rfl) ?_
                refine lv_iload_n hx hb dX5_code_68 rfl (lv_at hl 3 rfl) ?_
                refine q_callp (va_runS (As := [.int x1, .int x3]) (rest := []) ⟨hx, hb, hml, hown, hts⟩ (c_X_isChannel l D cs ad hi I x1 x3) (va_cwS 2 hts (gS k_335 k_336 k_6 k_337) rfl rfl rfl (by decide +kernel) ⟨Nat.le_of_ble_eq_true rfl, Nat.le_of_ble_eq_true rfl⟩) (q_preS hK hP) rfl rfl hl.1 rfl (lv_room (Nat.le_of_ble_eq_true rfl)) dX5_code_69 ⟨Nat.zero_le _, Nat.zero_le _⟩) hS (fun _ h => h) (fun H locs hP hS => ?_)
                refine lv_goto (tgt := 79) hx hb dX5_code_72 (by decide) ?_
                refine lv_istore (lv' := [(5, .int (f_X_isChannel x1 x3)), (0, .ref (ad 75)), (1, .int x1), (2, .int x2), (3, .int x3), (4, .int x4)]) hx hb dX5_code_79 hl (by decide) rfl (fun ls hl => ?_)
                refine lv_iload hx hb dX5_code_81 (lv_at hl 0 rfl) ?_
                refine lv_if_eq (tgt := 101) hx hb dX5_code_83 (by decide) (fun c14 => ?_) (fun c14 => ?_)
                · have ok := ok.1 c14
                  refine lv_iconst (v := 0) hx hb dX5_code_101 (by decide) ?_
                  exact q_zret hx hb hr hlocks dX5_code_102 hP hS rfl (by rw [f_X_code, if_neg c1, if_pos c3, if_neg c4, if_neg c5, if_pos c6, if_neg c7, if_pos c8, if_pos c14])
                · have ok := ok.2 c14
                  refine lv_iload_n hx hb dX5_code_86 rfl (lv_at hl 3 rfl) ?_
                  refine q_callp (va_runS (As := [.int x2]) (rest := []) ⟨hx, hb, hml, hown, hts⟩ (c_X_usesB l D cs ad hi I x2) (va_cwS 1 hts (gS k_341 k_342 k_6 k_343) rfl rfl rfl (by decide +kernel) ⟨Nat.le_of_ble_eq_true rfl, Nat.le_of_ble_eq_true rfl⟩) (q_preS hK hP) rfl rfl hl.1 rfl (lv_room (Nat.le_of_ble_eq_true rfl)) dX5_code_87 ⟨Nat.zero_le _, Nat.zero_le _⟩) hS (fun _ h => h) (fun H locs hP hS => ?_)
                  refine lv_if_eq (tgt := 103) hx hb dX5_code_90 (by decide) (fun c15 => ?_) (fun c15 => ?_)
                  · have ok := ok.1 c15
                    refine lv_bipush (v := 16) hx hb dX5_code_103 (by decide) ?_
                    refine lv_iload_n hx hb dX5_code_105 rfl (lv_at hl 2 rfl) ?_
                    refine lv_imul hx hb dX5_code_106 ?_
                    refine lv_aload_n hx hb dX5_code_107 rfl (lv_at hl 1 rfl) ?_
                    refine va_get (D := D) (ci := 5) (v := .ref (ad 76)) (C := RX5) (T := TX5) (N := 26) hx hb hts inX5 hown hK hP 75 (mq_X isO_75) rfl 0 (by decide) (hts _ k_275) (fun _ h9 => h9) rfl dX5_code_108 ?_
                    refine lv_iload_n hx hb dX5_code_111 rfl (lv_at hl 2 rfl) ?_
                    refine va_iald hx hb hK hP 76 0 (mq_A iA_76) rfl g2 dX5_code_112 ?_
                    refine lv_iadd hx hb dX5_code_113 ?_
                    refine lv_istore (lv' := [(6, .int ((16 * x1) + (I 76 x1.toNatClampNeg))), (5, .int (f_X_isChannel x1 x3)), (0, .ref (ad 75)), (1, .int x1), (2, .int x2), (3, .int x3), (4, .int x4)]) hx hb dX5_code_114 hl (by decide) rfl (fun ls hl => ?_)
                    refine lv_aload_n hx hb dX5_code_116 rfl (lv_at hl 2 rfl) ?_
                    refine va_get (D := D) (ci := 5) (v := .ref (ad 77)) (C := RX5) (T := TX5) (N := 26) hx hb hts inX5 hown hK hP 75 (mq_X isO_75) rfl 1 (by decide) (hts _ k_276) (fun _ h9 => h9) rfl dX5_code_117 ?_
                    refine lv_iload hx hb dX5_code_120 (lv_at hl 0 rfl) ?_
                    refine lv_iload_n hx hb dX5_code_122 rfl (lv_at hl 4 rfl) ?_
                    have g16 := ok
                    refine va_iast hx hb hK hP (mD hi) hS 77 0 (mq_A iA_77) rfl g16 dX5_code_123 (fun H locs hP _ hS => ?_)
                    have hP := ms_A iA_77 hP
                    have hP : va_P D vwCl (mw 97 ad (gs cs ad (m_X_code_1 I x1 x2 x3 x4))) H := hP
                    refine lv_aload_n hx hb dX5_code_124 rfl (lv_at hl 2 rfl) ?_
                    refine va_get (D := D) (ci := 5) (v := .ref (ad 78)) (C := RX5) (T := TX5) (N := 26) hx hb hts inX5 hown hK hP 75 (mq_X isO_75) rfl 2 (by decide) (hts _ k_277) (fun _ h9 => h9) rfl dX5_code_125 ?_
                    refine lv_iload hx hb dX5_code_128 (lv_at hl 0 rfl) ?_
                    refine lv_iload_n hx hb dX5_code_130 rfl (lv_at hl 5 rfl) ?_
                    refine va_iast hx hb hK hP (mD hi) hS 78 0 (mq_A iA_78) rfl g16 dX5_code_131 (fun H locs hP _ hS => ?_)
                    have hP := ms_A iA_78 hP
                    have hP : va_P D vwCl (mw 97 ad (gs cs ad (m_X_code_2 I x1 x2 x3 x4))) H := hP
                    refine lv_aload_n hx hb dX5_code_132 rfl (lv_at hl 2 rfl) ?_
                    refine va_get (D := D) (ci := 5) (v := .ref (ad 79)) (C := RX5) (T := TX5) (N := 26) hx hb hts inX5 hown hK hP 75 (mq_X isO_75) rfl 3 (by decide) (hts _ k_278) (fun _ h9 => h9) rfl dX5_code_133 ?_
                    refine lv_iload hx hb dX5_code_136 (lv_at hl 0 rfl) ?_
                    refine lv_iload hx hb dX5_code_138 (lv_at hl 6 rfl) ?_
                    refine va_iast hx hb hK hP (mD hi) hS 79 0 (mq_A iA_79) rfl g16 dX5_code_140 (fun H locs hP _ hS => ?_)
                    have hP := ms_A iA_79 hP
                    have hP : va_P D vwCl (mw 97 ad (gs cs ad (m_X_code_3 I x1 x2 x3 x4))) H := hP
                    refine lv_aload_n hx hb dX5_code_141 rfl (lv_at hl 2 rfl) ?_
                    refine va_get (D := D) (ci := 5) (v := .ref (ad 76)) (C := RX5) (T := TX5) (N := 26) hx hb hts inX5 hown hK hP 75 (mq_X isO_75) rfl 0 (by decide) (hts _ k_275) (fun _ h9 => h9) rfl dX5_code_142 ?_
                    refine lv_iload_n hx hb dX5_code_145 rfl (lv_at hl 3 rfl) ?_
                    refine lv_dup2_11 hx hb dX5_code_146 rfl rfl ?_
                    refine va_iald hx hb hK hP 76 0 (mq_A iA_76) rfl g2 dX5_code_147 ?_
                    refine lv_iconst (v := 1) hx hb dX5_code_148 (by decide) ?_
                    refine lv_iadd hx hb dX5_code_149 ?_
                    refine va_iast hx hb hK hP (mD hi) hS 76 0 (mq_A iA_76) rfl g2 dX5_code_150 (fun H locs hP _ hS => ?_)
                    have hP := ms_A iA_76 hP
                    have hP : va_P D vwCl (mw 97 ad (gs cs ad (m_X_code_4 I x1 x2 x3 x4))) H := hP
                    refine lv_iconst (v := 1) hx hb dX5_code_151 (by decide) ?_
                    exact q_zret hx hb hr hlocks dX5_code_152 hP hS rfl (by rw [f_X_code, if_neg c1, if_pos c3, if_neg c4, if_neg c5, if_pos c6, if_neg c7, if_pos c8, if_neg c14, if_pos c15])
                  · have ok := ok.2 c15
                    refine lv_iload hx hb dX5_code_93 (lv_at hl 5 rfl) ?_
                    refine q_callp (va_runS (As := [.int x4]) (rest := []) ⟨hx, hb, hml, hown, hts⟩ (c_X_isRegister l D cs ad hi I x4) (va_cwS 1 hts (gS k_338 k_339 k_6 k_340) rfl rfl rfl (by decide +kernel) ⟨Nat.le_of_ble_eq_true rfl, Nat.le_of_ble_eq_true rfl⟩) (q_preS hK hP) rfl rfl hl.1 rfl (lv_room (Nat.le_of_ble_eq_true rfl)) dX5_code_95 ⟨Nat.zero_le _, Nat.zero_le _⟩) hS (fun _ h => h) (fun H locs hP hS => ?_)
                    refine lv_if_ne (tgt := 103) hx hb dX5_code_98 (by decide) (fun c17 => ?_) (fun c17 => ?_)
                    · have ok := ok.2 c17
                      refine lv_bipush (v := 16) hx hb dX5_code_103 (by decide) ?_
                      refine lv_iload_n hx hb dX5_code_105 rfl (lv_at hl 2 rfl) ?_
                      refine lv_imul hx hb dX5_code_106 ?_
                      refine lv_aload_n hx hb dX5_code_107 rfl (lv_at hl 1 rfl) ?_
                      refine va_get (D := D) (ci := 5) (v := .ref (ad 76)) (C := RX5) (T := TX5) (N := 26) hx hb hts inX5 hown hK hP 75 (mq_X isO_75) rfl 0 (by decide) (hts _ k_275) (fun _ h9 => h9) rfl dX5_code_108 ?_
                      refine lv_iload_n hx hb dX5_code_111 rfl (lv_at hl 2 rfl) ?_
                      refine va_iald hx hb hK hP 76 0 (mq_A iA_76) rfl g2 dX5_code_112 ?_
                      refine lv_iadd hx hb dX5_code_113 ?_
                      refine lv_istore (lv' := [(6, .int ((16 * x1) + (I 76 x1.toNatClampNeg))), (5, .int (f_X_isChannel x1 x3)), (0, .ref (ad 75)), (1, .int x1), (2, .int x2), (3, .int x3), (4, .int x4)]) hx hb dX5_code_114 hl (by decide) rfl (fun ls hl => ?_)
                      refine lv_aload_n hx hb dX5_code_116 rfl (lv_at hl 2 rfl) ?_
                      refine va_get (D := D) (ci := 5) (v := .ref (ad 77)) (C := RX5) (T := TX5) (N := 26) hx hb hts inX5 hown hK hP 75 (mq_X isO_75) rfl 1 (by decide) (hts _ k_276) (fun _ h9 => h9) rfl dX5_code_117 ?_
                      refine lv_iload hx hb dX5_code_120 (lv_at hl 0 rfl) ?_
                      refine lv_iload_n hx hb dX5_code_122 rfl (lv_at hl 4 rfl) ?_
                      have g18 := ok
                      refine va_iast hx hb hK hP (mD hi) hS 77 0 (mq_A iA_77) rfl g18 dX5_code_123 (fun H locs hP _ hS => ?_)
                      have hP := ms_A iA_77 hP
                      have hP : va_P D vwCl (mw 97 ad (gs cs ad (m_X_code_1 I x1 x2 x3 x4))) H := hP
                      refine lv_aload_n hx hb dX5_code_124 rfl (lv_at hl 2 rfl) ?_
                      refine va_get (D := D) (ci := 5) (v := .ref (ad 78)) (C := RX5) (T := TX5) (N := 26) hx hb hts inX5 hown hK hP 75 (mq_X isO_75) rfl 2 (by decide) (hts _ k_277) (fun _ h9 => h9) rfl dX5_code_125 ?_
                      refine lv_iload hx hb dX5_code_128 (lv_at hl 0 rfl) ?_
                      refine lv_iload_n hx hb dX5_code_130 rfl (lv_at hl 5 rfl) ?_
                      refine va_iast hx hb hK hP (mD hi) hS 78 0 (mq_A iA_78) rfl g18 dX5_code_131 (fun H locs hP _ hS => ?_)
                      have hP := ms_A iA_78 hP
                      have hP : va_P D vwCl (mw 97 ad (gs cs ad (m_X_code_2 I x1 x2 x3 x4))) H := hP
                      refine lv_aload_n hx hb dX5_code_132 rfl (lv_at hl 2 rfl) ?_
                      refine va_get (D := D) (ci := 5) (v := .ref (ad 79)) (C := RX5) (T := TX5) (N := 26) hx hb hts inX5 hown hK hP 75 (mq_X isO_75) rfl 3 (by decide) (hts _ k_278) (fun _ h9 => h9) rfl dX5_code_133 ?_
                      refine lv_iload hx hb dX5_code_136 (lv_at hl 0 rfl) ?_
                      refine lv_iload hx hb dX5_code_138 (lv_at hl 6 rfl) ?_
                      refine va_iast hx hb hK hP (mD hi) hS 79 0 (mq_A iA_79) rfl g18 dX5_code_140 (fun H locs hP _ hS => ?_)
                      have hP := ms_A iA_79 hP
                      have hP : va_P D vwCl (mw 97 ad (gs cs ad (m_X_code_3 I x1 x2 x3 x4))) H := hP
                      refine lv_aload_n hx hb dX5_code_141 rfl (lv_at hl 2 rfl) ?_
                      refine va_get (D := D) (ci := 5) (v := .ref (ad 76)) (C := RX5) (T := TX5) (N := 26) hx hb hts inX5 hown hK hP 75 (mq_X isO_75) rfl 0 (by decide) (hts _ k_275) (fun _ h9 => h9) rfl dX5_code_142 ?_
                      refine lv_iload_n hx hb dX5_code_145 rfl (lv_at hl 3 rfl) ?_
                      refine lv_dup2_11 hx hb dX5_code_146 rfl rfl ?_
                      refine va_iald hx hb hK hP 76 0 (mq_A iA_76) rfl g2 dX5_code_147 ?_
                      refine lv_iconst (v := 1) hx hb dX5_code_148 (by decide) ?_
                      refine lv_iadd hx hb dX5_code_149 ?_
                      refine va_iast hx hb hK hP (mD hi) hS 76 0 (mq_A iA_76) rfl g2 dX5_code_150 (fun H locs hP _ hS => ?_)
                      have hP := ms_A iA_76 hP
                      have hP : va_P D vwCl (mw 97 ad (gs cs ad (m_X_code_4 I x1 x2 x3 x4))) H := hP
                      refine lv_iconst (v := 1) hx hb dX5_code_151 (by decide) ?_
                      exact q_zret hx hb hr hlocks dX5_code_152 hP hS rfl (by rw [f_X_code, if_neg c1, if_pos c3, if_neg c4, if_neg c5, if_pos c6, if_neg c7, if_pos c8, if_neg c14, if_neg c15, if_neg c17])
                    · have ok := ok.1 c17
                      refine lv_iconst (v := 0) hx hb dX5_code_101 (by decide) ?_
                      exact q_zret hx hb hr hlocks dX5_code_102 hP hS rfl (by rw [f_X_code, if_neg c1, if_pos c3, if_neg c4, if_neg c5, if_pos c6, if_neg c7, if_pos c8, if_neg c14, if_neg c15, if_pos c17])
            · have ok := ok.1 c7
              refine lv_iload_n hx hb dX5_code_44 rfl (lv_at hl 3 rfl) ?_
              refine lv_if_lt (tgt := 58) hx hb dX5_code_45 (by decide) (fun c19 => ?_) (fun c19 => ?_)
              · have ok := ok.1 c19
                refine lv_iconst (v := 0) hx hb dX5_code_58 (by decide) ?_
                refine lv_goto (tgt := 79) hx hb dX5_code_59 (by decide) ?_
                refine lv_istore (lv' := [(5, .int 0), (0, .ref (ad 75)), (1, .int x1), (2, .int x2), (3, .int x3), (4, .int x4)]) hx hb dX5_code_79 hl (by decide) rfl (fun ls hl => ?_)
                refine lv_iload hx hb dX5_code_81 (lv_at hl 0 rfl) ?_
                refine lv_if_eq (tgt := 101) hx hb dX5_code_83 (by decide) (fun c20 => ?_) (fun c20 => absurd c20 (by decide))
                refine lv_iconst (v := 0) hx hb dX5_code_101 (by decide) ?_
                exact q_zret hx hb hr hlocks dX5_code_102 hP hS rfl (by rw [f_X_code, if_neg c1, if_pos c3, if_neg c4, if_neg c5, if_pos c6, if_pos c7, if_pos c19])
              · have ok := ok.2 c19
                refine lv_iload_n hx hb dX5_code_48 rfl (lv_at hl 3 rfl) ?_
                refine lv_bipush (v := 15) hx hb dX5_code_49 (by decide) ?_
                refine lv_icmp_gt (tgt := 58) hx hb dX5_code_51 (by decide) (fun c21 => ?_) (fun c21 => ?_)
                · have ok := ok.1 c21
                  refine lv_iconst (v := 0) hx hb dX5_code_58 (by decide) ?_
                  refine lv_goto (tgt := 79) hx hb dX5_code_59 (by decide) ?_
                  refine lv_istore (lv' := [(5, .int 0), (0, .ref (ad 75)), (1, .int x1), (2, .int x2), (3, .int x3), (4, .int x4)]) hx hb dX5_code_79 hl (by decide) rfl (fun ls hl => ?_)
                  refine lv_iload hx hb dX5_code_81 (lv_at hl 0 rfl) ?_
                  refine lv_if_eq (tgt := 101) hx hb dX5_code_83 (by decide) (fun c22 => ?_) (fun c22 => absurd c22 (by decide))
                  refine lv_iconst (v := 0) hx hb dX5_code_101 (by decide) ?_
                  exact q_zret hx hb hr hlocks dX5_code_102 hP hS rfl (by rw [f_X_code, if_neg c1, if_pos c3, if_neg c4, if_neg c5, if_pos c6, if_pos c7, if_neg c19, if_pos c21])
                · have ok := ok.2 c21
                  refine lv_iconst (v := 1) hx hb dX5_code_54 (by decide) ?_
                  refine lv_goto (tgt := 79) hx hb dX5_code_55 (by decide) ?_
                  refine lv_istore (lv' := [(5, .int 1), (0, .ref (ad 75)), (1, .int x1), (2, .int x2), (3, .int x3), (4, .int x4)]) hx hb dX5_code_79 hl (by decide) rfl (fun ls hl => ?_)
                  refine lv_iload hx hb dX5_code_81 (lv_at hl 0 rfl) ?_
                  refine lv_if_eq (tgt := 101) hx hb dX5_code_83 (by decide) (fun c23 => absurd c23 (by decide)) (fun c23 => ?_)
                  refine lv_iload_n hx hb dX5_code_86 rfl (lv_at hl 3 rfl) ?_
                  refine q_callp (va_runS (As := [.int x2]) (rest := []) ⟨hx, hb, hml, hown, hts⟩ (c_X_usesB l D cs ad hi I x2) (va_cwS 1 hts (gS k_341 k_342 k_6 k_343) rfl rfl rfl (by decide +kernel) ⟨Nat.le_of_ble_eq_true rfl, Nat.le_of_ble_eq_true rfl⟩) (q_preS hK hP) rfl rfl hl.1 rfl (lv_room (Nat.le_of_ble_eq_true rfl)) dX5_code_87 ⟨Nat.zero_le _, Nat.zero_le _⟩) hS (fun _ h => h) (fun H locs hP hS => ?_)
                  refine lv_if_eq (tgt := 103) hx hb dX5_code_90 (by decide) (fun c24 => ?_) (fun c24 => ?_)
                  · have ok := ok.1 c24
                    refine lv_bipush (v := 16) hx hb dX5_code_103 (by decide) ?_
                    refine lv_iload_n hx hb dX5_code_105 rfl (lv_at hl 2 rfl) ?_
                    refine lv_imul hx hb dX5_code_106 ?_
                    refine lv_aload_n hx hb dX5_code_107 rfl (lv_at hl 1 rfl) ?_
                    refine va_get (D := D) (ci := 5) (v := .ref (ad 76)) (C := RX5) (T := TX5) (N := 26) hx hb hts inX5 hown hK hP 75 (mq_X isO_75) rfl 0 (by decide) (hts _ k_275) (fun _ h9 => h9) rfl dX5_code_108 ?_
                    refine lv_iload_n hx hb dX5_code_111 rfl (lv_at hl 2 rfl) ?_
                    refine va_iald hx hb hK hP 76 0 (mq_A iA_76) rfl g2 dX5_code_112 ?_
                    refine lv_iadd hx hb dX5_code_113 ?_
                    refine lv_istore (lv' := [(6, .int ((16 * x1) + (I 76 x1.toNatClampNeg))), (5, .int 1), (0, .ref (ad 75)), (1, .int x1), (2, .int x2), (3, .int x3), (4, .int x4)]) hx hb dX5_code_114 hl (by decide) rfl (fun ls hl => ?_)
                    refine lv_aload_n hx hb dX5_code_116 rfl (lv_at hl 2 rfl) ?_
                    refine va_get (D := D) (ci := 5) (v := .ref (ad 77)) (C := RX5) (T := TX5) (N := 26) hx hb hts inX5 hown hK hP 75 (mq_X isO_75) rfl 1 (by decide) (hts _ k_276) (fun _ h9 => h9) rfl dX5_code_117 ?_
                    refine lv_iload hx hb dX5_code_120 (lv_at hl 0 rfl) ?_
                    refine lv_iload_n hx hb dX5_code_122 rfl (lv_at hl 4 rfl) ?_
                    have g25 := ok
                    refine va_iast hx hb hK hP (mD hi) hS 77 0 (mq_A iA_77) rfl g25 dX5_code_123 (fun H locs hP _ hS => ?_)
                    have hP := ms_A iA_77 hP
                    have hP : va_P D vwCl (mw 97 ad (gs cs ad (m_X_code_1 I x1 x2 x3 x4))) H := hP
                    refine lv_aload_n hx hb dX5_code_124 rfl (lv_at hl 2 rfl) ?_
                    refine va_get (D := D) (ci := 5) (v := .ref (ad 78)) (C := RX5) (T := TX5) (N := 26) hx hb hts inX5 hown hK hP 75 (mq_X isO_75) rfl 2 (by decide) (hts _ k_277) (fun _ h9 => h9) rfl dX5_code_125 ?_
                    refine lv_iload hx hb dX5_code_128 (lv_at hl 0 rfl) ?_
                    refine lv_iload_n hx hb dX5_code_130 rfl (lv_at hl 5 rfl) ?_
                    refine va_iast hx hb hK hP (mD hi) hS 78 0 (mq_A iA_78) rfl g25 dX5_code_131 (fun H locs hP _ hS => ?_)
                    have hP := ms_A iA_78 hP
                    have hP : va_P D vwCl (mw 97 ad (gs cs ad (m_X_code_2 I x1 x2 x3 x4))) H := hP
                    refine lv_aload_n hx hb dX5_code_132 rfl (lv_at hl 2 rfl) ?_
                    refine va_get (D := D) (ci := 5) (v := .ref (ad 79)) (C := RX5) (T := TX5) (N := 26) hx hb hts inX5 hown hK hP 75 (mq_X isO_75) rfl 3 (by decide) (hts _ k_278) (fun _ h9 => h9) rfl dX5_code_133 ?_
                    refine lv_iload hx hb dX5_code_136 (lv_at hl 0 rfl) ?_
                    refine lv_iload hx hb dX5_code_138 (lv_at hl 6 rfl) ?_
                    refine va_iast hx hb hK hP (mD hi) hS 79 0 (mq_A iA_79) rfl g25 dX5_code_140 (fun H locs hP _ hS => ?_)
                    have hP := ms_A iA_79 hP
                    have hP : va_P D vwCl (mw 97 ad (gs cs ad (m_X_code_3 I x1 x2 x3 x4))) H := hP
                    refine lv_aload_n hx hb dX5_code_141 rfl (lv_at hl 2 rfl) ?_
                    refine va_get (D := D) (ci := 5) (v := .ref (ad 76)) (C := RX5) (T := TX5) (N := 26) hx hb hts inX5 hown hK hP 75 (mq_X isO_75) rfl 0 (by decide) (hts _ k_275) (fun _ h9 => h9) rfl dX5_code_142 ?_
                    refine lv_iload_n hx hb dX5_code_145 rfl (lv_at hl 3 rfl) ?_
                    refine lv_dup2_11 hx hb dX5_code_146 rfl rfl ?_
                    refine va_iald hx hb hK hP 76 0 (mq_A iA_76) rfl g2 dX5_code_147 ?_
                    refine lv_iconst (v := 1) hx hb dX5_code_148 (by decide) ?_
                    refine lv_iadd hx hb dX5_code_149 ?_
                    refine va_iast hx hb hK hP (mD hi) hS 76 0 (mq_A iA_76) rfl g2 dX5_code_150 (fun H locs hP _ hS => ?_)
                    have hP := ms_A iA_76 hP
                    have hP : va_P D vwCl (mw 97 ad (gs cs ad (m_X_code_4 I x1 x2 x3 x4))) H := hP
                    refine lv_iconst (v := 1) hx hb dX5_code_151 (by decide) ?_
                    exact q_zret hx hb hr hlocks dX5_code_152 hP hS rfl (by rw [f_X_code, if_neg c1, if_pos c3, if_neg c4, if_neg c5, if_pos c6, if_pos c7, if_neg c19, if_neg c21, if_pos c24])
                  · have ok := ok.2 c24
                    refine lv_iload hx hb dX5_code_93 (lv_at hl 5 rfl) ?_
                    refine q_callp (va_runS (As := [.int x4]) (rest := []) ⟨hx, hb, hml, hown, hts⟩ (c_X_isRegister l D cs ad hi I x4) (va_cwS 1 hts (gS k_338 k_339 k_6 k_340) rfl rfl rfl (by decide +kernel) ⟨Nat.le_of_ble_eq_true rfl, Nat.le_of_ble_eq_true rfl⟩) (q_preS hK hP) rfl rfl hl.1 rfl (lv_room (Nat.le_of_ble_eq_true rfl)) dX5_code_95 ⟨Nat.zero_le _, Nat.zero_le _⟩) hS (fun _ h => h) (fun H locs hP hS => ?_)
                    refine lv_if_ne (tgt := 103) hx hb dX5_code_98 (by decide) (fun c26 => ?_) (fun c26 => ?_)
                    · have ok := ok.2 c26
                      refine lv_bipush (v := 16) hx hb dX5_code_103 (by decide) ?_
                      refine lv_iload_n hx hb dX5_code_105 rfl (lv_at hl 2 rfl) ?_
                      refine lv_imul hx hb dX5_code_106 ?_
                      refine lv_aload_n hx hb dX5_code_107 rfl (lv_at hl 1 rfl) ?_
                      refine va_get (D := D) (ci := 5) (v := .ref (ad 76)) (C := RX5) (T := TX5) (N := 26) hx hb hts inX5 hown hK hP 75 (mq_X isO_75) rfl 0 (by decide) (hts _ k_275) (fun _ h9 => h9) rfl dX5_code_108 ?_
                      refine lv_iload_n hx hb dX5_code_111 rfl (lv_at hl 2 rfl) ?_
                      refine va_iald hx hb hK hP 76 0 (mq_A iA_76) rfl g2 dX5_code_112 ?_
                      refine lv_iadd hx hb dX5_code_113 ?_
                      refine lv_istore (lv' := [(6, .int ((16 * x1) + (I 76 x1.toNatClampNeg))), (5, .int 1), (0, .ref (ad 75)), (1, .int x1), (2, .int x2), (3, .int x3), (4, .int x4)]) hx hb dX5_code_114 hl (by decide) rfl (fun ls hl => ?_)
                      refine lv_aload_n hx hb dX5_code_116 rfl (lv_at hl 2 rfl) ?_
                      refine va_get (D := D) (ci := 5) (v := .ref (ad 77)) (C := RX5) (T := TX5) (N := 26) hx hb hts inX5 hown hK hP 75 (mq_X isO_75) rfl 1 (by decide) (hts _ k_276) (fun _ h9 => h9) rfl dX5_code_117 ?_
                      refine lv_iload hx hb dX5_code_120 (lv_at hl 0 rfl) ?_
                      refine lv_iload_n hx hb dX5_code_122 rfl (lv_at hl 4 rfl) ?_
                      have g27 := ok
                      refine va_iast hx hb hK hP (mD hi) hS 77 0 (mq_A iA_77) rfl g27 dX5_code_123 (fun H locs hP _ hS => ?_)
                      have hP := ms_A iA_77 hP
                      have hP : va_P D vwCl (mw 97 ad (gs cs ad (m_X_code_1 I x1 x2 x3 x4))) H := hP
                      refine lv_aload_n hx hb dX5_code_124 rfl (lv_at hl 2 rfl) ?_
                      refine va_get (D := D) (ci := 5) (v := .ref (ad 78)) (C := RX5) (T := TX5) (N := 26) hx hb hts inX5 hown hK hP 75 (mq_X isO_75) rfl 2 (by decide) (hts _ k_277) (fun _ h9 => h9) rfl dX5_code_125 ?_
                      refine lv_iload hx hb dX5_code_128 (lv_at hl 0 rfl) ?_
                      refine lv_iload_n hx hb dX5_code_130 rfl (lv_at hl 5 rfl) ?_
                      refine va_iast hx hb hK hP (mD hi) hS 78 0 (mq_A iA_78) rfl g27 dX5_code_131 (fun H locs hP _ hS => ?_)
                      have hP := ms_A iA_78 hP
                      have hP : va_P D vwCl (mw 97 ad (gs cs ad (m_X_code_2 I x1 x2 x3 x4))) H := hP
                      refine lv_aload_n hx hb dX5_code_132 rfl (lv_at hl 2 rfl) ?_
                      refine va_get (D := D) (ci := 5) (v := .ref (ad 79)) (C := RX5) (T := TX5) (N := 26) hx hb hts inX5 hown hK hP 75 (mq_X isO_75) rfl 3 (by decide) (hts _ k_278) (fun _ h9 => h9) rfl dX5_code_133 ?_
                      refine lv_iload hx hb dX5_code_136 (lv_at hl 0 rfl) ?_
                      refine lv_iload hx hb dX5_code_138 (lv_at hl 6 rfl) ?_
                      refine va_iast hx hb hK hP (mD hi) hS 79 0 (mq_A iA_79) rfl g27 dX5_code_140 (fun H locs hP _ hS => ?_)
                      have hP := ms_A iA_79 hP
                      have hP : va_P D vwCl (mw 97 ad (gs cs ad (m_X_code_3 I x1 x2 x3 x4))) H := hP
                      refine lv_aload_n hx hb dX5_code_141 rfl (lv_at hl 2 rfl) ?_
                      refine va_get (D := D) (ci := 5) (v := .ref (ad 76)) (C := RX5) (T := TX5) (N := 26) hx hb hts inX5 hown hK hP 75 (mq_X isO_75) rfl 0 (by decide) (hts _ k_275) (fun _ h9 => h9) rfl dX5_code_142 ?_
                      refine lv_iload_n hx hb dX5_code_145 rfl (lv_at hl 3 rfl) ?_
                      refine lv_dup2_11 hx hb dX5_code_146 rfl rfl ?_
                      refine va_iald hx hb hK hP 76 0 (mq_A iA_76) rfl g2 dX5_code_147 ?_
                      refine lv_iconst (v := 1) hx hb dX5_code_148 (by decide) ?_
                      refine lv_iadd hx hb dX5_code_149 ?_
                      refine va_iast hx hb hK hP (mD hi) hS 76 0 (mq_A iA_76) rfl g2 dX5_code_150 (fun H locs hP _ hS => ?_)
                      have hP := ms_A iA_76 hP
                      have hP : va_P D vwCl (mw 97 ad (gs cs ad (m_X_code_4 I x1 x2 x3 x4))) H := hP
                      refine lv_iconst (v := 1) hx hb dX5_code_151 (by decide) ?_
                      exact q_zret hx hb hr hlocks dX5_code_152 hP hS rfl (by rw [f_X_code, if_neg c1, if_pos c3, if_neg c4, if_neg c5, if_pos c6, if_pos c7, if_neg c19, if_neg c21, if_neg c24, if_neg c26])
                    · have ok := ok.1 c26
                      refine lv_iconst (v := 0) hx hb dX5_code_101 (by decide) ?_
                      exact q_zret hx hb hr hlocks dX5_code_102 hP hS rfl (by rw [f_X_code, if_neg c1, if_pos c3, if_neg c4, if_neg c5, if_pos c6, if_pos c7, if_neg c19, if_neg c21, if_neg c24, if_pos c26])
          · have ok := ok.2 c6
            refine lv_iconst (v := 0) hx hb dX5_code_37 (by decide) ?_
            exact q_zret hx hb hr hlocks dX5_code_38 hP hS rfl (by rw [f_X_code, if_neg c1, if_pos c3, if_neg c4, if_neg c5, if_neg c6])
end
section
def m_X_sends_1 (I : Mm) (x1 x2 x3 : Int32) : Mm := u2 I 91 (((8 * ((3 * x1) + x2)) + ((I 89 (((3 * x1) + x2).toNatClampNeg)) - (I 89 (((3 * x1) + x2).toNatClampNeg)) / 8 * 8)).toNatClampNeg) x3
def m_X_sends_2 (I : Mm) (x1 x2 x3 : Int32) : Mm := u2 (m_X_sends_1 I x1 x2 x3) 89 (((3 * x1) + x2).toNatClampNeg) (((m_X_sends_1 I x1 x2 x3) 89 (((3 * x1) + x2).toNatClampNeg)) + 1)
def m_X_sends_3 (I : Mm) (x1 x2 x3 : Int32) : Mm := u2 I 85 x1.toNatClampNeg ((I 85 x1.toNatClampNeg) + 1)
def f_X_sends (I : Mm) (x1 x2 x3 : Int32) : Int32 × Mm := (if (I 89 (((3 * x1) + x2).toNatClampNeg)) ≤ (I 96 x2.toNatClampNeg) then (if ((I 89 (((3 * x1) + x2).toNatClampNeg)) - (I 90 (((3 * x1) + x2).toNatClampNeg))) = 8 then (0, I) else (1, (m_X_sends_2 I x1 x2 x3))) else (1, (m_X_sends_3 I x1 x2 x3)))
def ok_X_sends (I : Mm) (x1 x2 x3 : Int32) : Prop := vp_in x2 3 ∧ (vp_in ((3 * x1) + x2) 9 ∧ (((I 89 (((3 * x1) + x2).toNatClampNeg)) ≤ (I 96 x2.toNatClampNeg) → (((I 89 (((3 * x1) + x2).toNatClampNeg)) - (I 90 (((3 * x1) + x2).toNatClampNeg))) = 8 → True) ∧ (¬ ((I 89 (((3 * x1) + x2).toNatClampNeg)) - (I 90 (((3 * x1) + x2).toNatClampNeg))) = 8 → vp_in ((8 * ((3 * x1) + x2)) + ((I 89 (((3 * x1) + x2).toNatClampNeg)) - (I 89 (((3 * x1) + x2).toNatClampNeg)) / 8 * 8)) 72)) ∧ (¬ (I 89 (((3 * x1) + x2).toNatClampNeg)) ≤ (I 96 x2.toNatClampNeg) → vp_in x1 3)))
theorem z_X_sends (I : Mm) (x1 x2 x3 : Int32) : narrow .boolean (.int (f_X_sends I x1 x2 x3).1) = .int (f_X_sends I x1 x2 x3).1 := by
  unfold f_X_sends
  (repeat' split) <;> first | (with_reducible exact nb0 _) | (with_reducible exact nb1 _)
set_option maxHeartbeats 4000000 in
set_option maxRecDepth 100000 in
theorem c_X_sends (l : Launch) (D : va_G) (cs : Nat → ClassId) (ad : Nat → Nat) (hi : mi ad) (I : Mm) (x1 x2 x3 : Int32) (ok : ok_X_sends I x1 x2 x3) : MC l yX5_sends wX5_sends { frames := 0, cells := 0, slots := 0, locals := 0 } D cs ad [.ref (ad 75), .int x1, .int x2, .int x3] I (some (.int (f_X_sends I x1 x2 x3).1)) (f_X_sends I x1 x2 x3).2 := by
  unfold ok_X_sends at ok
  refine q_enter (cc := cX5_sends) (maxL := 5) (ret := (some .boolean)) (by decide +kernel) rfl (Nat.le_of_ble_eq_true rfl) ?_
  intro p e s m below meth c ls hx hb hr hml hown hts hlocks hK hP hS hl
  have hown : s.vm.findClass RX5 = some m.cls := hown
  have hts : ∀ w ∈ gtbl, w.before _ s = true := fun w h => hts w (List.mem_cons_of_mem _ h)
  have hl : lv_has ls 5 [(0, .ref (ad 75)), (1, .int x1), (2, .int x2), (3, .int x3)] := hl
  refine lv_iconst (v := 3) hx hb dX5_sends_0 (by decide) ?_
  refine lv_iload_n hx hb dX5_sends_1 rfl (lv_at hl 1 rfl) ?_
  refine lv_imul hx hb dX5_sends_2 ?_
  refine lv_iload_n hx hb dX5_sends_3 rfl (lv_at hl 2 rfl) ?_
  refine lv_iadd hx hb dX5_sends_4 ?_
  refine lv_istore (lv' := [(4, .int ((3 * x1) + x2)), (0, .ref (ad 75)), (1, .int x1), (2, .int x2), (3, .int x3)]) hx hb dX5_sends_5 hl (by decide) rfl (fun ls hl => ?_)
  refine lv_aload_n hx hb dX5_sends_7 rfl (lv_at hl 1 rfl) ?_
  refine va_get (D := D) (ci := 5) (v := .ref (ad 96)) (C := RX5) (T := TX5) (N := 26) hx hb hts inX5 hown hK hP 75 (mq_X isO_75) rfl 21 (by decide) (hts _ k_296) (fun _ h9 => h9) rfl dX5_sends_8 ?_
  refine lv_iload_n hx hb dX5_sends_11 rfl (lv_at hl 3 rfl) ?_
  have g1 := ok.1
  have ok := ok.2
  refine va_iald hx hb hK hP 96 0 (mq_A iA_96) rfl g1 dX5_sends_12 ?_
  refine lv_aload_n hx hb dX5_sends_13 rfl (lv_at hl 1 rfl) ?_
  refine va_get (D := D) (ci := 5) (v := .ref (ad 89)) (C := RX5) (T := TX5) (N := 26) hx hb hts inX5 hown hK hP 75 (mq_X isO_75) rfl 13 (by decide) (hts _ k_288) (fun _ h9 => h9) rfl dX5_sends_14 ?_
  refine lv_iload hx hb dX5_sends_17 (lv_at hl 0 rfl) ?_
  have g2 := ok.1
  have ok := ok.2
  refine va_iald hx hb hK hP 89 0 (mq_A iA_89) rfl g2 dX5_sends_19 ?_
  refine lv_icmp_ge (tgt := 35) hx hb dX5_sends_20 (by decide) (fun c3 => ?_) (fun c3 => ?_)
  · have ok := ok.1 c3
    refine lv_aload_n hx hb dX5_sends_35 rfl (lv_at hl 1 rfl) ?_
    refine va_get (D := D) (ci := 5) (v := .ref (ad 89)) (C := RX5) (T := TX5) (N := 26) hx hb hts inX5 hown hK hP 75 (mq_X isO_75) rfl 13 (by decide) (hts _ k_288) (fun _ h9 => h9) rfl dX5_sends_36 ?_
    refine lv_iload hx hb dX5_sends_39 (lv_at hl 0 rfl) ?_
    refine va_iald hx hb hK hP 89 0 (mq_A iA_89) rfl g2 dX5_sends_41 ?_
    refine lv_aload_n hx hb dX5_sends_42 rfl (lv_at hl 1 rfl) ?_
    refine va_get (D := D) (ci := 5) (v := .ref (ad 90)) (C := RX5) (T := TX5) (N := 26) hx hb hts inX5 hown hK hP 75 (mq_X isO_75) rfl 14 (by decide) (hts _ k_289) (fun _ h9 => h9) rfl dX5_sends_43 ?_
    refine lv_iload hx hb dX5_sends_46 (lv_at hl 0 rfl) ?_
    refine va_iald hx hb hK hP 90 0 (mq_A iA_90) rfl g2 dX5_sends_48 ?_
    refine lv_isub hx hb dX5_sends_49 ?_
    refine lv_bipush (v := 8) hx hb dX5_sends_50 (by decide) ?_
    refine lv_icmp_ne (tgt := 57) hx hb dX5_sends_52 (by decide) (fun c4 => ?_) (fun c4 => ?_)
    · have ok := ok.2 c4
      refine lv_aload_n hx hb dX5_sends_57 rfl (lv_at hl 1 rfl) ?_
      refine va_get (D := D) (ci := 5) (v := .ref (ad 91)) (C := RX5) (T := TX5) (N := 26) hx hb hts inX5 hown hK hP 75 (mq_X isO_75) rfl 15 (by decide) (hts _ k_290) (fun _ h9 => h9) rfl dX5_sends_58 ?_
      refine lv_bipush (v := 8) hx hb dX5_sends_61 (by decide) ?_
      refine lv_iload hx hb dX5_sends_63 (lv_at hl 0 rfl) ?_
      refine lv_imul hx hb dX5_sends_65 ?_
      refine lv_aload_n hx hb dX5_sends_66 rfl (lv_at hl 1 rfl) ?_
      refine va_get (D := D) (ci := 5) (v := .ref (ad 89)) (C := RX5) (T := TX5) (N := 26) hx hb hts inX5 hown hK hP 75 (mq_X isO_75) rfl 13 (by decide) (hts _ k_288) (fun _ h9 => h9) rfl dX5_sends_67 ?_
      refine lv_iload hx hb dX5_sends_70 (lv_at hl 0 rfl) ?_
      refine va_iald hx hb hK hP 89 0 (mq_A iA_89) rfl g2 dX5_sends_72 ?_
      refine lv_bipush (v := 8) hx hb dX5_sends_73 (by decide) ?_
      refine lv_irem hx hb dX5_sends_75 (by decide) ?_
      refine lv_iadd hx hb dX5_sends_76 ?_
      refine lv_iload_n hx hb dX5_sends_77 rfl (lv_at hl 4 rfl) ?_
      have g5 := ok
      refine va_iast hx hb hK hP (mD hi) hS 91 0 (mq_A iA_91) rfl g5 dX5_sends_78 (fun H locs hP _ hS => ?_)
      have hP := ms_A iA_91 hP
      have hP : va_P D vwCl (mw 97 ad (gs cs ad (m_X_sends_1 I x1 x2 x3))) H := hP
      refine lv_aload_n hx hb dX5_sends_79 rfl (lv_at hl 1 rfl) ?_
      refine va_get (D := D) (ci := 5) (v := .ref (ad 89)) (C := RX5) (T := TX5) (N := 26) hx hb hts inX5 hown hK hP 75 (mq_X isO_75) rfl 13 (by decide) (hts _ k_288) (fun _ h9 => h9) rfl dX5_sends_80 ?_
      refine lv_iload hx hb dX5_sends_83 (lv_at hl 0 rfl) ?_
      refine lv_dup2_11 hx hb dX5_sends_85 rfl rfl ?_
      refine va_iald hx hb hK hP 89 0 (mq_A iA_89) rfl g2 dX5_sends_86 ?_
      refine lv_iconst (v := 1) hx hb dX5_sends_87 (by decide) ?_
      refine lv_iadd hx hb dX5_sends_88 ?_
      refine va_iast hx hb hK hP (mD hi) hS 89 0 (mq_A iA_89) rfl g2 dX5_sends_89 (fun H locs hP _ hS => ?_)
      have hP := ms_A iA_89 hP
      have hP : va_P D vwCl (mw 97 ad (gs cs ad (m_X_sends_2 I x1 x2 x3))) H := hP
      refine lv_iconst (v := 1) hx hb dX5_sends_90 (by decide) ?_
      exact q_zret hx hb hr hlocks dX5_sends_91 hP hS rfl (by rw [f_X_sends, if_pos c3, if_neg c4])
    · have ok := ok.1 c4
      refine lv_iconst (v := 0) hx hb dX5_sends_55 (by decide) ?_
      exact q_zret hx hb hr hlocks dX5_sends_56 hP hS rfl (by rw [f_X_sends, if_pos c3, if_pos c4])
  · have ok := ok.2 c3
    refine lv_aload_n hx hb dX5_sends_23 rfl (lv_at hl 1 rfl) ?_
    refine va_get (D := D) (ci := 5) (v := .ref (ad 85)) (C := RX5) (T := TX5) (N := 26) hx hb hts inX5 hown hK hP 75 (mq_X isO_75) rfl 9 (by decide) (hts _ k_284) (fun _ h9 => h9) rfl dX5_sends_24 ?_
    refine lv_iload_n hx hb dX5_sends_27 rfl (lv_at hl 2 rfl) ?_
    refine lv_dup2_11 hx hb dX5_sends_28 rfl rfl ?_
    have g6 := ok
    refine va_iald hx hb hK hP 85 0 (mq_A iA_85) rfl g6 dX5_sends_29 ?_
    refine lv_iconst (v := 1) hx hb dX5_sends_30 (by decide) ?_
    refine lv_iadd hx hb dX5_sends_31 ?_
    refine va_iast hx hb hK hP (mD hi) hS 85 0 (mq_A iA_85) rfl g6 dX5_sends_32 (fun H locs hP _ hS => ?_)
    have hP := ms_A iA_85 hP
    have hP : va_P D vwCl (mw 97 ad (gs cs ad (m_X_sends_3 I x1 x2 x3))) H := hP
    refine lv_iconst (v := 1) hx hb dX5_sends_33 (by decide) ?_
    exact q_zret hx hb hr hlocks dX5_sends_34 hP hS rfl (by rw [f_X_sends, if_neg c3])
def m_X_puts_1 (I : Mm) (x1 x2 : Int32) : Mm := u2 I 92 ((I 75 0).toNatClampNeg) x1
def m_X_puts_2 (I : Mm) (x1 x2 : Int32) : Mm := u2 (m_X_puts_1 I x1 x2) 93 (((m_X_puts_1 I x1 x2) 75 0).toNatClampNeg) x2
def m_X_puts_3 (I : Mm) (x1 x2 : Int32) : Mm := u2 (m_X_puts_2 I x1 x2) 75 0 (((m_X_puts_2 I x1 x2) 75 0) + 1)
def m_X_puts_4 (I : Mm) (x1 x2 : Int32) : Mm := u2 (m_X_puts_3 I x1 x2) 94 x1.toNatClampNeg (((m_X_puts_3 I x1 x2) 94 x1.toNatClampNeg) + 1)
def m_X_puts_5 (I : Mm) (x1 x2 : Int32) : Mm := u2 I 85 x1.toNatClampNeg ((I 85 x1.toNatClampNeg) + 1)
def f_X_puts (I : Mm) (x1 x2 : Int32) : Int32 × Mm := (if (I 94 x1.toNatClampNeg) ≤ (I 75 3) then (if (I 75 0) = 60 then (0, I) else (1, (m_X_puts_4 I x1 x2))) else (1, (m_X_puts_5 I x1 x2)))
def ok_X_puts (I : Mm) (x1 x2 : Int32) : Prop := vp_in x1 3 ∧ (((I 94 x1.toNatClampNeg) ≤ (I 75 3) → ((I 75 0) = 60 → True) ∧ (¬ (I 75 0) = 60 → vp_in (I 75 0) 60 ∧ (vp_in ((m_X_puts_1 I x1 x2) 75 0) 60))) ∧ (¬ (I 94 x1.toNatClampNeg) ≤ (I 75 3) → True))
theorem z_X_puts (I : Mm) (x1 x2 : Int32) : narrow .boolean (.int (f_X_puts I x1 x2).1) = .int (f_X_puts I x1 x2).1 := by
  unfold f_X_puts
  (repeat' split) <;> first | (with_reducible exact nb0 _) | (with_reducible exact nb1 _)
set_option maxHeartbeats 4000000 in
set_option maxRecDepth 100000 in
theorem c_X_puts (l : Launch) (D : va_G) (cs : Nat → ClassId) (ad : Nat → Nat) (hi : mi ad) (I : Mm) (x1 x2 : Int32) (ok : ok_X_puts I x1 x2) : MC l yX5_puts wX5_puts { frames := 0, cells := 0, slots := 0, locals := 0 } D cs ad [.ref (ad 75), .int x1, .int x2] I (some (.int (f_X_puts I x1 x2).1)) (f_X_puts I x1 x2).2 := by
  unfold ok_X_puts at ok
  refine q_enter (cc := cX5_puts) (maxL := 3) (ret := (some .boolean)) (by decide +kernel) rfl (Nat.le_of_ble_eq_true rfl) ?_
  intro p e s m below meth c ls hx hb hr hml hown hts hlocks hK hP hS hl
  have hown : s.vm.findClass RX5 = some m.cls := hown
  have hts : ∀ w ∈ gtbl, w.before _ s = true := fun w h => hts w (List.mem_cons_of_mem _ h)
  have hl : lv_has ls 3 [(0, .ref (ad 75)), (1, .int x1), (2, .int x2)] := hl
  refine lv_aload_n hx hb dX5_puts_0 rfl (lv_at hl 0 rfl) ?_
  refine va_get (D := D) (ci := 5) (v := .int (I 75 3)) (C := RX5) (T := TX5) (N := 26) hx hb hts inX5 hown hK hP 75 (mq_X isO_75) rfl 24 (by decide) (hts _ k_299) (fun _ h9 => h9) rfl dX5_puts_1 ?_
  refine lv_aload_n hx hb dX5_puts_4 rfl (lv_at hl 0 rfl) ?_
  refine va_get (D := D) (ci := 5) (v := .ref (ad 94)) (C := RX5) (T := TX5) (N := 26) hx hb hts inX5 hown hK hP 75 (mq_X isO_75) rfl 19 (by decide) (hts _ k_294) (fun _ h9 => h9) rfl dX5_puts_5 ?_
  refine lv_iload_n hx hb dX5_puts_8 rfl (lv_at hl 1 rfl) ?_
  have g1 := ok.1
  have ok := ok.2
  refine va_iald hx hb hK hP 94 0 (mq_A iA_94) rfl g1 dX5_puts_9 ?_
  refine lv_icmp_ge (tgt := 25) hx hb dX5_puts_10 (by decide) (fun c2 => ?_) (fun c2 => ?_)
  · have ok := ok.1 c2
    refine lv_aload_n hx hb dX5_puts_25 rfl (lv_at hl 0 rfl) ?_
    refine va_get (D := D) (ci := 5) (v := .int (I 75 0)) (C := RX5) (T := TX5) (N := 26) hx hb hts inX5 hown hK hP 75 (mq_X isO_75) rfl 16 (by decide) (hts _ k_291) (fun _ h9 => h9) rfl dX5_puts_26 ?_
    refine lv_bipush (v := 60) hx hb dX5_puts_29 (by decide) ?_
    refine lv_icmp_ne (tgt := 36) hx hb dX5_puts_31 (by decide) (fun c3 => ?_) (fun c3 => ?_)
    · have ok := ok.2 c3
      refine lv_aload_n hx hb dX5_puts_36 rfl (lv_at hl 0 rfl) ?_
      refine va_get (D := D) (ci := 5) (v := .ref (ad 92)) (C := RX5) (T := TX5) (N := 26) hx hb hts inX5 hown hK hP 75 (mq_X isO_75) rfl 17 (by decide) (hts _ k_292) (fun _ h9 => h9) rfl dX5_puts_37 ?_
      refine lv_aload_n hx hb dX5_puts_40 rfl (lv_at hl 0 rfl) ?_
      refine va_get (D := D) (ci := 5) (v := .int (I 75 0)) (C := RX5) (T := TX5) (N := 26) hx hb hts inX5 hown hK hP 75 (mq_X isO_75) rfl 16 (by decide) (hts _ k_291) (fun _ h9 => h9) rfl dX5_puts_41 ?_
      refine lv_iload_n hx hb dX5_puts_44 rfl (lv_at hl 1 rfl) ?_
      have g4 := ok.1
      have ok := ok.2
      refine va_iast hx hb hK hP (mD hi) hS 92 0 (mq_A iA_92) rfl g4 dX5_puts_45 (fun H locs hP _ hS => ?_)
      have hP := ms_A iA_92 hP
      have hP : va_P D vwCl (mw 97 ad (gs cs ad (m_X_puts_1 I x1 x2))) H := hP
      refine lv_aload_n hx hb dX5_puts_46 rfl (lv_at hl 0 rfl) ?_
      refine va_get (D := D) (ci := 5) (v := .ref (ad 93)) (C := RX5) (T := TX5) (N := 26) hx hb hts inX5 hown hK hP 75 (mq_X isO_75) rfl 18 (by decide) (hts _ k_293) (fun _ h9 => h9) rfl dX5_puts_47 ?_
      refine lv_aload_n hx hb dX5_puts_50 rfl (lv_at hl 0 rfl) ?_
      refine va_get (D := D) (ci := 5) (v := .int ((m_X_puts_1 I x1 x2) 75 0)) (C := RX5) (T := TX5) (N := 26) hx hb hts inX5 hown hK hP 75 (mq_X isO_75) rfl 16 (by decide) (hts _ k_291) (fun _ h9 => h9) rfl dX5_puts_51 ?_
      refine lv_iload_n hx hb dX5_puts_54 rfl (lv_at hl 2 rfl) ?_
      have g5 := ok
      refine va_iast hx hb hK hP (mD hi) hS 93 0 (mq_A iA_93) rfl g5 dX5_puts_55 (fun H locs hP _ hS => ?_)
      have hP := ms_A iA_93 hP
      have hP : va_P D vwCl (mw 97 ad (gs cs ad (m_X_puts_2 I x1 x2))) H := hP
      refine lv_aload_n hx hb dX5_puts_56 rfl (lv_at hl 0 rfl) ?_
      refine lv_dup hx hb dX5_puts_57 rfl ?_
      refine va_get (D := D) (ci := 5) (v := .int ((m_X_puts_2 I x1 x2) 75 0)) (C := RX5) (T := TX5) (N := 26) hx hb hts inX5 hown hK hP 75 (mq_X isO_75) rfl 16 (by decide) (hts _ k_291) (fun _ h9 => h9) rfl dX5_puts_58 ?_
      refine lv_iconst (v := 1) hx hb dX5_puts_61 (by decide) ?_
      refine lv_iadd hx hb dX5_puts_62 ?_
      refine va_put (D := D) (ci := 5) (v := .int (((m_X_puts_2 I x1 x2) 75 0) + 1)) (ty := .int) (C := RX5) (T := TX5) (N := 26) hx hb hts inX5 tyX5 tyX5_ok nmX5 hown hK hP (mD hi) hS 75 (mq_X isO_75) rfl 16 (by decide) (hts _ k_291) (fun _ h9 => h9) rfl (by decide +kernel) rfl rfl (Nat.le_of_ble_eq_true rfl) dX5_puts_63 (fun H locs hP _ hS => ?_)
      have hP := ms_X0 isO_75 hP
      have hP : va_P D vwCl (mw 97 ad (gs cs ad (m_X_puts_3 I x1 x2))) H := hP
      refine lv_aload_n hx hb dX5_puts_66 rfl (lv_at hl 0 rfl) ?_
      refine va_get (D := D) (ci := 5) (v := .ref (ad 94)) (C := RX5) (T := TX5) (N := 26) hx hb hts inX5 hown hK hP 75 (mq_X isO_75) rfl 19 (by decide) (hts _ k_294) (fun _ h9 => h9) rfl dX5_puts_67 ?_
      refine lv_iload_n hx hb dX5_puts_70 rfl (lv_at hl 1 rfl) ?_
      refine lv_dup2_11 hx hb dX5_puts_71 rfl rfl ?_
      refine va_iald hx hb hK hP 94 0 (mq_A iA_94) rfl g1 dX5_puts_72 ?_
      refine lv_iconst (v := 1) hx hb dX5_puts_73 (by decide) ?_
      refine lv_iadd hx hb dX5_puts_74 ?_
      refine va_iast hx hb hK hP (mD hi) hS 94 0 (mq_A iA_94) rfl g1 dX5_puts_75 (fun H locs hP _ hS => ?_)
      have hP := ms_A iA_94 hP
      have hP : va_P D vwCl (mw 97 ad (gs cs ad (m_X_puts_4 I x1 x2))) H := hP
      refine lv_iconst (v := 1) hx hb dX5_puts_76 (by decide) ?_
      exact q_zret hx hb hr hlocks dX5_puts_77 hP hS rfl (by rw [f_X_puts, if_pos c2, if_neg c3])
    · have ok := ok.1 c3
      refine lv_iconst (v := 0) hx hb dX5_puts_34 (by decide) ?_
      exact q_zret hx hb hr hlocks dX5_puts_35 hP hS rfl (by rw [f_X_puts, if_pos c2, if_pos c3])
  · have ok := ok.2 c2
    refine lv_aload_n hx hb dX5_puts_13 rfl (lv_at hl 0 rfl) ?_
    refine va_get (D := D) (ci := 5) (v := .ref (ad 85)) (C := RX5) (T := TX5) (N := 26) hx hb hts inX5 hown hK hP 75 (mq_X isO_75) rfl 9 (by decide) (hts _ k_284) (fun _ h9 => h9) rfl dX5_puts_14 ?_
    refine lv_iload_n hx hb dX5_puts_17 rfl (lv_at hl 1 rfl) ?_
    refine lv_dup2_11 hx hb dX5_puts_18 rfl rfl ?_
    refine va_iald hx hb hK hP 85 0 (mq_A iA_85) rfl g1 dX5_puts_19 ?_
    refine lv_iconst (v := 1) hx hb dX5_puts_20 (by decide) ?_
    refine lv_iadd hx hb dX5_puts_21 ?_
    refine va_iast hx hb hK hP (mD hi) hS 85 0 (mq_A iA_85) rfl g1 dX5_puts_22 (fun H locs hP _ hS => ?_)
    have hP := ms_A iA_85 hP
    have hP : va_P D vwCl (mw 97 ad (gs cs ad (m_X_puts_5 I x1 x2))) H := hP
    refine lv_iconst (v := 1) hx hb dX5_puts_23 (by decide) ?_
    exact q_zret hx hb hr hlocks dX5_puts_24 hP hS rfl (by rw [f_X_puts, if_neg c2])
def m_X_go_1 (I : Mm) (x1 x2 : Int32) : Mm := u2 I 95 ((I 78 (((16 * x1) + (I 75 1)).toNatClampNeg)).toNatClampNeg) (I 79 (((16 * x1) + (I 75 1)).toNatClampNeg))
def m_X_go_2 (I : Mm) (x1 x2 : Int32) : Mm := u2 (m_X_go_1 I x1 x2) 75 1 ((I 75 1) + 1)
def m_X_go_3 (I : Mm) (x1 x2 : Int32) : Mm := u2 (m_X_go_2 I x1 x2) 75 4 (((m_X_go_2 I x1 x2) 75 4) + 1)
def m_X_go_4 (I : Mm) (x1 x2 : Int32) : Mm := u2 I 95 ((I 78 (((16 * x1) + (I 75 1)).toNatClampNeg)).toNatClampNeg) ((I 95 ((I 78 (((16 * x1) + (I 75 1)).toNatClampNeg)).toNatClampNeg)) + (I 95 ((I 79 (((16 * x1) + (I 75 1)).toNatClampNeg)).toNatClampNeg)))
def m_X_go_5 (I : Mm) (x1 x2 : Int32) : Mm := u2 (m_X_go_4 I x1 x2) 75 1 ((I 75 1) + 1)
def m_X_go_6 (I : Mm) (x1 x2 : Int32) : Mm := u2 (m_X_go_5 I x1 x2) 75 4 (((m_X_go_5 I x1 x2) 75 4) + 1)
def m_X_go_7 (I : Mm) (x1 x2 : Int32) : Mm := u2 I 95 ((I 78 (((16 * x1) + (I 75 1)).toNatClampNeg)).toNatClampNeg) ((I 95 ((I 78 (((16 * x1) + (I 75 1)).toNatClampNeg)).toNatClampNeg)) * (I 95 ((I 79 (((16 * x1) + (I 75 1)).toNatClampNeg)).toNatClampNeg)))
def m_X_go_8 (I : Mm) (x1 x2 : Int32) : Mm := u2 (m_X_go_7 I x1 x2) 75 1 ((I 75 1) + 1)
def m_X_go_9 (I : Mm) (x1 x2 : Int32) : Mm := u2 (m_X_go_8 I x1 x2) 75 4 (((m_X_go_8 I x1 x2) 75 4) + 1)
def m_X_go_10 (I : Mm) (x1 x2 : Int32) : Mm := u2 I 75 1 ((I 75 1) + 1)
def m_X_go_11 (I : Mm) (x1 x2 : Int32) : Mm := u2 (m_X_go_10 I x1 x2) 75 4 (((m_X_go_10 I x1 x2) 75 4) + 1)
def m_X_go_12 (I : Mm) (x1 x2 : Int32) : Mm := u2 I 75 1 ((I 75 1) + 2)
def m_X_go_13 (I : Mm) (x1 x2 : Int32) : Mm := u2 (m_X_go_12 I x1 x2) 75 4 (((m_X_go_12 I x1 x2) 75 4) + 1)
def m_X_go_14 (I : Mm) (x1 x2 : Int32) : Mm := u2 I 75 1 (I 78 (((16 * x1) + (I 75 1)).toNatClampNeg))
def m_X_go_15 (I : Mm) (x1 x2 : Int32) : Mm := u2 (m_X_go_14 I x1 x2) 75 4 (((m_X_go_14 I x1 x2) 75 4) + 1)
def m_X_go_16 (I : Mm) (x1 x2 : Int32) : Mm := u2 I 96 ((I 78 (((16 * x1) + (I 75 1)).toNatClampNeg)).toNatClampNeg) ((I 96 ((I 78 (((16 * x1) + (I 75 1)).toNatClampNeg)).toNatClampNeg)) + 1)
def m_X_go_17 (I : Mm) (x1 x2 : Int32) : Mm := u2 (m_X_go_16 I x1 x2) 75 1 ((I 75 1) + 1)
def m_X_go_18 (I : Mm) (x1 x2 : Int32) : Mm := u2 (m_X_go_17 I x1 x2) 75 4 (((m_X_go_17 I x1 x2) 75 4) + 1)
def m_X_go_19 (I : Mm) (x1 x2 : Int32) : Mm := u2 ((f_X_sends I x1 (I 78 (((16 * x1) + (I 75 1)).toNatClampNeg)) (I 95 ((I 79 (((16 * x1) + (I 75 1)).toNatClampNeg)).toNatClampNeg))).2) 96 ((I 78 (((16 * x1) + (I 75 1)).toNatClampNeg)).toNatClampNeg) ((((f_X_sends I x1 (I 78 (((16 * x1) + (I 75 1)).toNatClampNeg)) (I 95 ((I 79 (((16 * x1) + (I 75 1)).toNatClampNeg)).toNatClampNeg))).2) 96 ((I 78 (((16 * x1) + (I 75 1)).toNatClampNeg)).toNatClampNeg)) + 1)
def m_X_go_20 (I : Mm) (x1 x2 : Int32) : Mm := u2 (m_X_go_19 I x1 x2) 75 1 ((I 75 1) + 1)
def m_X_go_21 (I : Mm) (x1 x2 : Int32) : Mm := u2 (m_X_go_20 I x1 x2) 75 4 (((m_X_go_20 I x1 x2) 75 4) + 1)
def m_X_go_22 (I : Mm) (x1 x2 : Int32) : Mm := u2 I 95 ((I 79 (((16 * x1) + (I 75 1)).toNatClampNeg)).toNatClampNeg) (I 88 (((512 * x1) + (I 75 2)).toNatClampNeg))
def m_X_go_23 (I : Mm) (x1 x2 : Int32) : Mm := u2 (m_X_go_22 I x1 x2) 95 ((I 78 (((16 * x1) + (I 75 1)).toNatClampNeg)).toNatClampNeg) ((m_X_go_22 I x1 x2) 87 (((512 * x1) + ((m_X_go_22 I x1 x2) 75 2)).toNatClampNeg))
def m_X_go_24 (I : Mm) (x1 x2 : Int32) : Mm := u2 (m_X_go_23 I x1 x2) 75 2 (((m_X_go_23 I x1 x2) 75 2) + 1)
def m_X_go_25 (I : Mm) (x1 x2 : Int32) : Mm := u2 (m_X_go_24 I x1 x2) 75 1 ((I 75 1) + 1)
def m_X_go_26 (I : Mm) (x1 x2 : Int32) : Mm := u2 (m_X_go_25 I x1 x2) 75 4 (((m_X_go_25 I x1 x2) 75 4) + 1)
def m_X_go_27 (I : Mm) (x1 x2 : Int32) : Mm := u2 I 75 3 ((I 75 3) + 1)
def m_X_go_28 (I : Mm) (x1 x2 : Int32) : Mm := u2 (m_X_go_27 I x1 x2) 75 1 ((I 75 1) + 1)
def m_X_go_29 (I : Mm) (x1 x2 : Int32) : Mm := u2 (m_X_go_28 I x1 x2) 75 4 (((m_X_go_28 I x1 x2) 75 4) + 1)
def m_X_go_30 (I : Mm) (x1 x2 : Int32) : Mm := u2 ((f_X_puts I x1 (I 95 ((I 78 (((16 * x1) + (I 75 1)).toNatClampNeg)).toNatClampNeg))).2) 75 3 ((((f_X_puts I x1 (I 95 ((I 78 (((16 * x1) + (I 75 1)).toNatClampNeg)).toNatClampNeg))).2) 75 3) + 1)
def m_X_go_31 (I : Mm) (x1 x2 : Int32) : Mm := u2 (m_X_go_30 I x1 x2) 75 1 ((I 75 1) + 1)
def m_X_go_32 (I : Mm) (x1 x2 : Int32) : Mm := u2 (m_X_go_31 I x1 x2) 75 4 (((m_X_go_31 I x1 x2) 75 4) + 1)
def f_X_go (I : Mm) (x1 x2 : Int32) : Int32 × Mm := (if (I 75 1) < (I 76 x1.toNatClampNeg) then (if (I 77 (((16 * x1) + (I 75 1)).toNatClampNeg)) = 0 then (1, (m_X_go_3 I x1 x2)) else (if (I 77 (((16 * x1) + (I 75 1)).toNatClampNeg)) = 1 then (1, (m_X_go_6 I x1 x2)) else (if (I 77 (((16 * x1) + (I 75 1)).toNatClampNeg)) = 2 then (1, (m_X_go_9 I x1 x2)) else (if (I 77 (((16 * x1) + (I 75 1)).toNatClampNeg)) = 3 then (if (I 95 ((I 79 (((16 * x1) + (I 75 1)).toNatClampNeg)).toNatClampNeg)) ≤ (I 95 ((I 78 (((16 * x1) + (I 75 1)).toNatClampNeg)).toNatClampNeg)) then (1, (m_X_go_11 I x1 x2)) else (1, (m_X_go_13 I x1 x2))) else (if (I 77 (((16 * x1) + (I 75 1)).toNatClampNeg)) = 4 then (1, (m_X_go_15 I x1 x2)) else (if (I 77 (((16 * x1) + (I 75 1)).toNatClampNeg)) = 5 then (if x2 = 0 then (if ((f_X_sends I x1 (I 78 (((16 * x1) + (I 75 1)).toNatClampNeg)) (I 95 ((I 79 (((16 * x1) + (I 75 1)).toNatClampNeg)).toNatClampNeg))).1) = 0 then (0, (f_X_sends I x1 (I 78 (((16 * x1) + (I 75 1)).toNatClampNeg)) (I 95 ((I 79 (((16 * x1) + (I 75 1)).toNatClampNeg)).toNatClampNeg))).2) else (1, (m_X_go_21 I x1 x2))) else (1, (m_X_go_18 I x1 x2))) else (if (I 77 (((16 * x1) + (I 75 1)).toNatClampNeg)) = 6 then (if (I 75 2) = (I 86 x1.toNatClampNeg) then (0, I) else (1, (m_X_go_26 I x1 x2))) else (if x2 = 0 then (if ((f_X_puts I x1 (I 95 ((I 78 (((16 * x1) + (I 75 1)).toNatClampNeg)).toNatClampNeg))).1) = 0 then (0, (f_X_puts I x1 (I 95 ((I 78 (((16 * x1) + (I 75 1)).toNatClampNeg)).toNatClampNeg))).2) else (1, (m_X_go_32 I x1 x2))) else (1, (m_X_go_29 I x1 x2)))))))))) else (2, I))
def ok_X_go (I : Mm) (x1 x2 : Int32) : Prop := vp_in x1 3 ∧ (((I 75 1) < (I 76 x1.toNatClampNeg) → vp_in ((16 * x1) + (I 75 1)) 48 ∧ (((I 77 (((16 * x1) + (I 75 1)).toNatClampNeg)) = 0 → vp_in (I 78 (((16 * x1) + (I 75 1)).toNatClampNeg)) 4) ∧ (¬ (I 77 (((16 * x1) + (I 75 1)).toNatClampNeg)) = 0 → ((I 77 (((16 * x1) + (I 75 1)).toNatClampNeg)) = 1 → vp_in (I 78 (((16 * x1) + (I 75 1)).toNatClampNeg)) 4 ∧ (vp_in (I 79 (((16 * x1) + (I 75 1)).toNatClampNeg)) 4)) ∧ (¬ (I 77 (((16 * x1) + (I 75 1)).toNatClampNeg)) = 1 → ((I 77 (((16 * x1) + (I 75 1)).toNatClampNeg)) = 2 → vp_in (I 78 (((16 * x1) + (I 75 1)).toNatClampNeg)) 4 ∧ (vp_in (I 79 (((16 * x1) + (I 75 1)).toNatClampNeg)) 4)) ∧ (¬ (I 77 (((16 * x1) + (I 75 1)).toNatClampNeg)) = 2 → ((I 77 (((16 * x1) + (I 75 1)).toNatClampNeg)) = 3 → vp_in (I 78 (((16 * x1) + (I 75 1)).toNatClampNeg)) 4 ∧ (vp_in (I 79 (((16 * x1) + (I 75 1)).toNatClampNeg)) 4)) ∧ (¬ (I 77 (((16 * x1) + (I 75 1)).toNatClampNeg)) = 3 → ((I 77 (((16 * x1) + (I 75 1)).toNatClampNeg)) = 4 → True) ∧ (¬ (I 77 (((16 * x1) + (I 75 1)).toNatClampNeg)) = 4 → ((I 77 (((16 * x1) + (I 75 1)).toNatClampNeg)) = 5 → (x2 = 0 → vp_in (I 79 (((16 * x1) + (I 75 1)).toNatClampNeg)) 4 ∧ (ok_X_sends I x1 (I 78 (((16 * x1) + (I 75 1)).toNatClampNeg)) (I 95 ((I 79 (((16 * x1) + (I 75 1)).toNatClampNeg)).toNatClampNeg)) ∧ ((((f_X_sends I x1 (I 78 (((16 * x1) + (I 75 1)).toNatClampNeg)) (I 95 ((I 79 (((16 * x1) + (I 75 1)).toNatClampNeg)).toNatClampNeg))).1) = 0 → True) ∧ (¬ ((f_X_sends I x1 (I 78 (((16 * x1) + (I 75 1)).toNatClampNeg)) (I 95 ((I 79 (((16 * x1) + (I 75 1)).toNatClampNeg)).toNatClampNeg))).1) = 0 → vp_in (I 78 (((16 * x1) + (I 75 1)).toNatClampNeg)) 3)))) ∧ (¬ x2 = 0 → vp_in (I 78 (((16 * x1) + (I 75 1)).toNatClampNeg)) 3)) ∧ (¬ (I 77 (((16 * x1) + (I 75 1)).toNatClampNeg)) = 5 → ((I 77 (((16 * x1) + (I 75 1)).toNatClampNeg)) = 6 → ((I 75 2) = (I 86 x1.toNatClampNeg) → True) ∧ (¬ (I 75 2) = (I 86 x1.toNatClampNeg) → vp_in ((512 * x1) + (I 75 2)) 1536 ∧ (vp_in (I 79 (((16 * x1) + (I 75 1)).toNatClampNeg)) 4 ∧ (vp_in ((512 * x1) + ((m_X_go_22 I x1 x2) 75 2)) 1536 ∧ (vp_in (I 78 (((16 * x1) + (I 75 1)).toNatClampNeg)) 4))))) ∧ (¬ (I 77 (((16 * x1) + (I 75 1)).toNatClampNeg)) = 6 → (x2 = 0 → vp_in (I 78 (((16 * x1) + (I 75 1)).toNatClampNeg)) 4 ∧ (ok_X_puts I x1 (I 95 ((I 78 (((16 * x1) + (I 75 1)).toNatClampNeg)).toNatClampNeg)))) ∧ (¬ x2 = 0 → True)))))))))) ∧ (¬ (I 75 1) < (I 76 x1.toNatClampNeg) → True))
set_option maxHeartbeats 4000000 in
set_option maxRecDepth 100000 in
theorem c_X_go (l : Launch) (D : va_G) (cs : Nat → ClassId) (ad : Nat → Nat) (hi : mi ad) (I : Mm) (x1 x2 : Int32) (ok : ok_X_go I x1 x2) : MC l yX5_go wX5_go { frames := 1, cells := 0, slots := 0, locals := 24 } D cs ad [.ref (ad 75), .int x1, .int x2] I (some (.int (f_X_go I x1 x2).1)) (f_X_go I x1 x2).2 := by
  unfold ok_X_go at ok
  refine q_enter (cc := cX5_go) (maxL := 7) (ret := (some .int)) (by decide +kernel) rfl (Nat.le_of_ble_eq_true rfl) ?_
  intro p e s m below meth c ls hx hb hr hml hown hts hlocks hK hP hS hl
  have hown : s.vm.findClass RX5 = some m.cls := hown
  have hts : ∀ w ∈ gtbl, w.before _ s = true := fun w h => hts w (List.mem_cons_of_mem _ h)
  have hl : lv_has ls 7 [(0, .ref (ad 75)), (1, .int x1), (2, .int x2)] := hl
  refine lv_aload_n hx hb dX5_go_0 rfl (lv_at hl 0 rfl) ?_
  refine va_get (D := D) (ci := 5) (v := .int (I 75 1)) (C := RX5) (T := TX5) (N := 26) hx hb hts inX5 hown hK hP 75 (mq_X isO_75) rfl 22 (by decide) (hts _ k_297) (fun _ h9 => h9) rfl dX5_go_1 ?_
  refine lv_aload_n hx hb dX5_go_4 rfl (lv_at hl 0 rfl) ?_
  refine va_get (D := D) (ci := 5) (v := .ref (ad 76)) (C := RX5) (T := TX5) (N := 26) hx hb hts inX5 hown hK hP 75 (mq_X isO_75) rfl 0 (by decide) (hts _ k_275) (fun _ h9 => h9) rfl dX5_go_5 ?_
  refine lv_iload_n hx hb dX5_go_8 rfl (lv_at hl 1 rfl) ?_
  have g1 := ok.1
  have ok := ok.2
  refine va_iald hx hb hK hP 76 0 (mq_A iA_76) rfl g1 dX5_go_9 ?_
  refine lv_icmp_lt (tgt := 15) hx hb dX5_go_10 (by decide) (fun c2 => ?_) (fun c2 => ?_)
  · have ok := ok.1 c2
    refine lv_bipush (v := 16) hx hb dX5_go_15 (by decide) ?_
    refine lv_iload_n hx hb dX5_go_17 rfl (lv_at hl 1 rfl) ?_
    refine lv_imul hx hb dX5_go_18 ?_
    refine lv_aload_n hx hb dX5_go_19 rfl (lv_at hl 0 rfl) ?_
    refine va_get (D := D) (ci := 5) (v := .int (I 75 1)) (C := RX5) (T := TX5) (N := 26) hx hb hts inX5 hown hK hP 75 (mq_X isO_75) rfl 22 (by decide) (hts _ k_297) (fun _ h9 => h9) rfl dX5_go_20 ?_
    refine lv_iadd hx hb dX5_go_23 ?_
    refine lv_istore_n (lv' := [(3, .int ((16 * x1) + (I 75 1))), (0, .ref (ad 75)), (1, .int x1), (2, .int x2)]) hx hb dX5_go_24 rfl hl (by decide) rfl (fun ls hl => ?_)
    refine lv_aload_n hx hb dX5_go_25 rfl (lv_at hl 1 rfl) ?_
    refine va_get (D := D) (ci := 5) (v := .ref (ad 78)) (C := RX5) (T := TX5) (N := 26) hx hb hts inX5 hown hK hP 75 (mq_X isO_75) rfl 2 (by decide) (hts _ k_277) (fun _ h9 => h9) rfl dX5_go_26 ?_
    refine lv_iload_n hx hb dX5_go_29 rfl (lv_at hl 0 rfl) ?_
    have g3 := ok.1
    have ok := ok.2
    refine va_iald hx hb hK hP 78 0 (mq_A iA_78) rfl g3 dX5_go_30 ?_
    refine lv_istore (lv' := [(4, .int (I 78 (((16 * x1) + (I 75 1)).toNatClampNeg))), (3, .int ((16 * x1) + (I 75 1))), (0, .ref (ad 75)), (1, .int x1), (2, .int x2)]) hx hb dX5_go_31 hl (by decide) rfl (fun ls hl => ?_)
    refine lv_aload_n hx hb dX5_go_33 rfl (lv_at hl 2 rfl) ?_
    refine va_get (D := D) (ci := 5) (v := .ref (ad 79)) (C := RX5) (T := TX5) (N := 26) hx hb hts inX5 hown hK hP 75 (mq_X isO_75) rfl 3 (by decide) (hts _ k_278) (fun _ h9 => h9) rfl dX5_go_34 ?_
    refine lv_iload_n hx hb dX5_go_37 rfl (lv_at hl 1 rfl) ?_
    refine va_iald hx hb hK hP 79 0 (mq_A iA_79) rfl g3 dX5_go_38 ?_
    refine lv_istore (lv' := [(5, .int (I 79 (((16 * x1) + (I 75 1)).toNatClampNeg))), (4, .int (I 78 (((16 * x1) + (I 75 1)).toNatClampNeg))), (3, .int ((16 * x1) + (I 75 1))), (0, .ref (ad 75)), (1, .int x1), (2, .int x2)]) hx hb dX5_go_39 hl (by decide) rfl (fun ls hl => ?_)
    refine lv_aload_n hx hb dX5_go_41 rfl (lv_at hl 3 rfl) ?_
    refine va_get (D := D) (ci := 5) (v := .int (I 75 1)) (C := RX5) (T := TX5) (N := 26) hx hb hts inX5 hown hK hP 75 (mq_X isO_75) rfl 22 (by decide) (hts _ k_297) (fun _ h9 => h9) rfl dX5_go_42 ?_
    refine lv_iconst (v := 1) hx hb dX5_go_45 (by decide) ?_
    refine lv_iadd hx hb dX5_go_46 ?_
    refine lv_istore (lv' := [(6, .int ((I 75 1) + 1)), (5, .int (I 79 (((16 * x1) + (I 75 1)).toNatClampNeg))), (4, .int (I 78 (((16 * x1) + (I 75 1)).toNatClampNeg))), (3, .int ((16 * x1) + (I 75 1))), (0, .ref (ad 75)), (1, .int x1), (2, .int x2)]) hx hb dX5_go_47 hl (by decide) rfl (fun ls hl => ?_)
    refine lv_aload_n hx hb dX5_go_49 rfl (lv_at hl 4 rfl) ?_
    refine va_get (D := D) (ci := 5) (v := .ref (ad 77)) (C := RX5) (T := TX5) (N := 26) hx hb hts inX5 hown hK hP 75 (mq_X isO_75) rfl 1 (by decide) (hts _ k_276) (fun _ h9 => h9) rfl dX5_go_50 ?_
    refine lv_iload_n hx hb dX5_go_53 rfl (lv_at hl 3 rfl) ?_
    refine va_iald hx hb hK hP 77 0 (mq_A iA_77) rfl g3 dX5_go_54 ?_
    by_cases c4 : (I 77 (((16 * x1) + (I 75 1)).toNatClampNeg)) = 0
    · have ok := ok.1 c4
      refine lv_tableIn (tgt := 96) (off := 41) hx hb dX5_go_55 (by rw [c4]; decide) (by rw [c4]; decide) (by rw [c4]; rfl) (by decide) ?_
      refine lv_aload_n hx hb dX5_go_96 rfl (lv_at hl 4 rfl) ?_
      refine va_get (D := D) (ci := 5) (v := .ref (ad 95)) (C := RX5) (T := TX5) (N := 26) hx hb hts inX5 hown hK hP 75 (mq_X isO_75) rfl 20 (by decide) (hts _ k_295) (fun _ h9 => h9) rfl dX5_go_97 ?_
      refine lv_iload hx hb dX5_go_100 (lv_at hl 2 rfl) ?_
      refine lv_iload hx hb dX5_go_102 (lv_at hl 1 rfl) ?_
      have g5 := ok
      refine va_iast hx hb hK hP (mD hi) hS 95 0 (mq_A iA_95) rfl g5 dX5_go_104 (fun H locs hP _ hS => ?_)
      have hP := ms_A iA_95 hP
      have hP : va_P D vwCl (mw 97 ad (gs cs ad (m_X_go_1 I x1 x2))) H := hP
      refine lv_goto (tgt := 338) hx hb dX5_go_105 (by decide) ?_
      refine lv_aload_n hx hb dX5_go_338 rfl (lv_at hl 4 rfl) ?_
      refine lv_iload hx hb dX5_go_339 (lv_at hl 0 rfl) ?_
      refine va_put (D := D) (ci := 5) (v := .int ((I 75 1) + 1)) (ty := .int) (C := RX5) (T := TX5) (N := 26) hx hb hts inX5 tyX5 tyX5_ok nmX5 hown hK hP (mD hi) hS 75 (mq_X isO_75) rfl 22 (by decide) (hts _ k_297) (fun _ h9 => h9) rfl (by decide +kernel) rfl rfl (Nat.le_of_ble_eq_true rfl) dX5_go_341 (fun H locs hP _ hS => ?_)
      have hP := ms_X1 isO_75 hP
      have hP : va_P D vwCl (mw 97 ad (gs cs ad (m_X_go_2 I x1 x2))) H := hP
      refine lv_aload_n hx hb dX5_go_344 rfl (lv_at hl 4 rfl) ?_
      refine lv_dup hx hb dX5_go_345 rfl ?_
      refine va_get (D := D) (ci := 5) (v := .int ((m_X_go_2 I x1 x2) 75 4)) (C := RX5) (T := TX5) (N := 26) hx hb hts inX5 hown hK hP 75 (mq_X isO_75) rfl 25 (by decide) (hts _ k_300) (fun _ h9 => h9) rfl dX5_go_346 ?_
      refine lv_iconst (v := 1) hx hb dX5_go_349 (by decide) ?_
      refine lv_iadd hx hb dX5_go_350 ?_
      refine va_put (D := D) (ci := 5) (v := .int (((m_X_go_2 I x1 x2) 75 4) + 1)) (ty := .int) (C := RX5) (T := TX5) (N := 26) hx hb hts inX5 tyX5 tyX5_ok nmX5 hown hK hP (mD hi) hS 75 (mq_X isO_75) rfl 25 (by decide) (hts _ k_300) (fun _ h9 => h9) rfl (by decide +kernel) rfl rfl (Nat.le_of_ble_eq_true rfl) dX5_go_351 (fun H locs hP _ hS => ?_)
      have hP := ms_X4 isO_75 hP
      have hP : va_P D vwCl (mw 97 ad (gs cs ad (m_X_go_3 I x1 x2))) H := hP
      refine lv_iconst (v := 1) hx hb dX5_go_354 (by decide) ?_
      exact q_iret hx hb hr hlocks dX5_go_355 hP hS (by rw [f_X_go, if_pos c2, if_pos c4])
    · have ok := ok.2 c4
      by_cases c6 : (I 77 (((16 * x1) + (I 75 1)).toNatClampNeg)) = 1
      · have ok := ok.1 c6
        refine lv_tableIn (tgt := 108) (off := 53) hx hb dX5_go_55 (by rw [c6]; decide) (by rw [c6]; decide) (by rw [c6]; rfl) (by decide) ?_
        refine lv_aload_n hx hb dX5_go_108 rfl (lv_at hl 4 rfl) ?_
        refine va_get (D := D) (ci := 5) (v := .ref (ad 95)) (C := RX5) (T := TX5) (N := 26) hx hb hts inX5 hown hK hP 75 (mq_X isO_75) rfl 20 (by decide) (hts _ k_295) (fun _ h9 => h9) rfl dX5_go_109 ?_
        refine lv_iload hx hb dX5_go_112 (lv_at hl 2 rfl) ?_
        refine lv_aload_n hx hb dX5_go_114 rfl (lv_at hl 4 rfl) ?_
        refine va_get (D := D) (ci := 5) (v := .ref (ad 95)) (C := RX5) (T := TX5) (N := 26) hx hb hts inX5 hown hK hP 75 (mq_X isO_75) rfl 20 (by decide) (hts _ k_295) (fun _ h9 => h9) rfl dX5_go_115 ?_
        refine lv_iload hx hb dX5_go_118 (lv_at hl 2 rfl) ?_
        have g7 := ok.1
        have ok := ok.2
        refine va_iald hx hb hK hP 95 0 (mq_A iA_95) rfl g7 dX5_go_120 ?_
        refine lv_aload_n hx hb dX5_go_121 rfl (lv_at hl 4 rfl) ?_
        refine va_get (D := D) (ci := 5) (v := .ref (ad 95)) (C := RX5) (T := TX5) (N := 26) hx hb hts inX5 hown hK hP 75 (mq_X isO_75) rfl 20 (by decide) (hts _ k_295) (fun _ h9 => h9) rfl dX5_go_122 ?_
        refine lv_iload hx hb dX5_go_125 (lv_at hl 1 rfl) ?_
        have g8 := ok
        refine va_iald hx hb hK hP 95 0 (mq_A iA_95) rfl g8 dX5_go_127 ?_
        refine lv_iadd hx hb dX5_go_128 ?_
        refine va_iast hx hb hK hP (mD hi) hS 95 0 (mq_A iA_95) rfl g7 dX5_go_129 (fun H locs hP _ hS => ?_)
        have hP := ms_A iA_95 hP
        have hP : va_P D vwCl (mw 97 ad (gs cs ad (m_X_go_4 I x1 x2))) H := hP
        refine lv_goto (tgt := 338) hx hb dX5_go_130 (by decide) ?_
        refine lv_aload_n hx hb dX5_go_338 rfl (lv_at hl 4 rfl) ?_
        refine lv_iload hx hb dX5_go_339 (lv_at hl 0 rfl) ?_
        refine va_put (D := D) (ci := 5) (v := .int ((I 75 1) + 1)) (ty := .int) (C := RX5) (T := TX5) (N := 26) hx hb hts inX5 tyX5 tyX5_ok nmX5 hown hK hP (mD hi) hS 75 (mq_X isO_75) rfl 22 (by decide) (hts _ k_297) (fun _ h9 => h9) rfl (by decide +kernel) rfl rfl (Nat.le_of_ble_eq_true rfl) dX5_go_341 (fun H locs hP _ hS => ?_)
        have hP := ms_X1 isO_75 hP
        have hP : va_P D vwCl (mw 97 ad (gs cs ad (m_X_go_5 I x1 x2))) H := hP
        refine lv_aload_n hx hb dX5_go_344 rfl (lv_at hl 4 rfl) ?_
        refine lv_dup hx hb dX5_go_345 rfl ?_
        refine va_get (D := D) (ci := 5) (v := .int ((m_X_go_5 I x1 x2) 75 4)) (C := RX5) (T := TX5) (N := 26) hx hb hts inX5 hown hK hP 75 (mq_X isO_75) rfl 25 (by decide) (hts _ k_300) (fun _ h9 => h9) rfl dX5_go_346 ?_
        refine lv_iconst (v := 1) hx hb dX5_go_349 (by decide) ?_
        refine lv_iadd hx hb dX5_go_350 ?_
        refine va_put (D := D) (ci := 5) (v := .int (((m_X_go_5 I x1 x2) 75 4) + 1)) (ty := .int) (C := RX5) (T := TX5) (N := 26) hx hb hts inX5 tyX5 tyX5_ok nmX5 hown hK hP (mD hi) hS 75 (mq_X isO_75) rfl 25 (by decide) (hts _ k_300) (fun _ h9 => h9) rfl (by decide +kernel) rfl rfl (Nat.le_of_ble_eq_true rfl) dX5_go_351 (fun H locs hP _ hS => ?_)
        have hP := ms_X4 isO_75 hP
        have hP : va_P D vwCl (mw 97 ad (gs cs ad (m_X_go_6 I x1 x2))) H := hP
        refine lv_iconst (v := 1) hx hb dX5_go_354 (by decide) ?_
        exact q_iret hx hb hr hlocks dX5_go_355 hP hS (by rw [f_X_go, if_pos c2, if_neg c4, if_pos c6])
      · have ok := ok.2 c6
        by_cases c9 : (I 77 (((16 * x1) + (I 75 1)).toNatClampNeg)) = 2
        · have ok := ok.1 c9
          refine lv_tableIn (tgt := 133) (off := 78) hx hb dX5_go_55 (by rw [c9]; decide) (by rw [c9]; decide) (by rw [c9]; rfl) (by decide) ?_
          refine lv_aload_n hx hb dX5_go_133 rfl (lv_at hl 4 rfl) ?_
          refine va_get (D := D) (ci := 5) (v := .ref (ad 95)) (C := RX5) (T := TX5) (N := 26) hx hb hts inX5 hown hK hP 75 (mq_X isO_75) rfl 20 (by decide) (hts _ k_295) (fun _ h9 => h9) rfl dX5_go_134 ?_
          refine lv_iload hx hb dX5_go_137 (lv_at hl 2 rfl) ?_
          refine lv_aload_n hx hb dX5_go_139 rfl (lv_at hl 4 rfl) ?_
          refine va_get (D := D) (ci := 5) (v := .ref (ad 95)) (C := RX5) (T := TX5) (N := 26) hx hb hts inX5 hown hK hP 75 (mq_X isO_75) rfl 20 (by decide) (hts _ k_295) (fun _ h9 => h9) rfl dX5_go_140 ?_
          refine lv_iload hx hb dX5_go_143 (lv_at hl 2 rfl) ?_
          have g10 := ok.1
          have ok := ok.2
          refine va_iald hx hb hK hP 95 0 (mq_A iA_95) rfl g10 dX5_go_145 ?_
          refine lv_aload_n hx hb dX5_go_146 rfl (lv_at hl 4 rfl) ?_
          refine va_get (D := D) (ci := 5) (v := .ref (ad 95)) (C := RX5) (T := TX5) (N := 26) hx hb hts inX5 hown hK hP 75 (mq_X isO_75) rfl 20 (by decide) (hts _ k_295) (fun _ h9 => h9) rfl dX5_go_147 ?_
          refine lv_iload hx hb dX5_go_150 (lv_at hl 1 rfl) ?_
          have g11 := ok
          refine va_iald hx hb hK hP 95 0 (mq_A iA_95) rfl g11 dX5_go_152 ?_
          refine lv_imul hx hb dX5_go_153 ?_
          refine va_iast hx hb hK hP (mD hi) hS 95 0 (mq_A iA_95) rfl g10 dX5_go_154 (fun H locs hP _ hS => ?_)
          have hP := ms_A iA_95 hP
          have hP : va_P D vwCl (mw 97 ad (gs cs ad (m_X_go_7 I x1 x2))) H := hP
          refine lv_goto (tgt := 338) hx hb dX5_go_155 (by decide) ?_
          refine lv_aload_n hx hb dX5_go_338 rfl (lv_at hl 4 rfl) ?_
          refine lv_iload hx hb dX5_go_339 (lv_at hl 0 rfl) ?_
          refine va_put (D := D) (ci := 5) (v := .int ((I 75 1) + 1)) (ty := .int) (C := RX5) (T := TX5) (N := 26) hx hb hts inX5 tyX5 tyX5_ok nmX5 hown hK hP (mD hi) hS 75 (mq_X isO_75) rfl 22 (by decide) (hts _ k_297) (fun _ h9 => h9) rfl (by decide +kernel) rfl rfl (Nat.le_of_ble_eq_true rfl) dX5_go_341 (fun H locs hP _ hS => ?_)
          have hP := ms_X1 isO_75 hP
          have hP : va_P D vwCl (mw 97 ad (gs cs ad (m_X_go_8 I x1 x2))) H := hP
          refine lv_aload_n hx hb dX5_go_344 rfl (lv_at hl 4 rfl) ?_
          refine lv_dup hx hb dX5_go_345 rfl ?_
          refine va_get (D := D) (ci := 5) (v := .int ((m_X_go_8 I x1 x2) 75 4)) (C := RX5) (T := TX5) (N := 26) hx hb hts inX5 hown hK hP 75 (mq_X isO_75) rfl 25 (by decide) (hts _ k_300) (fun _ h9 => h9) rfl dX5_go_346 ?_
          refine lv_iconst (v := 1) hx hb dX5_go_349 (by decide) ?_
          refine lv_iadd hx hb dX5_go_350 ?_
          refine va_put (D := D) (ci := 5) (v := .int (((m_X_go_8 I x1 x2) 75 4) + 1)) (ty := .int) (C := RX5) (T := TX5) (N := 26) hx hb hts inX5 tyX5 tyX5_ok nmX5 hown hK hP (mD hi) hS 75 (mq_X isO_75) rfl 25 (by decide) (hts _ k_300) (fun _ h9 => h9) rfl (by decide +kernel) rfl rfl (Nat.le_of_ble_eq_true rfl) dX5_go_351 (fun H locs hP _ hS => ?_)
          have hP := ms_X4 isO_75 hP
          have hP : va_P D vwCl (mw 97 ad (gs cs ad (m_X_go_9 I x1 x2))) H := hP
          refine lv_iconst (v := 1) hx hb dX5_go_354 (by decide) ?_
          exact q_iret hx hb hr hlocks dX5_go_355 hP hS (by rw [f_X_go, if_pos c2, if_neg c4, if_neg c6, if_pos c9])
        · have ok := ok.2 c9
          by_cases c12 : (I 77 (((16 * x1) + (I 75 1)).toNatClampNeg)) = 3
          · have ok := ok.1 c12
            refine lv_tableIn (tgt := 158) (off := 103) hx hb dX5_go_55 (by rw [c12]; decide) (by rw [c12]; decide) (by rw [c12]; rfl) (by decide) ?_
            refine lv_aload_n hx hb dX5_go_158 rfl (lv_at hl 4 rfl) ?_
            refine va_get (D := D) (ci := 5) (v := .ref (ad 95)) (C := RX5) (T := TX5) (N := 26) hx hb hts inX5 hown hK hP 75 (mq_X isO_75) rfl 20 (by decide) (hts _ k_295) (fun _ h9 => h9) rfl dX5_go_159 ?_
            refine lv_iload hx hb dX5_go_162 (lv_at hl 2 rfl) ?_
            have g13 := ok.1
            have ok := ok.2
            refine va_iald hx hb hK hP 95 0 (mq_A iA_95) rfl g13 dX5_go_164 ?_
            refine lv_aload_n hx hb dX5_go_165 rfl (lv_at hl 4 rfl) ?_
            refine va_get (D := D) (ci := 5) (v := .ref (ad 95)) (C := RX5) (T := TX5) (N := 26) hx hb hts inX5 hown hK hP 75 (mq_X isO_75) rfl 20 (by decide) (hts _ k_295) (fun _ h9 => h9) rfl dX5_go_166 ?_
            refine lv_iload hx hb dX5_go_169 (lv_at hl 1 rfl) ?_
            have g14 := ok
            refine va_iald hx hb hK hP 95 0 (mq_A iA_95) rfl g14 dX5_go_171 ?_
            refine lv_icmp_ge (tgt := 184) hx hb dX5_go_172 (by decide) (fun c15 => ?_) (fun c15 => ?_)
            · have c15 := c15
              refine lv_iload hx hb dX5_go_184 (lv_at hl 0 rfl) ?_
              refine lv_istore (lv' := [(6, .int ((I 75 1) + 1)), (5, .int (I 79 (((16 * x1) + (I 75 1)).toNatClampNeg))), (4, .int (I 78 (((16 * x1) + (I 75 1)).toNatClampNeg))), (3, .int ((16 * x1) + (I 75 1))), (0, .ref (ad 75)), (1, .int x1), (2, .int x2)]) hx hb dX5_go_186 hl (by decide) rfl (fun ls hl => ?_)
              refine lv_goto (tgt := 338) hx hb dX5_go_188 (by decide) ?_
              refine lv_aload_n hx hb dX5_go_338 rfl (lv_at hl 4 rfl) ?_
              refine lv_iload hx hb dX5_go_339 (lv_at hl 0 rfl) ?_
              refine va_put (D := D) (ci := 5) (v := .int ((I 75 1) + 1)) (ty := .int) (C := RX5) (T := TX5) (N := 26) hx hb hts inX5 tyX5 tyX5_ok nmX5 hown hK hP (mD hi) hS 75 (mq_X isO_75) rfl 22 (by decide) (hts _ k_297) (fun _ h9 => h9) rfl (by decide +kernel) rfl rfl (Nat.le_of_ble_eq_true rfl) dX5_go_341 (fun H locs hP _ hS => ?_)
              have hP := ms_X1 isO_75 hP
              have hP : va_P D vwCl (mw 97 ad (gs cs ad (m_X_go_10 I x1 x2))) H := hP
              refine lv_aload_n hx hb dX5_go_344 rfl (lv_at hl 4 rfl) ?_
              refine lv_dup hx hb dX5_go_345 rfl ?_
              refine va_get (D := D) (ci := 5) (v := .int ((m_X_go_10 I x1 x2) 75 4)) (C := RX5) (T := TX5) (N := 26) hx hb hts inX5 hown hK hP 75 (mq_X isO_75) rfl 25 (by decide) (hts _ k_300) (fun _ h9 => h9) rfl dX5_go_346 ?_
              refine lv_iconst (v := 1) hx hb dX5_go_349 (by decide) ?_
              refine lv_iadd hx hb dX5_go_350 ?_
              refine va_put (D := D) (ci := 5) (v := .int (((m_X_go_10 I x1 x2) 75 4) + 1)) (ty := .int) (C := RX5) (T := TX5) (N := 26) hx hb hts inX5 tyX5 tyX5_ok nmX5 hown hK hP (mD hi) hS 75 (mq_X isO_75) rfl 25 (by decide) (hts _ k_300) (fun _ h9 => h9) rfl (by decide +kernel) rfl rfl (Nat.le_of_ble_eq_true rfl) dX5_go_351 (fun H locs hP _ hS => ?_)
              have hP := ms_X4 isO_75 hP
              have hP : va_P D vwCl (mw 97 ad (gs cs ad (m_X_go_11 I x1 x2))) H := hP
              refine lv_iconst (v := 1) hx hb dX5_go_354 (by decide) ?_
              exact q_iret hx hb hr hlocks dX5_go_355 hP hS (by rw [f_X_go, if_pos c2, if_neg c4, if_neg c6, if_neg c9, if_pos c12, if_pos c15])
            · have c15 := c15
              refine lv_aload_n hx hb dX5_go_175 rfl (lv_at hl 4 rfl) ?_
              refine va_get (D := D) (ci := 5) (v := .int (I 75 1)) (C := RX5) (T := TX5) (N := 26) hx hb hts inX5 hown hK hP 75 (mq_X isO_75) rfl 22 (by decide) (hts _ k_297) (fun _ h9 => h9) rfl dX5_go_176 ?_
              refine lv_iconst (v := 2) hx hb dX5_go_179 (by decide) ?_
              refine lv_iadd hx hb dX5_go_180 ?_
              refine lv_goto (tgt := 186) hx hb dX5_go_181 (by decide) ?_
              refine lv_istore (lv' := [(6, .int ((I 75 1) + 2)), (5, .int (I 79 (((16 * x1) + (I 75 1)).toNatClampNeg))), (4, .int (I 78 (((16 * x1) + (I 75 1)).toNatClampNeg))), (3, .int ((16 * x1) + (I 75 1))), (0, .ref (ad 75)), (1, .int x1), (2, .int x2)]) hx hb dX5_go_186 hl (by decide) rfl (fun ls hl => ?_)
              refine lv_goto (tgt := 338) hx hb dX5_go_188 (by decide) ?_
              refine lv_aload_n hx hb dX5_go_338 rfl (lv_at hl 4 rfl) ?_
              refine lv_iload hx hb dX5_go_339 (lv_at hl 0 rfl) ?_
              refine va_put (D := D) (ci := 5) (v := .int ((I 75 1) + 2)) (ty := .int) (C := RX5) (T := TX5) (N := 26) hx hb hts inX5 tyX5 tyX5_ok nmX5 hown hK hP (mD hi) hS 75 (mq_X isO_75) rfl 22 (by decide) (hts _ k_297) (fun _ h9 => h9) rfl (by decide +kernel) rfl rfl (Nat.le_of_ble_eq_true rfl) dX5_go_341 (fun H locs hP _ hS => ?_)
              have hP := ms_X1 isO_75 hP
              have hP : va_P D vwCl (mw 97 ad (gs cs ad (m_X_go_12 I x1 x2))) H := hP
              refine lv_aload_n hx hb dX5_go_344 rfl (lv_at hl 4 rfl) ?_
              refine lv_dup hx hb dX5_go_345 rfl ?_
              refine va_get (D := D) (ci := 5) (v := .int ((m_X_go_12 I x1 x2) 75 4)) (C := RX5) (T := TX5) (N := 26) hx hb hts inX5 hown hK hP 75 (mq_X isO_75) rfl 25 (by decide) (hts _ k_300) (fun _ h9 => h9) rfl dX5_go_346 ?_
              refine lv_iconst (v := 1) hx hb dX5_go_349 (by decide) ?_
              refine lv_iadd hx hb dX5_go_350 ?_
              refine va_put (D := D) (ci := 5) (v := .int (((m_X_go_12 I x1 x2) 75 4) + 1)) (ty := .int) (C := RX5) (T := TX5) (N := 26) hx hb hts inX5 tyX5 tyX5_ok nmX5 hown hK hP (mD hi) hS 75 (mq_X isO_75) rfl 25 (by decide) (hts _ k_300) (fun _ h9 => h9) rfl (by decide +kernel) rfl rfl (Nat.le_of_ble_eq_true rfl) dX5_go_351 (fun H locs hP _ hS => ?_)
              have hP := ms_X4 isO_75 hP
              have hP : va_P D vwCl (mw 97 ad (gs cs ad (m_X_go_13 I x1 x2))) H := hP
              refine lv_iconst (v := 1) hx hb dX5_go_354 (by decide) ?_
              exact q_iret hx hb hr hlocks dX5_go_355 hP hS (by rw [f_X_go, if_pos c2, if_neg c4, if_neg c6, if_neg c9, if_pos c12, if_neg c15])
          · have ok := ok.2 c12
            by_cases c16 : (I 77 (((16 * x1) + (I 75 1)).toNatClampNeg)) = 4
            · have ok := ok.1 c16
              refine lv_tableIn (tgt := 191) (off := 136) hx hb dX5_go_55 (by rw [c16]; decide) (by rw [c16]; decide) (by rw [c16]; rfl) (by decide) ?_
              refine lv_iload hx hb dX5_go_191 (lv_at hl 2 rfl) ?_
              refine lv_istore (lv' := [(6, .int (I 78 (((16 * x1) + (I 75 1)).toNatClampNeg))), (5, .int (I 79 (((16 * x1) + (I 75 1)).toNatClampNeg))), (4, .int (I 78 (((16 * x1) + (I 75 1)).toNatClampNeg))), (3, .int ((16 * x1) + (I 75 1))), (0, .ref (ad 75)), (1, .int x1), (2, .int x2)]) hx hb dX5_go_193 hl (by decide) rfl (fun ls hl => ?_)
              refine lv_goto (tgt := 338) hx hb dX5_go_195 (by decide) ?_
              refine lv_aload_n hx hb dX5_go_338 rfl (lv_at hl 4 rfl) ?_
              refine lv_iload hx hb dX5_go_339 (lv_at hl 0 rfl) ?_
              refine va_put (D := D) (ci := 5) (v := .int (I 78 (((16 * x1) + (I 75 1)).toNatClampNeg))) (ty := .int) (C := RX5) (T := TX5) (N := 26) hx hb hts inX5 tyX5 tyX5_ok nmX5 hown hK hP (mD hi) hS 75 (mq_X isO_75) rfl 22 (by decide) (hts _ k_297) (fun _ h9 => h9) rfl (by decide +kernel) rfl rfl (Nat.le_of_ble_eq_true rfl) dX5_go_341 (fun H locs hP _ hS => ?_)
              have hP := ms_X1 isO_75 hP
              have hP : va_P D vwCl (mw 97 ad (gs cs ad (m_X_go_14 I x1 x2))) H := hP
              refine lv_aload_n hx hb dX5_go_344 rfl (lv_at hl 4 rfl) ?_
              refine lv_dup hx hb dX5_go_345 rfl ?_
              refine va_get (D := D) (ci := 5) (v := .int ((m_X_go_14 I x1 x2) 75 4)) (C := RX5) (T := TX5) (N := 26) hx hb hts inX5 hown hK hP 75 (mq_X isO_75) rfl 25 (by decide) (hts _ k_300) (fun _ h9 => h9) rfl dX5_go_346 ?_
              refine lv_iconst (v := 1) hx hb dX5_go_349 (by decide) ?_
              refine lv_iadd hx hb dX5_go_350 ?_
              refine va_put (D := D) (ci := 5) (v := .int (((m_X_go_14 I x1 x2) 75 4) + 1)) (ty := .int) (C := RX5) (T := TX5) (N := 26) hx hb hts inX5 tyX5 tyX5_ok nmX5 hown hK hP (mD hi) hS 75 (mq_X isO_75) rfl 25 (by decide) (hts _ k_300) (fun _ h9 => h9) rfl (by decide +kernel) rfl rfl (Nat.le_of_ble_eq_true rfl) dX5_go_351 (fun H locs hP _ hS => ?_)
              have hP := ms_X4 isO_75 hP
              have hP : va_P D vwCl (mw 97 ad (gs cs ad (m_X_go_15 I x1 x2))) H := hP
              refine lv_iconst (v := 1) hx hb dX5_go_354 (by decide) ?_
              exact q_iret hx hb hr hlocks dX5_go_355 hP hS (by rw [f_X_go, if_pos c2, if_neg c4, if_neg c6, if_neg c9, if_neg c12, if_pos c16])
            · have ok := ok.2 c16
              by_cases c17 : (I 77 (((16 * x1) + (I 75 1)).toNatClampNeg)) = 5
              · have ok := ok.1 c17
                refine lv_tableIn (tgt := 198) (off := 143) hx hb dX5_go_55 (by rw [c17]; decide) (by rw [c17]; decide) (by rw [c17]; rfl) (by decide) ?_
                refine lv_iload_n hx hb dX5_go_198 rfl (lv_at hl 6 rfl) ?_
                refine lv_if_ne (tgt := 221) hx hb dX5_go_199 (by decide) (fun c18 => ?_) (fun c18 => ?_)
                · have ok := ok.2 c18
                  refine lv_aload_n hx hb dX5_go_221 rfl (lv_at hl 4 rfl) ?_
                  refine va_get (D := D) (ci := 5) (v := .ref (ad 96)) (C := RX5) (T := TX5) (N := 26) hx hb hts inX5 hown hK hP 75 (mq_X isO_75) rfl 21 (by decide) (hts _ k_296) (fun _ h9 => h9) rfl dX5_go_222 ?_
                  refine lv_iload hx hb dX5_go_225 (lv_at hl 2 rfl) ?_
                  refine lv_dup2_11 hx hb dX5_go_227 rfl rfl ?_
                  have g19 := ok
                  refine va_iald hx hb hK hP 96 0 (mq_A iA_96) rfl g19 dX5_go_228 ?_
                  refine lv_iconst (v := 1) hx hb dX5_go_229 (by decide) ?_
                  refine lv_iadd hx hb dX5_go_230 ?_
                  refine va_iast hx hb hK hP (mD hi) hS 96 0 (mq_A iA_96) rfl g19 dX5_go_231 (fun H locs hP _ hS => ?_)
                  have hP := ms_A iA_96 hP
                  have hP : va_P D vwCl (mw 97 ad (gs cs ad (m_X_go_16 I x1 x2))) H := hP
                  refine lv_goto (tgt := 338) hx hb dX5_go_232 (by decide) ?_
                  refine lv_aload_n hx hb dX5_go_338 rfl (lv_at hl 4 rfl) ?_
                  refine lv_iload hx hb dX5_go_339 (lv_at hl 0 rfl) ?_
                  refine va_put (D := D) (ci := 5) (v := .int ((I 75 1) + 1)) (ty := .int) (C := RX5) (T := TX5) (N := 26) hx hb hts inX5 tyX5 tyX5_ok nmX5 hown hK hP (mD hi) hS 75 (mq_X isO_75) rfl 22 (by decide) (hts _ k_297) (fun _ h9 => h9) rfl (by decide +kernel) rfl rfl (Nat.le_of_ble_eq_true rfl) dX5_go_341 (fun H locs hP _ hS => ?_)
                  have hP := ms_X1 isO_75 hP
                  have hP : va_P D vwCl (mw 97 ad (gs cs ad (m_X_go_17 I x1 x2))) H := hP
                  refine lv_aload_n hx hb dX5_go_344 rfl (lv_at hl 4 rfl) ?_
                  refine lv_dup hx hb dX5_go_345 rfl ?_
                  refine va_get (D := D) (ci := 5) (v := .int ((m_X_go_17 I x1 x2) 75 4)) (C := RX5) (T := TX5) (N := 26) hx hb hts inX5 hown hK hP 75 (mq_X isO_75) rfl 25 (by decide) (hts _ k_300) (fun _ h9 => h9) rfl dX5_go_346 ?_
                  refine lv_iconst (v := 1) hx hb dX5_go_349 (by decide) ?_
                  refine lv_iadd hx hb dX5_go_350 ?_
                  refine va_put (D := D) (ci := 5) (v := .int (((m_X_go_17 I x1 x2) 75 4) + 1)) (ty := .int) (C := RX5) (T := TX5) (N := 26) hx hb hts inX5 tyX5 tyX5_ok nmX5 hown hK hP (mD hi) hS 75 (mq_X isO_75) rfl 25 (by decide) (hts _ k_300) (fun _ h9 => h9) rfl (by decide +kernel) rfl rfl (Nat.le_of_ble_eq_true rfl) dX5_go_351 (fun H locs hP _ hS => ?_)
                  have hP := ms_X4 isO_75 hP
                  have hP : va_P D vwCl (mw 97 ad (gs cs ad (m_X_go_18 I x1 x2))) H := hP
                  refine lv_iconst (v := 1) hx hb dX5_go_354 (by decide) ?_
                  exact q_iret hx hb hr hlocks dX5_go_355 hP hS (by rw [f_X_go, if_pos c2, if_neg c4, if_neg c6, if_neg c9, if_neg c12, if_neg c16, if_pos c17, if_neg c18])
                · have ok := ok.1 c18
                  refine lv_aload_n hx hb dX5_go_202 rfl (lv_at hl 4 rfl) ?_
                  refine lv_iload_n hx hb dX5_go_203 rfl (lv_at hl 5 rfl) ?_
                  refine lv_iload hx hb dX5_go_204 (lv_at hl 2 rfl) ?_
                  refine lv_aload_n hx hb dX5_go_206 rfl (lv_at hl 4 rfl) ?_
                  refine va_get (D := D) (ci := 5) (v := .ref (ad 95)) (C := RX5) (T := TX5) (N := 26) hx hb hts inX5 hown hK hP 75 (mq_X isO_75) rfl 20 (by decide) (hts _ k_295) (fun _ h9 => h9) rfl dX5_go_207 ?_
                  refine lv_iload hx hb dX5_go_210 (lv_at hl 1 rfl) ?_
                  have g20 := ok.1
                  have ok := ok.2
                  refine va_iald hx hb hK hP 95 0 (mq_A iA_95) rfl g20 dX5_go_212 ?_
                  have g21 := ok.1
                  have ok := ok.2
                  refine q_calli (va_runV (As := [.int x1, .int (I 78 (((16 * x1) + (I 75 1)).toNatClampNeg)), .int (I 95 ((I 79 (((16 * x1) + (I 75 1)).toNatClampNeg)).toNatClampNeg))]) (rest := []) ⟨hx, hb, hml, hown, hts⟩ (c_X_sends l D cs ad hi I x1 (I 78 (((16 * x1) + (I 75 1)).toNatClampNeg)) (I 95 ((I 79 (((16 * x1) + (I 75 1)).toNatClampNeg)).toNatClampNeg)) g21) (cwV 3 hts (gV k_368 k_369 k_441 k_6 k_370) rfl rfl rfl (by decide +kernel) ⟨Nat.le_of_ble_eq_true rfl, Nat.le_of_ble_eq_true rfl⟩) (q_preV hK hP (va_recv hK hP (ci := 5) (q0 := 75) rfl (mq_X isO_75))) rfl rfl hl.1 rfl (lv_room (Nat.le_of_ble_eq_true rfl)) dX5_go_213 ⟨Nat.zero_le _, Nat.zero_le _⟩) hS (fun _ h => h) (fun H locs hP hS => ?_)
                  refine lv_if_ne (tgt := 221) hx hb dX5_go_216 (by decide) (fun c22 => ?_) (fun c22 => ?_)
                  · have ok := ok.2 c22
                    refine lv_aload_n hx hb dX5_go_221 rfl (lv_at hl 4 rfl) ?_
                    refine va_get (D := D) (ci := 5) (v := .ref (ad 96)) (C := RX5) (T := TX5) (N := 26) hx hb hts inX5 hown hK hP 75 (mq_X isO_75) rfl 21 (by decide) (hts _ k_296) (fun _ h9 => h9) rfl dX5_go_222 ?_
                    refine lv_iload hx hb dX5_go_225 (lv_at hl 2 rfl) ?_
                    refine lv_dup2_11 hx hb dX5_go_227 rfl rfl ?_
                    have g23 := ok
                    refine va_iald hx hb hK hP 96 0 (mq_A iA_96) rfl g23 dX5_go_228 ?_
                    refine lv_iconst (v := 1) hx hb dX5_go_229 (by decide) ?_
                    refine lv_iadd hx hb dX5_go_230 ?_
                    refine va_iast hx hb hK hP (mD hi) hS 96 0 (mq_A iA_96) rfl g23 dX5_go_231 (fun H locs hP _ hS => ?_)
                    have hP := ms_A iA_96 hP
                    have hP : va_P D vwCl (mw 97 ad (gs cs ad (m_X_go_19 I x1 x2))) H := hP
                    refine lv_goto (tgt := 338) hx hb dX5_go_232 (by decide) ?_
                    refine lv_aload_n hx hb dX5_go_338 rfl (lv_at hl 4 rfl) ?_
                    refine lv_iload hx hb dX5_go_339 (lv_at hl 0 rfl) ?_
                    refine va_put (D := D) (ci := 5) (v := .int ((I 75 1) + 1)) (ty := .int) (C := RX5) (T := TX5) (N := 26) hx hb hts inX5 tyX5 tyX5_ok nmX5 hown hK hP (mD hi) hS 75 (mq_X isO_75) rfl 22 (by decide) (hts _ k_297) (fun _ h9 => h9) rfl (by decide +kernel) rfl rfl (Nat.le_of_ble_eq_true rfl) dX5_go_341 (fun H locs hP _ hS => ?_)
                    have hP := ms_X1 isO_75 hP
                    have hP : va_P D vwCl (mw 97 ad (gs cs ad (m_X_go_20 I x1 x2))) H := hP
                    refine lv_aload_n hx hb dX5_go_344 rfl (lv_at hl 4 rfl) ?_
                    refine lv_dup hx hb dX5_go_345 rfl ?_
                    refine va_get (D := D) (ci := 5) (v := .int ((m_X_go_20 I x1 x2) 75 4)) (C := RX5) (T := TX5) (N := 26) hx hb hts inX5 hown hK hP 75 (mq_X isO_75) rfl 25 (by decide) (hts _ k_300) (fun _ h9 => h9) rfl dX5_go_346 ?_
                    refine lv_iconst (v := 1) hx hb dX5_go_349 (by decide) ?_
                    refine lv_iadd hx hb dX5_go_350 ?_
                    refine va_put (D := D) (ci := 5) (v := .int (((m_X_go_20 I x1 x2) 75 4) + 1)) (ty := .int) (C := RX5) (T := TX5) (N := 26) hx hb hts inX5 tyX5 tyX5_ok nmX5 hown hK hP (mD hi) hS 75 (mq_X isO_75) rfl 25 (by decide) (hts _ k_300) (fun _ h9 => h9) rfl (by decide +kernel) rfl rfl (Nat.le_of_ble_eq_true rfl) dX5_go_351 (fun H locs hP _ hS => ?_)
                    have hP := ms_X4 isO_75 hP
                    have hP : va_P D vwCl (mw 97 ad (gs cs ad (m_X_go_21 I x1 x2))) H := hP
                    refine lv_iconst (v := 1) hx hb dX5_go_354 (by decide) ?_
                    exact q_iret hx hb hr hlocks dX5_go_355 hP hS (by rw [f_X_go, if_pos c2, if_neg c4, if_neg c6, if_neg c9, if_neg c12, if_neg c16, if_pos c17, if_pos c18, if_neg c22])
                  · have ok := ok.1 c22
                    refine lv_iconst (v := 0) hx hb dX5_go_219 (by decide) ?_
                    exact q_iret hx hb hr hlocks dX5_go_220 hP hS (by rw [f_X_go, if_pos c2, if_neg c4, if_neg c6, if_neg c9, if_neg c12, if_neg c16, if_pos c17, if_pos c18, if_pos c22])
              · have ok := ok.2 c17
                by_cases c24 : (I 77 (((16 * x1) + (I 75 1)).toNatClampNeg)) = 6
                · have ok := ok.1 c24
                  refine lv_tableIn (tgt := 235) (off := 180) hx hb dX5_go_55 (by rw [c24]; decide) (by rw [c24]; decide) (by rw [c24]; rfl) (by decide) ?_
                  refine lv_aload_n hx hb dX5_go_235 rfl (lv_at hl 4 rfl) ?_
                  refine va_get (D := D) (ci := 5) (v := .int (I 75 2)) (C := RX5) (T := TX5) (N := 26) hx hb hts inX5 hown hK hP 75 (mq_X isO_75) rfl 23 (by decide) (hts _ k_298) (fun _ h9 => h9) rfl dX5_go_236 ?_
                  refine lv_aload_n hx hb dX5_go_239 rfl (lv_at hl 4 rfl) ?_
                  refine va_get (D := D) (ci := 5) (v := .ref (ad 86)) (C := RX5) (T := TX5) (N := 26) hx hb hts inX5 hown hK hP 75 (mq_X isO_75) rfl 10 (by decide) (hts _ k_285) (fun _ h9 => h9) rfl dX5_go_240 ?_
                  refine lv_iload_n hx hb dX5_go_243 rfl (lv_at hl 5 rfl) ?_
                  refine va_iald hx hb hK hP 86 0 (mq_A iA_86) rfl g1 dX5_go_244 ?_
                  refine lv_icmp_ne (tgt := 250) hx hb dX5_go_245 (by decide) (fun c25 => ?_) (fun c25 => ?_)
                  · have ok := ok.2 c25
                    refine lv_aload_n hx hb dX5_go_250 rfl (lv_at hl 4 rfl) ?_
                    refine va_get (D := D) (ci := 5) (v := .ref (ad 95)) (C := RX5) (T := TX5) (N := 26) hx hb hts inX5 hown hK hP 75 (mq_X isO_75) rfl 20 (by decide) (hts _ k_295) (fun _ h9 => h9) rfl dX5_go_251 ?_
                    refine lv_iload hx hb dX5_go_254 (lv_at hl 1 rfl) ?_
                    refine lv_aload_n hx hb dX5_go_256 rfl (lv_at hl 4 rfl) ?_
                    refine va_get (D := D) (ci := 5) (v := .ref (ad 88)) (C := RX5) (T := TX5) (N := 26) hx hb hts inX5 hown hK hP 75 (mq_X isO_75) rfl 12 (by decide) (hts _ k_287) (fun _ h9 => h9) rfl dX5_go_257 ?_
                    refine lv_sipush (v := 512) hx hb dX5_go_260 (by decide) ?_
                    refine lv_iload_n hx hb dX5_go_263 rfl (lv_at hl 5 rfl) ?_
                    refine lv_imul hx hb dX5_go_264 ?_
                    refine lv_aload_n hx hb dX5_go_265 rfl (lv_at hl 4 rfl) ?_
                    refine va_get (D := D) (ci := 5) (v := .int (I 75 2)) (C := RX5) (T := TX5) (N := 26) hx hb hts inX5 hown hK hP 75 (mq_X isO_75) rfl 23 (by decide) (hts _ k_298) (fun _ h9 => h9) rfl dX5_go_266 ?_
                    refine lv_iadd hx hb dX5_go_269 ?_
                    have g26 := ok.1
                    have ok := ok.2
                    refine va_iald hx hb hK hP 88 0 (mq_A iA_88) rfl g26 dX5_go_270 ?_
                    have g27 := ok.1
                    have ok := ok.2
                    refine va_iast hx hb hK hP (mD hi) hS 95 0 (mq_A iA_95) rfl g27 dX5_go_271 (fun H locs hP _ hS => ?_)
                    have hP := ms_A iA_95 hP
                    have hP : va_P D vwCl (mw 97 ad (gs cs ad (m_X_go_22 I x1 x2))) H := hP
                    refine lv_aload_n hx hb dX5_go_272 rfl (lv_at hl 4 rfl) ?_
                    refine va_get (D := D) (ci := 5) (v := .ref (ad 95)) (C := RX5) (T := TX5) (N := 26) hx hb hts inX5 hown hK hP 75 (mq_X isO_75) rfl 20 (by decide) (hts _ k_295) (fun _ h9 => h9) rfl dX5_go_273 ?_
                    refine lv_iload hx hb dX5_go_276 (lv_at hl 2 rfl) ?_
                    refine lv_aload_n hx hb dX5_go_278 rfl (lv_at hl 4 rfl) ?_
                    refine va_get (D := D) (ci := 5) (v := .ref (ad 87)) (C := RX5) (T := TX5) (N := 26) hx hb hts inX5 hown hK hP 75 (mq_X isO_75) rfl 11 (by decide) (hts _ k_286) (fun _ h9 => h9) rfl dX5_go_279 ?_
                    refine lv_sipush (v := 512) hx hb dX5_go_282 (by decide) ?_
                    refine lv_iload_n hx hb dX5_go_285 rfl (lv_at hl 5 rfl) ?_
                    refine lv_imul hx hb dX5_go_286 ?_
                    refine lv_aload_n hx hb dX5_go_287 rfl (lv_at hl 4 rfl) ?_
                    refine va_get (D := D) (ci := 5) (v := .int ((m_X_go_22 I x1 x2) 75 2)) (C := RX5) (T := TX5) (N := 26) hx hb hts inX5 hown hK hP 75 (mq_X isO_75) rfl 23 (by decide) (hts _ k_298) (fun _ h9 => h9) rfl dX5_go_288 ?_
                    refine lv_iadd hx hb dX5_go_291 ?_
                    have g28 := ok.1
                    have ok := ok.2
                    refine va_iald hx hb hK hP 87 0 (mq_A iA_87) rfl g28 dX5_go_292 ?_
                    have g29 := ok
                    refine va_iast hx hb hK hP (mD hi) hS 95 0 (mq_A iA_95) rfl g29 dX5_go_293 (fun H locs hP _ hS => ?_)
                    have hP := ms_A iA_95 hP
                    have hP : va_P D vwCl (mw 97 ad (gs cs ad (m_X_go_23 I x1 x2))) H := hP
                    refine lv_aload_n hx hb dX5_go_294 rfl (lv_at hl 4 rfl) ?_
                    refine lv_dup hx hb dX5_go_295 rfl ?_
                    refine va_get (D := D) (ci := 5) (v := .int ((m_X_go_23 I x1 x2) 75 2)) (C := RX5) (T := TX5) (N := 26) hx hb hts inX5 hown hK hP 75 (mq_X isO_75) rfl 23 (by decide) (hts _ k_298) (fun _ h9 => h9) rfl dX5_go_296 ?_
                    refine lv_iconst (v := 1) hx hb dX5_go_299 (by decide) ?_
                    refine lv_iadd hx hb dX5_go_300 ?_
                    refine va_put (D := D) (ci := 5) (v := .int (((m_X_go_23 I x1 x2) 75 2) + 1)) (ty := .int) (C := RX5) (T := TX5) (N := 26) hx hb hts inX5 tyX5 tyX5_ok nmX5 hown hK hP (mD hi) hS 75 (mq_X isO_75) rfl 23 (by decide) (hts _ k_298) (fun _ h9 => h9) rfl (by decide +kernel) rfl rfl (Nat.le_of_ble_eq_true rfl) dX5_go_301 (fun H locs hP _ hS => ?_)
                    have hP := ms_X2 isO_75 hP
                    have hP : va_P D vwCl (mw 97 ad (gs cs ad (m_X_go_24 I x1 x2))) H := hP
                    refine lv_goto (tgt := 338) hx hb dX5_go_304 (by decide) ?_
                    refine lv_aload_n hx hb dX5_go_338 rfl (lv_at hl 4 rfl) ?_
                    refine lv_iload hx hb dX5_go_339 (lv_at hl 0 rfl) ?_
                    refine va_put (D := D) (ci := 5) (v := .int ((I 75 1) + 1)) (ty := .int) (C := RX5) (T := TX5) (N := 26) hx hb hts inX5 tyX5 tyX5_ok nmX5 hown hK hP (mD hi) hS 75 (mq_X isO_75) rfl 22 (by decide) (hts _ k_297) (fun _ h9 => h9) rfl (by decide +kernel) rfl rfl (Nat.le_of_ble_eq_true rfl) dX5_go_341 (fun H locs hP _ hS => ?_)
                    have hP := ms_X1 isO_75 hP
                    have hP : va_P D vwCl (mw 97 ad (gs cs ad (m_X_go_25 I x1 x2))) H := hP
                    refine lv_aload_n hx hb dX5_go_344 rfl (lv_at hl 4 rfl) ?_
                    refine lv_dup hx hb dX5_go_345 rfl ?_
                    refine va_get (D := D) (ci := 5) (v := .int ((m_X_go_25 I x1 x2) 75 4)) (C := RX5) (T := TX5) (N := 26) hx hb hts inX5 hown hK hP 75 (mq_X isO_75) rfl 25 (by decide) (hts _ k_300) (fun _ h9 => h9) rfl dX5_go_346 ?_
                    refine lv_iconst (v := 1) hx hb dX5_go_349 (by decide) ?_
                    refine lv_iadd hx hb dX5_go_350 ?_
                    refine va_put (D := D) (ci := 5) (v := .int (((m_X_go_25 I x1 x2) 75 4) + 1)) (ty := .int) (C := RX5) (T := TX5) (N := 26) hx hb hts inX5 tyX5 tyX5_ok nmX5 hown hK hP (mD hi) hS 75 (mq_X isO_75) rfl 25 (by decide) (hts _ k_300) (fun _ h9 => h9) rfl (by decide +kernel) rfl rfl (Nat.le_of_ble_eq_true rfl) dX5_go_351 (fun H locs hP _ hS => ?_)
                    have hP := ms_X4 isO_75 hP
                    have hP : va_P D vwCl (mw 97 ad (gs cs ad (m_X_go_26 I x1 x2))) H := hP
                    refine lv_iconst (v := 1) hx hb dX5_go_354 (by decide) ?_
                    exact q_iret hx hb hr hlocks dX5_go_355 hP hS (by rw [f_X_go, if_pos c2, if_neg c4, if_neg c6, if_neg c9, if_neg c12, if_neg c16, if_neg c17, if_pos c24, if_neg c25])
                  · have ok := ok.1 c25
                    refine lv_iconst (v := 0) hx hb dX5_go_248 (by decide) ?_
                    exact q_iret hx hb hr hlocks dX5_go_249 hP hS (by rw [f_X_go, if_pos c2, if_neg c4, if_neg c6, if_neg c9, if_neg c12, if_neg c16, if_neg c17, if_pos c24, if_pos c25])
                · have ok := ok.2 c24
                  refine lv_tableOut (tgt := 307) hx hb dX5_go_55 (tb_out0_6 c4 c6 c9 c12 c16 c17 c24) (by decide) ?_
                  refine lv_iload_n hx hb dX5_go_307 rfl (lv_at hl 6 rfl) ?_
                  refine lv_if_ne (tgt := 328) hx hb dX5_go_308 (by decide) (fun c30 => ?_) (fun c30 => ?_)
                  · have ok := ok.2 c30
                    refine lv_aload_n hx hb dX5_go_328 rfl (lv_at hl 4 rfl) ?_
                    refine lv_dup hx hb dX5_go_329 rfl ?_
                    refine va_get (D := D) (ci := 5) (v := .int (I 75 3)) (C := RX5) (T := TX5) (N := 26) hx hb hts inX5 hown hK hP 75 (mq_X isO_75) rfl 24 (by decide) (hts _ k_299) (fun _ h9 => h9) rfl dX5_go_330 ?_
                    refine lv_iconst (v := 1) hx hb dX5_go_333 (by decide) ?_
                    refine lv_iadd hx hb dX5_go_334 ?_
                    refine va_put (D := D) (ci := 5) (v := .int ((I 75 3) + 1)) (ty := .int) (C := RX5) (T := TX5) (N := 26) hx hb hts inX5 tyX5 tyX5_ok nmX5 hown hK hP (mD hi) hS 75 (mq_X isO_75) rfl 24 (by decide) (hts _ k_299) (fun _ h9 => h9) rfl (by decide +kernel) rfl rfl (Nat.le_of_ble_eq_true rfl) dX5_go_335 (fun H locs hP _ hS => ?_)
                    have hP := ms_X3 isO_75 hP
                    have hP : va_P D vwCl (mw 97 ad (gs cs ad (m_X_go_27 I x1 x2))) H := hP
                    refine lv_aload_n hx hb dX5_go_338 rfl (lv_at hl 4 rfl) ?_
                    refine lv_iload hx hb dX5_go_339 (lv_at hl 0 rfl) ?_
                    refine va_put (D := D) (ci := 5) (v := .int ((I 75 1) + 1)) (ty := .int) (C := RX5) (T := TX5) (N := 26) hx hb hts inX5 tyX5 tyX5_ok nmX5 hown hK hP (mD hi) hS 75 (mq_X isO_75) rfl 22 (by decide) (hts _ k_297) (fun _ h9 => h9) rfl (by decide +kernel) rfl rfl (Nat.le_of_ble_eq_true rfl) dX5_go_341 (fun H locs hP _ hS => ?_)
                    have hP := ms_X1 isO_75 hP
                    have hP : va_P D vwCl (mw 97 ad (gs cs ad (m_X_go_28 I x1 x2))) H := hP
                    refine lv_aload_n hx hb dX5_go_344 rfl (lv_at hl 4 rfl) ?_
                    refine lv_dup hx hb dX5_go_345 rfl ?_
                    refine va_get (D := D) (ci := 5) (v := .int ((m_X_go_28 I x1 x2) 75 4)) (C := RX5) (T := TX5) (N := 26) hx hb hts inX5 hown hK hP 75 (mq_X isO_75) rfl 25 (by decide) (hts _ k_300) (fun _ h9 => h9) rfl dX5_go_346 ?_
                    refine lv_iconst (v := 1) hx hb dX5_go_349 (by decide) ?_
                    refine lv_iadd hx hb dX5_go_350 ?_
                    refine va_put (D := D) (ci := 5) (v := .int (((m_X_go_28 I x1 x2) 75 4) + 1)) (ty := .int) (C := RX5) (T := TX5) (N := 26) hx hb hts inX5 tyX5 tyX5_ok nmX5 hown hK hP (mD hi) hS 75 (mq_X isO_75) rfl 25 (by decide) (hts _ k_300) (fun _ h9 => h9) rfl (by decide +kernel) rfl rfl (Nat.le_of_ble_eq_true rfl) dX5_go_351 (fun H locs hP _ hS => ?_)
                    have hP := ms_X4 isO_75 hP
                    have hP : va_P D vwCl (mw 97 ad (gs cs ad (m_X_go_29 I x1 x2))) H := hP
                    refine lv_iconst (v := 1) hx hb dX5_go_354 (by decide) ?_
                    exact q_iret hx hb hr hlocks dX5_go_355 hP hS (by rw [f_X_go, if_pos c2, if_neg c4, if_neg c6, if_neg c9, if_neg c12, if_neg c16, if_neg c17, if_neg c24, if_neg c30])
                  · have ok := ok.1 c30
                    refine lv_aload_n hx hb dX5_go_311 rfl (lv_at hl 4 rfl) ?_
                    refine lv_iload_n hx hb dX5_go_312 rfl (lv_at hl 5 rfl) ?_
                    refine lv_aload_n hx hb dX5_go_313 rfl (lv_at hl 4 rfl) ?_
                    refine va_get (D := D) (ci := 5) (v := .ref (ad 95)) (C := RX5) (T := TX5) (N := 26) hx hb hts inX5 hown hK hP 75 (mq_X isO_75) rfl 20 (by decide) (hts _ k_295) (fun _ h9 => h9) rfl dX5_go_314 ?_
                    refine lv_iload hx hb dX5_go_317 (lv_at hl 2 rfl) ?_
                    have g31 := ok.1
                    have ok := ok.2
                    refine va_iald hx hb hK hP 95 0 (mq_A iA_95) rfl g31 dX5_go_319 ?_
                    have g32 := ok
                    refine q_calli (va_runV (As := [.int x1, .int (I 95 ((I 78 (((16 * x1) + (I 75 1)).toNatClampNeg)).toNatClampNeg))]) (rest := []) ⟨hx, hb, hml, hown, hts⟩ (c_X_puts l D cs ad hi I x1 (I 95 ((I 78 (((16 * x1) + (I 75 1)).toNatClampNeg)).toNatClampNeg)) g32) (cwV 2 hts (gV k_371 k_372 k_442 k_6 k_373) rfl rfl rfl (by decide +kernel) ⟨Nat.le_of_ble_eq_true rfl, Nat.le_of_ble_eq_true rfl⟩) (q_preV hK hP (va_recv hK hP (ci := 5) (q0 := 75) rfl (mq_X isO_75))) rfl rfl hl.1 rfl (lv_room (Nat.le_of_ble_eq_true rfl)) dX5_go_320 ⟨Nat.zero_le _, Nat.zero_le _⟩) hS (fun _ h => h) (fun H locs hP hS => ?_)
                    refine lv_if_ne (tgt := 328) hx hb dX5_go_323 (by decide) (fun c33 => ?_) (fun c33 => ?_)
                    · have c33 := c33
                      refine lv_aload_n hx hb dX5_go_328 rfl (lv_at hl 4 rfl) ?_
                      refine lv_dup hx hb dX5_go_329 rfl ?_
                      refine va_get (D := D) (ci := 5) (v := .int (((f_X_puts I x1 (I 95 ((I 78 (((16 * x1) + (I 75 1)).toNatClampNeg)).toNatClampNeg))).2) 75 3)) (C := RX5) (T := TX5) (N := 26) hx hb hts inX5 hown hK hP 75 (mq_X isO_75) rfl 24 (by decide) (hts _ k_299) (fun _ h9 => h9) rfl dX5_go_330 ?_
                      refine lv_iconst (v := 1) hx hb dX5_go_333 (by decide) ?_
                      refine lv_iadd hx hb dX5_go_334 ?_
                      refine va_put (D := D) (ci := 5) (v := .int ((((f_X_puts I x1 (I 95 ((I 78 (((16 * x1) + (I 75 1)).toNatClampNeg)).toNatClampNeg))).2) 75 3) + 1)) (ty := .int) (C := RX5) (T := TX5) (N := 26) hx hb hts inX5 tyX5 tyX5_ok nmX5 hown hK hP (mD hi) hS 75 (mq_X isO_75) rfl 24 (by decide) (hts _ k_299) (fun _ h9 => h9) rfl (by decide +kernel) rfl rfl (Nat.le_of_ble_eq_true rfl) dX5_go_335 (fun H locs hP _ hS => ?_)
                      have hP := ms_X3 isO_75 hP
                      have hP : va_P D vwCl (mw 97 ad (gs cs ad (m_X_go_30 I x1 x2))) H := hP
                      refine lv_aload_n hx hb dX5_go_338 rfl (lv_at hl 4 rfl) ?_
                      refine lv_iload hx hb dX5_go_339 (lv_at hl 0 rfl) ?_
                      refine va_put (D := D) (ci := 5) (v := .int ((I 75 1) + 1)) (ty := .int) (C := RX5) (T := TX5) (N := 26) hx hb hts inX5 tyX5 tyX5_ok nmX5 hown hK hP (mD hi) hS 75 (mq_X isO_75) rfl 22 (by decide) (hts _ k_297) (fun _ h9 => h9) rfl (by decide +kernel) rfl rfl (Nat.le_of_ble_eq_true rfl) dX5_go_341 (fun H locs hP _ hS => ?_)
                      have hP := ms_X1 isO_75 hP
                      have hP : va_P D vwCl (mw 97 ad (gs cs ad (m_X_go_31 I x1 x2))) H := hP
                      refine lv_aload_n hx hb dX5_go_344 rfl (lv_at hl 4 rfl) ?_
                      refine lv_dup hx hb dX5_go_345 rfl ?_
                      refine va_get (D := D) (ci := 5) (v := .int ((m_X_go_31 I x1 x2) 75 4)) (C := RX5) (T := TX5) (N := 26) hx hb hts inX5 hown hK hP 75 (mq_X isO_75) rfl 25 (by decide) (hts _ k_300) (fun _ h9 => h9) rfl dX5_go_346 ?_
                      refine lv_iconst (v := 1) hx hb dX5_go_349 (by decide) ?_
                      refine lv_iadd hx hb dX5_go_350 ?_
                      refine va_put (D := D) (ci := 5) (v := .int (((m_X_go_31 I x1 x2) 75 4) + 1)) (ty := .int) (C := RX5) (T := TX5) (N := 26) hx hb hts inX5 tyX5 tyX5_ok nmX5 hown hK hP (mD hi) hS 75 (mq_X isO_75) rfl 25 (by decide) (hts _ k_300) (fun _ h9 => h9) rfl (by decide +kernel) rfl rfl (Nat.le_of_ble_eq_true rfl) dX5_go_351 (fun H locs hP _ hS => ?_)
                      have hP := ms_X4 isO_75 hP
                      have hP : va_P D vwCl (mw 97 ad (gs cs ad (m_X_go_32 I x1 x2))) H := hP
                      refine lv_iconst (v := 1) hx hb dX5_go_354 (by decide) ?_
                      exact q_iret hx hb hr hlocks dX5_go_355 hP hS (by rw [f_X_go, if_pos c2, if_neg c4, if_neg c6, if_neg c9, if_neg c12, if_neg c16, if_neg c17, if_neg c24, if_pos c30, if_neg c33])
                    · have c33 := c33
                      refine lv_iconst (v := 0) hx hb dX5_go_326 (by decide) ?_
                      exact q_iret hx hb hr hlocks dX5_go_327 hP hS (by rw [f_X_go, if_pos c2, if_neg c4, if_neg c6, if_neg c9, if_neg c12, if_neg c16, if_neg c17, if_neg c24, if_pos c30, if_pos c33])
  · have ok := ok.2 c2
    refine lv_iconst (v := 2) hx hb dX5_go_13 (by decide) ?_
    exact q_iret hx hb hr hlocks dX5_go_14 hP hS (by rw [f_X_go, if_neg c2])
end
section
def f_X_kept0 (I : Mm) (x1 : Int32) : Int32 := ((I 86 x1.toNatClampNeg) - (I 83 x1.toNatClampNeg))
def ok_X_kept0  (x1 : Int32) : Prop := vp_in x1 3
set_option maxHeartbeats 4000000 in
set_option maxRecDepth 100000 in
theorem c_X_kept0 (l : Launch) (D : va_G) (cs : Nat → ClassId) (ad : Nat → Nat) (hi : mi ad) (I : Mm) (x1 : Int32) (ok : ok_X_kept0 x1) : MC l yX5_kept0 wX5_kept0 { frames := 0, cells := 0, slots := 0, locals := 0 } D cs ad [.ref (ad 75), .int x1] I (some (.int (f_X_kept0 I x1))) I := by
  unfold ok_X_kept0 at ok
  refine q_enter (cc := cX5_kept0) (maxL := 2) (ret := (some .int)) (by decide +kernel) rfl (Nat.le_of_ble_eq_true rfl) ?_
  intro p e s m below meth c ls hx hb hr hml hown hts hlocks hK hP hS hl
  have hown : s.vm.findClass RX5 = some m.cls := hown
  have hts : ∀ w ∈ gtbl, w.before _ s = true := fun w h => hts w (List.mem_cons_of_mem _ h)
  have hl : lv_has ls 2 [(0, .ref (ad 75)), (1, .int x1)] := hl
  refine lv_aload_n hx hb dX5_kept0_0 rfl (lv_at hl 0 rfl) ?_
  refine va_get (D := D) (ci := 5) (v := .ref (ad 86)) (C := RX5) (T := TX5) (N := 26) hx hb hts inX5 hown hK hP 75 (mq_X isO_75) rfl 10 (by decide) (hts _ k_285) (fun _ h9 => h9) rfl dX5_kept0_1 ?_
  refine lv_iload_n hx hb dX5_kept0_4 rfl (lv_at hl 1 rfl) ?_
  have g1 := ok
  refine va_iald hx hb hK hP 86 0 (mq_A iA_86) rfl g1 dX5_kept0_5 ?_
  refine lv_aload_n hx hb dX5_kept0_6 rfl (lv_at hl 0 rfl) ?_
  refine va_get (D := D) (ci := 5) (v := .ref (ad 83)) (C := RX5) (T := TX5) (N := 26) hx hb hts inX5 hown hK hP 75 (mq_X isO_75) rfl 7 (by decide) (hts _ k_282) (fun _ h9 => h9) rfl dX5_kept0_7 ?_
  refine lv_iload_n hx hb dX5_kept0_10 rfl (lv_at hl 1 rfl) ?_
  refine va_iald hx hb hK hP 83 0 (mq_A iA_83) rfl g1 dX5_kept0_11 ?_
  refine lv_isub hx hb dX5_kept0_12 ?_
  exact q_iretP hx hb hr hlocks dX5_kept0_13 hP hS rfl
def m_X_append_1 (I : Mm) (x1 x2 x3 : Int32) : Mm := u2 I 87 (((512 * x1) + (I 86 x1.toNatClampNeg)).toNatClampNeg) x2
def m_X_append_2 (I : Mm) (x1 x2 x3 : Int32) : Mm := u2 (m_X_append_1 I x1 x2 x3) 88 (((512 * x1) + ((m_X_append_1 I x1 x2 x3) 86 x1.toNatClampNeg)).toNatClampNeg) x3
def m_X_append_3 (I : Mm) (x1 x2 x3 : Int32) : Mm := u2 (m_X_append_2 I x1 x2 x3) 86 x1.toNatClampNeg (((m_X_append_2 I x1 x2 x3) 86 x1.toNatClampNeg) + 1)
def f_X_append (I : Mm) (x1 x2 x3 : Int32) : Int32 × Mm := ((m_X_append_3 I x1 x2 x3) 86 x1.toNatClampNeg, (m_X_append_3 I x1 x2 x3))
def ok_X_append (I : Mm) (x1 x2 x3 : Int32) : Prop := vp_in x1 3 ∧ (vp_in ((512 * x1) + (I 86 x1.toNatClampNeg)) 1536 ∧ (vp_in ((512 * x1) + ((m_X_append_1 I x1 x2 x3) 86 x1.toNatClampNeg)) 1536))
set_option maxHeartbeats 4000000 in
set_option maxRecDepth 100000 in
theorem c_X_append (l : Launch) (D : va_G) (cs : Nat → ClassId) (ad : Nat → Nat) (hi : mi ad) (I : Mm) (x1 x2 x3 : Int32) (ok : ok_X_append I x1 x2 x3) : MC l yX5_append wX5_append { frames := 0, cells := 0, slots := 0, locals := 0 } D cs ad [.ref (ad 75), .int x1, .int x2, .int x3] I (some (.int (f_X_append I x1 x2 x3).1)) (f_X_append I x1 x2 x3).2 := by
  unfold ok_X_append at ok
  refine q_enter (cc := cX5_append) (maxL := 4) (ret := (some .int)) (by decide +kernel) rfl (Nat.le_of_ble_eq_true rfl) ?_
  intro p e s m below meth c ls hx hb hr hml hown hts hlocks hK hP hS hl
  have hown : s.vm.findClass RX5 = some m.cls := hown
  have hts : ∀ w ∈ gtbl, w.before _ s = true := fun w h => hts w (List.mem_cons_of_mem _ h)
  have hl : lv_has ls 4 [(0, .ref (ad 75)), (1, .int x1), (2, .int x2), (3, .int x3)] := hl
  refine lv_aload_n hx hb dX5_append_0 rfl (lv_at hl 0 rfl) ?_
  refine va_get (D := D) (ci := 5) (v := .ref (ad 87)) (C := RX5) (T := TX5) (N := 26) hx hb hts inX5 hown hK hP 75 (mq_X isO_75) rfl 11 (by decide) (hts _ k_286) (fun _ h9 => h9) rfl dX5_append_1 ?_
  refine lv_sipush (v := 512) hx hb dX5_append_4 (by decide) ?_
  refine lv_iload_n hx hb dX5_append_7 rfl (lv_at hl 1 rfl) ?_
  refine lv_imul hx hb dX5_append_8 ?_
  refine lv_aload_n hx hb dX5_append_9 rfl (lv_at hl 0 rfl) ?_
  refine va_get (D := D) (ci := 5) (v := .ref (ad 86)) (C := RX5) (T := TX5) (N := 26) hx hb hts inX5 hown hK hP 75 (mq_X isO_75) rfl 10 (by decide) (hts _ k_285) (fun _ h9 => h9) rfl dX5_append_10 ?_
  refine lv_iload_n hx hb dX5_append_13 rfl (lv_at hl 1 rfl) ?_
  have g1 := ok.1
  have ok := ok.2
  refine va_iald hx hb hK hP 86 0 (mq_A iA_86) rfl g1 dX5_append_14 ?_
  refine lv_iadd hx hb dX5_append_15 ?_
  refine lv_iload_n hx hb dX5_append_16 rfl (lv_at hl 2 rfl) ?_
  have g2 := ok.1
  have ok := ok.2
  refine va_iast hx hb hK hP (mD hi) hS 87 0 (mq_A iA_87) rfl g2 dX5_append_17 (fun H locs hP _ hS => ?_)
  have hP := ms_A iA_87 hP
  have hP : va_P D vwCl (mw 97 ad (gs cs ad (m_X_append_1 I x1 x2 x3))) H := hP
  refine lv_aload_n hx hb dX5_append_18 rfl (lv_at hl 0 rfl) ?_
  refine va_get (D := D) (ci := 5) (v := .ref (ad 88)) (C := RX5) (T := TX5) (N := 26) hx hb hts inX5 hown hK hP 75 (mq_X isO_75) rfl 12 (by decide) (hts _ k_287) (fun _ h9 => h9) rfl dX5_append_19 ?_
  refine lv_sipush (v := 512) hx hb dX5_append_22 (by decide) ?_
  refine lv_iload_n hx hb dX5_append_25 rfl (lv_at hl 1 rfl) ?_
  refine lv_imul hx hb dX5_append_26 ?_
  refine lv_aload_n hx hb dX5_append_27 rfl (lv_at hl 0 rfl) ?_
  refine va_get (D := D) (ci := 5) (v := .ref (ad 86)) (C := RX5) (T := TX5) (N := 26) hx hb hts inX5 hown hK hP 75 (mq_X isO_75) rfl 10 (by decide) (hts _ k_285) (fun _ h9 => h9) rfl dX5_append_28 ?_
  refine lv_iload_n hx hb dX5_append_31 rfl (lv_at hl 1 rfl) ?_
  refine va_iald hx hb hK hP 86 0 (mq_A iA_86) rfl g1 dX5_append_32 ?_
  refine lv_iadd hx hb dX5_append_33 ?_
  refine lv_iload_n hx hb dX5_append_34 rfl (lv_at hl 3 rfl) ?_
  have g3 := ok
  refine va_iast hx hb hK hP (mD hi) hS 88 0 (mq_A iA_88) rfl g3 dX5_append_35 (fun H locs hP _ hS => ?_)
  have hP := ms_A iA_88 hP
  have hP : va_P D vwCl (mw 97 ad (gs cs ad (m_X_append_2 I x1 x2 x3))) H := hP
  refine lv_aload_n hx hb dX5_append_36 rfl (lv_at hl 0 rfl) ?_
  refine va_get (D := D) (ci := 5) (v := .ref (ad 86)) (C := RX5) (T := TX5) (N := 26) hx hb hts inX5 hown hK hP 75 (mq_X isO_75) rfl 10 (by decide) (hts _ k_285) (fun _ h9 => h9) rfl dX5_append_37 ?_
  refine lv_iload_n hx hb dX5_append_40 rfl (lv_at hl 1 rfl) ?_
  refine lv_dup2_11 hx hb dX5_append_41 rfl rfl ?_
  refine va_iald hx hb hK hP 86 0 (mq_A iA_86) rfl g1 dX5_append_42 ?_
  refine lv_iconst (v := 1) hx hb dX5_append_43 (by decide) ?_
  refine lv_iadd hx hb dX5_append_44 ?_
  refine va_iast hx hb hK hP (mD hi) hS 86 0 (mq_A iA_86) rfl g1 dX5_append_45 (fun H locs hP _ hS => ?_)
  have hP := ms_A iA_86 hP
  have hP : va_P D vwCl (mw 97 ad (gs cs ad (m_X_append_3 I x1 x2 x3))) H := hP
  refine lv_aload_n hx hb dX5_append_46 rfl (lv_at hl 0 rfl) ?_
  refine va_get (D := D) (ci := 5) (v := .ref (ad 86)) (C := RX5) (T := TX5) (N := 26) hx hb hts inX5 hown hK hP 75 (mq_X isO_75) rfl 10 (by decide) (hts _ k_285) (fun _ h9 => h9) rfl dX5_append_47 ?_
  refine lv_iload_n hx hb dX5_append_50 rfl (lv_at hl 1 rfl) ?_
  refine va_iald hx hb hK hP 86 0 (mq_A iA_86) rfl g1 dX5_append_51 ?_
  exact q_iret hx hb hr hlocks dX5_append_52 hP hS rfl
def f_X_input (I : Mm) (x1 x2 : Int32) : Int32 × Mm := (if (f_X_isProcess x1) = 0 then ((-1), I) else (if (I 80 x1.toNatClampNeg) = 0 then (if (f_X_kept0 I x1) = 20 then ((-4), I) else ((f_X_append I x1 x2 3).1, (f_X_append I x1 x2 3).2)) else ((-2), I)))
def ok_X_input (I : Mm) (x1 x2 : Int32) : Prop := ((f_X_isProcess x1) = 0 → True) ∧ (¬ (f_X_isProcess x1) = 0 → vp_in x1 3 ∧ (((I 80 x1.toNatClampNeg) = 0 → ok_X_kept0 x1 ∧ (((f_X_kept0 I x1) = 20 → True) ∧ (¬ (f_X_kept0 I x1) = 20 → ok_X_append I x1 x2 3))) ∧ (¬ (I 80 x1.toNatClampNeg) = 0 → True)))
set_option maxHeartbeats 4000000 in
set_option maxRecDepth 100000 in
theorem c_X_input (l : Launch) (D : va_G) (cs : Nat → ClassId) (ad : Nat → Nat) (hi : mi ad) (I : Mm) (x1 x2 : Int32) (ok : ok_X_input I x1 x2) : MC l yX5_input wX5_input { frames := 1, cells := 0, slots := 0, locals := 23 } D cs ad [.ref (ad 75), .int x1, .int x2] I (some (.int (f_X_input I x1 x2).1)) (f_X_input I x1 x2).2 := by
  unfold ok_X_input at ok
  refine q_enter (cc := cX5_input) (maxL := 3) (ret := (some .int)) (by decide +kernel) rfl (Nat.le_of_ble_eq_true rfl) ?_
  intro p e s m below meth c ls hx hb hr hml hown hts hlocks hK hP hS hl
  have hown : s.vm.findClass RX5 = some m.cls := hown
  have hts : ∀ w ∈ gtbl, w.before _ s = true := fun w h => hts w (List.mem_cons_of_mem _ h)
  have hl : lv_has ls 3 [(0, .ref (ad 75)), (1, .int x1), (2, .int x2)] := hl
  refine lv_iload_n hx hb dX5_input_0 rfl (lv_at hl 1 rfl) ?_
  refine q_callp (va_runS (As := [.int x1]) (rest := []) ⟨hx, hb, hml, hown, hts⟩ (c_X_isProcess l D cs ad hi I x1) (va_cwS 1 hts (gS k_332 k_333 k_6 k_334) rfl rfl rfl (by decide +kernel) ⟨Nat.le_of_ble_eq_true rfl, Nat.le_of_ble_eq_true rfl⟩) (q_preS hK hP) rfl rfl hl.1 rfl (lv_room (Nat.le_of_ble_eq_true rfl)) dX5_input_1 ⟨Nat.zero_le _, Nat.zero_le _⟩) hS (fun _ h => h) (fun H locs hP hS => ?_)
  refine lv_if_ne (tgt := 9) hx hb dX5_input_4 (by decide) (fun c1 => ?_) (fun c1 => ?_)
  · have ok := ok.2 c1
    refine lv_aload_n hx hb dX5_input_9 rfl (lv_at hl 0 rfl) ?_
    refine va_get (D := D) (ci := 5) (v := .ref (ad 80)) (C := RX5) (T := TX5) (N := 26) hx hb hts inX5 hown hK hP 75 (mq_X isO_75) rfl 4 (by decide) (hts _ k_279) (fun _ h9 => h9) rfl dX5_input_10 ?_
    refine lv_iload_n hx hb dX5_input_13 rfl (lv_at hl 1 rfl) ?_
    have g2 := ok.1
    have ok := ok.2
    refine va_zald hx hb hK hP 80 1 (mq_Z iZ_80) rfl g2 dX5_input_14 ?_
    refine lv_if_eq (tgt := 21) hx hb dX5_input_15 (by decide) (fun c3 => ?_) (fun c3 => ?_)
    · have ok := ok.1 c3
      refine lv_aload_n hx hb dX5_input_21 rfl (lv_at hl 0 rfl) ?_
      refine lv_iload_n hx hb dX5_input_22 rfl (lv_at hl 1 rfl) ?_
      have g4 := ok.1
      have ok := ok.2
      refine q_callp (va_runV (As := [.int x1]) (rest := []) ⟨hx, hb, hml, hown, hts⟩ (c_X_kept0 l D cs ad hi I x1 g4) (cwV 1 hts (gV k_348 k_349 k_437 k_6 k_350) rfl rfl rfl (by decide +kernel) ⟨Nat.le_of_ble_eq_true rfl, Nat.le_of_ble_eq_true rfl⟩) (q_preV hK hP (va_recv hK hP (ci := 5) (q0 := 75) rfl (mq_X isO_75))) rfl rfl hl.1 rfl (lv_room (Nat.le_of_ble_eq_true rfl)) dX5_input_23 ⟨Nat.zero_le _, Nat.zero_le _⟩) hS (fun _ h => h) (fun H locs hP hS => ?_)
      refine lv_bipush (v := 20) hx hb dX5_input_26 (by decide) ?_
      refine lv_icmp_ne (tgt := 36) hx hb dX5_input_28 (by decide) (fun c5 => ?_) (fun c5 => ?_)
      · have ok := ok.2 c5
        refine lv_aload_n hx hb dX5_input_36 rfl (lv_at hl 0 rfl) ?_
        refine lv_iload_n hx hb dX5_input_37 rfl (lv_at hl 1 rfl) ?_
        refine lv_iload_n hx hb dX5_input_38 rfl (lv_at hl 2 rfl) ?_
        refine lv_iconst (v := 3) hx hb dX5_input_39 (by decide) ?_
        have g6 := ok
        refine q_calli (va_runV (As := [.int x1, .int x2, .int 3]) (rest := []) ⟨hx, hb, hml, hown, hts⟩ (c_X_append l D cs ad hi I x1 x2 3 g6) (cwV 3 hts (gV k_351 k_352 k_438 k_6 k_353) rfl rfl rfl (by decide +kernel) ⟨Nat.le_of_ble_eq_true rfl, Nat.le_of_ble_eq_true rfl⟩) (q_preV hK hP (va_recv hK hP (ci := 5) (q0 := 75) rfl (mq_X isO_75))) rfl rfl hl.1 rfl (lv_room (Nat.le_of_ble_eq_true rfl)) dX5_input_40 ⟨Nat.zero_le _, Nat.zero_le _⟩) hS (fun _ h => h) (fun H locs hP hS => ?_)
        exact q_iret hx hb hr hlocks dX5_input_43 hP hS (by rw [f_X_input, if_neg c1, if_pos c3, if_neg c5])
      · have ok := ok.1 c5
        refine lv_bipush (v := (-4)) hx hb dX5_input_31 (by decide) ?_
        refine lv_goto (tgt := 43) hx hb dX5_input_33 (by decide) ?_
        exact q_iret hx hb hr hlocks dX5_input_43 hP hS (by rw [f_X_input, if_neg c1, if_pos c3, if_pos c5])
    · have ok := ok.2 c3
      refine lv_bipush (v := (-2)) hx hb dX5_input_18 (by decide) ?_
      exact q_iret hx hb hr hlocks dX5_input_20 hP hS (by rw [f_X_input, if_neg c1, if_neg c3])
  · have ok := ok.1 c1
    refine lv_iconst (v := (-1)) hx hb dX5_input_7 (by decide) ?_
    exact q_iret hx hb hr hlocks dX5_input_8 hP hS (by rw [f_X_input, if_pos c1])
def m_X_deliver_1 (I : Mm) (x1 x2 : Int32) : Mm := u2 I 90 (((3 * x1) + x2).toNatClampNeg) ((I 90 (((3 * x1) + x2).toNatClampNeg)) + 1)
def f_X_deliver (I : Mm) (x1 x2 : Int32) : Int32 × Mm := (if (f_X_isChannel x1 x2) = 0 then ((-1), I) else (if (I 80 x2.toNatClampNeg) = 0 then (if (I 90 (((3 * x1) + x2).toNatClampNeg)) = (I 89 (((3 * x1) + x2).toNatClampNeg)) then ((-3), I) else (if (f_X_kept0 I x2) = 20 then ((-4), I) else ((f_X_append (m_X_deliver_1 I x1 x2) x2 (I 91 (((8 * ((3 * x1) + x2)) + ((I 90 (((3 * x1) + x2).toNatClampNeg)) - (I 90 (((3 * x1) + x2).toNatClampNeg)) / 8 * 8)).toNatClampNeg)) x1).1, (f_X_append (m_X_deliver_1 I x1 x2) x2 (I 91 (((8 * ((3 * x1) + x2)) + ((I 90 (((3 * x1) + x2).toNatClampNeg)) - (I 90 (((3 * x1) + x2).toNatClampNeg)) / 8 * 8)).toNatClampNeg)) x1).2))) else ((-2), I)))
def ok_X_deliver (I : Mm) (x1 x2 : Int32) : Prop := ((f_X_isChannel x1 x2) = 0 → True) ∧ (¬ (f_X_isChannel x1 x2) = 0 → vp_in x2 3 ∧ (((I 80 x2.toNatClampNeg) = 0 → vp_in ((3 * x1) + x2) 9 ∧ (((I 90 (((3 * x1) + x2).toNatClampNeg)) = (I 89 (((3 * x1) + x2).toNatClampNeg)) → True) ∧ (¬ (I 90 (((3 * x1) + x2).toNatClampNeg)) = (I 89 (((3 * x1) + x2).toNatClampNeg)) → ok_X_kept0 x2 ∧ (((f_X_kept0 I x2) = 20 → True) ∧ (¬ (f_X_kept0 I x2) = 20 → vp_in ((8 * ((3 * x1) + x2)) + ((I 90 (((3 * x1) + x2).toNatClampNeg)) - (I 90 (((3 * x1) + x2).toNatClampNeg)) / 8 * 8)) 72 ∧ (ok_X_append (m_X_deliver_1 I x1 x2) x2 (I 91 (((8 * ((3 * x1) + x2)) + ((I 90 (((3 * x1) + x2).toNatClampNeg)) - (I 90 (((3 * x1) + x2).toNatClampNeg)) / 8 * 8)).toNatClampNeg)) x1)))))) ∧ (¬ (I 80 x2.toNatClampNeg) = 0 → True)))
set_option maxHeartbeats 4000000 in
set_option maxRecDepth 100000 in
theorem c_X_deliver (l : Launch) (D : va_G) (cs : Nat → ClassId) (ad : Nat → Nat) (hi : mi ad) (I : Mm) (x1 x2 : Int32) (ok : ok_X_deliver I x1 x2) : MC l yX5_deliver wX5_deliver { frames := 2, cells := 0, slots := 0, locals := 41 } D cs ad [.ref (ad 75), .int x1, .int x2] I (some (.int (f_X_deliver I x1 x2).1)) (f_X_deliver I x1 x2).2 := by
  unfold ok_X_deliver at ok
  refine q_enter (cc := cX5_deliver) (maxL := 5) (ret := (some .int)) (by decide +kernel) rfl (Nat.le_of_ble_eq_true rfl) ?_
  intro p e s m below meth c ls hx hb hr hml hown hts hlocks hK hP hS hl
  have hown : s.vm.findClass RX5 = some m.cls := hown
  have hts : ∀ w ∈ gtbl, w.before _ s = true := fun w h => hts w (List.mem_cons_of_mem _ h)
  have hl : lv_has ls 5 [(0, .ref (ad 75)), (1, .int x1), (2, .int x2)] := hl
  refine lv_iload_n hx hb dX5_deliver_0 rfl (lv_at hl 1 rfl) ?_
  refine lv_iload_n hx hb dX5_deliver_1 rfl (lv_at hl 2 rfl) ?_
  refine q_callp (va_runS (As := [.int x1, .int x2]) (rest := []) ⟨hx, hb, hml, hown, hts⟩ (c_X_isChannel l D cs ad hi I x1 x2) (va_cwS 2 hts (gS k_335 k_336 k_6 k_337) rfl rfl rfl (by decide +kernel) ⟨Nat.le_of_ble_eq_true rfl, Nat.le_of_ble_eq_true rfl⟩) (q_preS hK hP) rfl rfl hl.1 rfl (lv_room (Nat.le_of_ble_eq_true rfl)) dX5_deliver_2 ⟨Nat.zero_le _, Nat.zero_le _⟩) hS (fun _ h => h) (fun H locs hP hS => ?_)
  refine lv_if_ne (tgt := 10) hx hb dX5_deliver_5 (by decide) (fun c1 => ?_) (fun c1 => ?_)
  · have ok := ok.2 c1
    refine lv_aload_n hx hb dX5_deliver_10 rfl (lv_at hl 0 rfl) ?_
    refine va_get (D := D) (ci := 5) (v := .ref (ad 80)) (C := RX5) (T := TX5) (N := 26) hx hb hts inX5 hown hK hP 75 (mq_X isO_75) rfl 4 (by decide) (hts _ k_279) (fun _ h9 => h9) rfl dX5_deliver_11 ?_
    refine lv_iload_n hx hb dX5_deliver_14 rfl (lv_at hl 2 rfl) ?_
    have g2 := ok.1
    have ok := ok.2
    refine va_zald hx hb hK hP 80 1 (mq_Z iZ_80) rfl g2 dX5_deliver_15 ?_
    refine lv_if_eq (tgt := 22) hx hb dX5_deliver_16 (by decide) (fun c3 => ?_) (fun c3 => ?_)
    · have ok := ok.1 c3
      refine lv_iconst (v := 3) hx hb dX5_deliver_22 (by decide) ?_
      refine lv_iload_n hx hb dX5_deliver_23 rfl (lv_at hl 1 rfl) ?_
      refine lv_imul hx hb dX5_deliver_24 ?_
      refine lv_iload_n hx hb dX5_deliver_25 rfl (lv_at hl 2 rfl) ?_
      refine lv_iadd hx hb dX5_deliver_26 ?_
      refine lv_istore_n (lv' := [(3, .int ((3 * x1) + x2)), (0, .ref (ad 75)), (1, .int x1), (2, .int x2)]) hx hb dX5_deliver_27 rfl hl (by decide) rfl (fun ls hl => ?_)
      refine lv_aload_n hx hb dX5_deliver_28 rfl (lv_at hl 1 rfl) ?_
      refine va_get (D := D) (ci := 5) (v := .ref (ad 90)) (C := RX5) (T := TX5) (N := 26) hx hb hts inX5 hown hK hP 75 (mq_X isO_75) rfl 14 (by decide) (hts _ k_289) (fun _ h9 => h9) rfl dX5_deliver_29 ?_
      refine lv_iload_n hx hb dX5_deliver_32 rfl (lv_at hl 0 rfl) ?_
      have g4 := ok.1
      have ok := ok.2
      refine va_iald hx hb hK hP 90 0 (mq_A iA_90) rfl g4 dX5_deliver_33 ?_
      refine lv_aload_n hx hb dX5_deliver_34 rfl (lv_at hl 1 rfl) ?_
      refine va_get (D := D) (ci := 5) (v := .ref (ad 89)) (C := RX5) (T := TX5) (N := 26) hx hb hts inX5 hown hK hP 75 (mq_X isO_75) rfl 13 (by decide) (hts _ k_288) (fun _ h9 => h9) rfl dX5_deliver_35 ?_
      refine lv_iload_n hx hb dX5_deliver_38 rfl (lv_at hl 0 rfl) ?_
      refine va_iald hx hb hK hP 89 0 (mq_A iA_89) rfl g4 dX5_deliver_39 ?_
      refine lv_icmp_ne (tgt := 46) hx hb dX5_deliver_40 (by decide) (fun c5 => ?_) (fun c5 => ?_)
      · have ok := ok.2 c5
        refine lv_aload_n hx hb dX5_deliver_46 rfl (lv_at hl 1 rfl) ?_
        refine lv_iload_n hx hb dX5_deliver_47 rfl (lv_at hl 3 rfl) ?_
        have g6 := ok.1
        have ok := ok.2
        refine q_callp (va_runV (As := [.int x2]) (rest := []) ⟨hx, hb, hml, hown, hts⟩ (c_X_kept0 l D cs ad hi I x2 g6) (cwV 1 hts (gV k_348 k_349 k_437 k_6 k_350) rfl rfl rfl (by decide +kernel) ⟨Nat.le_of_ble_eq_true rfl, Nat.le_of_ble_eq_true rfl⟩) (q_preV hK hP (va_recv hK hP (ci := 5) (q0 := 75) rfl (mq_X isO_75))) rfl rfl hl.1 rfl (lv_room (Nat.le_of_ble_eq_true rfl)) dX5_deliver_48 ⟨Nat.zero_le _, Nat.zero_le _⟩) hS (fun _ h => h) (fun H locs hP hS => ?_)
        refine lv_bipush (v := 20) hx hb dX5_deliver_51 (by decide) ?_
        refine lv_icmp_ne (tgt := 59) hx hb dX5_deliver_53 (by decide) (fun c7 => ?_) (fun c7 => ?_)
        · have ok := ok.2 c7
          refine lv_aload_n hx hb dX5_deliver_59 rfl (lv_at hl 1 rfl) ?_
          refine va_get (D := D) (ci := 5) (v := .ref (ad 91)) (C := RX5) (T := TX5) (N := 26) hx hb hts inX5 hown hK hP 75 (mq_X isO_75) rfl 15 (by decide) (hts _ k_290) (fun _ h9 => h9) rfl dX5_deliver_60 ?_
          refine lv_bipush (v := 8) hx hb dX5_deliver_63 (by decide) ?_
          refine lv_iload_n hx hb dX5_deliver_65 rfl (lv_at hl 0 rfl) ?_
          refine lv_imul hx hb dX5_deliver_66 ?_
          refine lv_aload_n hx hb dX5_deliver_67 rfl (lv_at hl 1 rfl) ?_
          refine va_get (D := D) (ci := 5) (v := .ref (ad 90)) (C := RX5) (T := TX5) (N := 26) hx hb hts inX5 hown hK hP 75 (mq_X isO_75) rfl 14 (by decide) (hts _ k_289) (fun _ h9 => h9) rfl dX5_deliver_68 ?_
          refine lv_iload_n hx hb dX5_deliver_71 rfl (lv_at hl 0 rfl) ?_
          refine va_iald hx hb hK hP 90 0 (mq_A iA_90) rfl g4 dX5_deliver_72 ?_
          refine lv_bipush (v := 8) hx hb dX5_deliver_73 (by decide) ?_
          refine lv_irem hx hb dX5_deliver_75 (by decide) ?_
          refine lv_iadd hx hb dX5_deliver_76 ?_
          have g8 := ok.1
          have ok := ok.2
          refine va_iald hx hb hK hP 91 0 (mq_A iA_91) rfl g8 dX5_deliver_77 ?_
          refine lv_istore (lv' := [(4, .int (I 91 (((8 * ((3 * x1) + x2)) + ((I 90 (((3 * x1) + x2).toNatClampNeg)) - (I 90 (((3 * x1) + x2).toNatClampNeg)) / 8 * 8)).toNatClampNeg))), (3, .int ((3 * x1) + x2)), (0, .ref (ad 75)), (1, .int x1), (2, .int x2)]) hx hb dX5_deliver_78 hl (by decide) rfl (fun ls hl => ?_)
          refine lv_aload_n hx hb dX5_deliver_80 rfl (lv_at hl 2 rfl) ?_
          refine va_get (D := D) (ci := 5) (v := .ref (ad 90)) (C := RX5) (T := TX5) (N := 26) hx hb hts inX5 hown hK hP 75 (mq_X isO_75) rfl 14 (by decide) (hts _ k_289) (fun _ h9 => h9) rfl dX5_deliver_81 ?_
          refine lv_iload_n hx hb dX5_deliver_84 rfl (lv_at hl 1 rfl) ?_
          refine lv_dup2_11 hx hb dX5_deliver_85 rfl rfl ?_
          refine va_iald hx hb hK hP 90 0 (mq_A iA_90) rfl g4 dX5_deliver_86 ?_
          refine lv_iconst (v := 1) hx hb dX5_deliver_87 (by decide) ?_
          refine lv_iadd hx hb dX5_deliver_88 ?_
          refine va_iast hx hb hK hP (mD hi) hS 90 0 (mq_A iA_90) rfl g4 dX5_deliver_89 (fun H locs hP _ hS => ?_)
          have hP := ms_A iA_90 hP
          have hP : va_P D vwCl (mw 97 ad (gs cs ad (m_X_deliver_1 I x1 x2))) H := hP
          refine lv_aload_n hx hb dX5_deliver_90 rfl (lv_at hl 2 rfl) ?_
          refine lv_iload_n hx hb dX5_deliver_91 rfl (lv_at hl 4 rfl) ?_
          refine lv_iload hx hb dX5_deliver_92 (lv_at hl 0 rfl) ?_
          refine lv_iload_n hx hb dX5_deliver_94 rfl (lv_at hl 3 rfl) ?_
          have g9 := ok
          refine q_calli (va_runV (As := [.int x2, .int (I 91 (((8 * ((3 * x1) + x2)) + ((I 90 (((3 * x1) + x2).toNatClampNeg)) - (I 90 (((3 * x1) + x2).toNatClampNeg)) / 8 * 8)).toNatClampNeg)), .int x1]) (rest := []) ⟨hx, hb, hml, hown, hts⟩ (c_X_append l D cs ad hi (m_X_deliver_1 I x1 x2) x2 (I 91 (((8 * ((3 * x1) + x2)) + ((I 90 (((3 * x1) + x2).toNatClampNeg)) - (I 90 (((3 * x1) + x2).toNatClampNeg)) / 8 * 8)).toNatClampNeg)) x1 g9) (cwV 3 hts (gV k_351 k_352 k_438 k_6 k_353) rfl rfl rfl (by decide +kernel) ⟨Nat.le_of_ble_eq_true rfl, Nat.le_of_ble_eq_true rfl⟩) (q_preV hK hP (va_recv hK hP (ci := 5) (q0 := 75) rfl (mq_X isO_75))) rfl rfl hl.1 rfl (lv_room (Nat.le_of_ble_eq_true rfl)) dX5_deliver_95 ⟨Nat.zero_le _, Nat.zero_le _⟩) hS (fun _ h => h) (fun H locs hP hS => ?_)
          exact q_iret hx hb hr hlocks dX5_deliver_98 hP hS (by rw [f_X_deliver, if_neg c1, if_pos c3, if_neg c5, if_neg c7])
        · have ok := ok.1 c7
          refine lv_bipush (v := (-4)) hx hb dX5_deliver_56 (by decide) ?_
          exact q_iret hx hb hr hlocks dX5_deliver_58 hP hS (by rw [f_X_deliver, if_neg c1, if_pos c3, if_neg c5, if_pos c7])
      · have ok := ok.1 c5
        refine lv_bipush (v := (-3)) hx hb dX5_deliver_43 (by decide) ?_
        exact q_iret hx hb hr hlocks dX5_deliver_45 hP hS (by rw [f_X_deliver, if_neg c1, if_pos c3, if_pos c5])
    · have ok := ok.2 c3
      refine lv_bipush (v := (-2)) hx hb dX5_deliver_19 (by decide) ?_
      exact q_iret hx hb hr hlocks dX5_deliver_21 hP hS (by rw [f_X_deliver, if_neg c1, if_neg c3])
  · have ok := ok.1 c1
    refine lv_iconst (v := (-1)) hx hb dX5_deliver_8 (by decide) ?_
    exact q_iret hx hb hr hlocks dX5_deliver_9 hP hS (by rw [f_X_deliver, if_pos c1])
def m_X_crash_1 (I : Mm) (x1 : Int32) : Mm := u2 I 80 x1.toNatClampNeg (vp_nar .boolean 1)
def f_X_crash (I : Mm) (x1 : Int32) : Int32 × Mm := (if (f_X_isProcess x1) = 0 then (0, I) else (if (I 80 x1.toNatClampNeg) = 0 then (1, (m_X_crash_1 I x1)) else (0, I)))
def ok_X_crash  (x1 : Int32) : Prop := ((f_X_isProcess x1) = 0 → True) ∧ (¬ (f_X_isProcess x1) = 0 → vp_in x1 3)
theorem z_X_crash (I : Mm) (x1 : Int32) : narrow .boolean (.int (f_X_crash I x1).1) = .int (f_X_crash I x1).1 := by
  unfold f_X_crash
  (repeat' split) <;> first | (with_reducible exact nb0 _) | (with_reducible exact nb1 _) | (with_reducible exact zz (z_X_isProcess _))
set_option maxHeartbeats 4000000 in
set_option maxRecDepth 100000 in
theorem c_X_crash (l : Launch) (D : va_G) (cs : Nat → ClassId) (ad : Nat → Nat) (hi : mi ad) (I : Mm) (x1 : Int32) (ok : ok_X_crash x1) : MC l yX5_crash wX5_crash { frames := 1, cells := 0, slots := 0, locals := 20 } D cs ad [.ref (ad 75), .int x1] I (some (.int (f_X_crash I x1).1)) (f_X_crash I x1).2 := by
  unfold ok_X_crash at ok
  refine q_enter (cc := cX5_crash) (maxL := 2) (ret := (some .boolean)) (by decide +kernel) rfl (Nat.le_of_ble_eq_true rfl) ?_
  intro p e s m below meth c ls hx hb hr hml hown hts hlocks hK hP hS hl
  have hown : s.vm.findClass RX5 = some m.cls := hown
  have hts : ∀ w ∈ gtbl, w.before _ s = true := fun w h => hts w (List.mem_cons_of_mem _ h)
  have hl : lv_has ls 2 [(0, .ref (ad 75)), (1, .int x1)] := hl
  refine lv_iload_n hx hb dX5_crash_0 rfl (lv_at hl 1 rfl) ?_
  refine q_callp (va_runS (As := [.int x1]) (rest := []) ⟨hx, hb, hml, hown, hts⟩ (c_X_isProcess l D cs ad hi I x1) (va_cwS 1 hts (gS k_332 k_333 k_6 k_334) rfl rfl rfl (by decide +kernel) ⟨Nat.le_of_ble_eq_true rfl, Nat.le_of_ble_eq_true rfl⟩) (q_preS hK hP) rfl rfl hl.1 rfl (lv_room (Nat.le_of_ble_eq_true rfl)) dX5_crash_1 ⟨Nat.zero_le _, Nat.zero_le _⟩) hS (fun _ h => h) (fun H locs hP hS => ?_)
  refine lv_if_eq (tgt := 16) hx hb dX5_crash_4 (by decide) (fun c1 => ?_) (fun c1 => ?_)
  · have ok := ok.1 c1
    refine lv_iconst (v := 0) hx hb dX5_crash_16 (by decide) ?_
    exact q_zret hx hb hr hlocks dX5_crash_17 hP hS rfl (by rw [f_X_crash, if_pos c1])
  · have ok := ok.2 c1
    refine lv_aload_n hx hb dX5_crash_7 rfl (lv_at hl 0 rfl) ?_
    refine va_get (D := D) (ci := 5) (v := .ref (ad 80)) (C := RX5) (T := TX5) (N := 26) hx hb hts inX5 hown hK hP 75 (mq_X isO_75) rfl 4 (by decide) (hts _ k_279) (fun _ h9 => h9) rfl dX5_crash_8 ?_
    refine lv_iload_n hx hb dX5_crash_11 rfl (lv_at hl 1 rfl) ?_
    have g2 := ok
    refine va_zald hx hb hK hP 80 1 (mq_Z iZ_80) rfl g2 dX5_crash_12 ?_
    refine lv_if_eq (tgt := 18) hx hb dX5_crash_13 (by decide) (fun c3 => ?_) (fun c3 => ?_)
    · have c3 := c3
      refine lv_aload_n hx hb dX5_crash_18 rfl (lv_at hl 0 rfl) ?_
      refine va_get (D := D) (ci := 5) (v := .ref (ad 80)) (C := RX5) (T := TX5) (N := 26) hx hb hts inX5 hown hK hP 75 (mq_X isO_75) rfl 4 (by decide) (hts _ k_279) (fun _ h9 => h9) rfl dX5_crash_19 ?_
      refine lv_iload_n hx hb dX5_crash_22 rfl (lv_at hl 1 rfl) ?_
      refine lv_iconst (v := 1) hx hb dX5_crash_23 (by decide) ?_
      refine va_zast hx hb hK hP (mD hi) hS 80 1 (mq_Z iZ_80) rfl g2 dX5_crash_24 (fun H locs hP _ hS => ?_)
      have hP := ms_Z iZ_80 hP
      have hP : va_P D vwCl (mw 97 ad (gs cs ad (m_X_crash_1 I x1))) H := hP
      refine lv_iconst (v := 1) hx hb dX5_crash_25 (by decide) ?_
      exact q_zret hx hb hr hlocks dX5_crash_26 hP hS rfl (by rw [f_X_crash, if_neg c1, if_pos c3])
    · have c3 := c3
      refine lv_iconst (v := 0) hx hb dX5_crash_16 (by decide) ?_
      exact q_zret hx hb hr hlocks dX5_crash_17 hP hS rfl (by rw [f_X_crash, if_neg c1, if_neg c3])
def m_X_recover_1 (I : Mm) (x1 : Int32) : Mm := u2 I 80 x1.toNatClampNeg (vp_nar .boolean 0)
def m_X_recover_2 (I : Mm) (x1 : Int32) : Mm := u2 (m_X_recover_1 I x1) 81 x1.toNatClampNeg ((m_X_recover_1 I x1) 82 x1.toNatClampNeg)
def f_X_recover (I : Mm) (x1 : Int32) : Int32 × Mm := (if (f_X_isProcess x1) = 0 then ((-1), I) else (if (I 80 x1.toNatClampNeg) = 0 then ((-3), I) else ((f_X_kept0 (m_X_recover_2 I x1) x1), (m_X_recover_2 I x1))))
def ok_X_recover (I : Mm) (x1 : Int32) : Prop := ((f_X_isProcess x1) = 0 → True) ∧ (¬ (f_X_isProcess x1) = 0 → vp_in x1 3 ∧ (((I 80 x1.toNatClampNeg) = 0 → True) ∧ (¬ (I 80 x1.toNatClampNeg) = 0 → ok_X_kept0 x1)))
set_option maxHeartbeats 4000000 in
set_option maxRecDepth 100000 in
theorem c_X_recover (l : Launch) (D : va_G) (cs : Nat → ClassId) (ad : Nat → Nat) (hi : mi ad) (I : Mm) (x1 : Int32) (ok : ok_X_recover I x1) : MC l yX5_recover wX5_recover { frames := 1, cells := 0, slots := 0, locals := 21 } D cs ad [.ref (ad 75), .int x1] I (some (.int (f_X_recover I x1).1)) (f_X_recover I x1).2 := by
  unfold ok_X_recover at ok
  refine q_enter (cc := cX5_recover) (maxL := 2) (ret := (some .int)) (by decide +kernel) rfl (Nat.le_of_ble_eq_true rfl) ?_
  intro p e s m below meth c ls hx hb hr hml hown hts hlocks hK hP hS hl
  have hown : s.vm.findClass RX5 = some m.cls := hown
  have hts : ∀ w ∈ gtbl, w.before _ s = true := fun w h => hts w (List.mem_cons_of_mem _ h)
  have hl : lv_has ls 2 [(0, .ref (ad 75)), (1, .int x1)] := hl
  refine lv_iload_n hx hb dX5_recover_0 rfl (lv_at hl 1 rfl) ?_
  refine q_callp (va_runS (As := [.int x1]) (rest := []) ⟨hx, hb, hml, hown, hts⟩ (c_X_isProcess l D cs ad hi I x1) (va_cwS 1 hts (gS k_332 k_333 k_6 k_334) rfl rfl rfl (by decide +kernel) ⟨Nat.le_of_ble_eq_true rfl, Nat.le_of_ble_eq_true rfl⟩) (q_preS hK hP) rfl rfl hl.1 rfl (lv_room (Nat.le_of_ble_eq_true rfl)) dX5_recover_1 ⟨Nat.zero_le _, Nat.zero_le _⟩) hS (fun _ h => h) (fun H locs hP hS => ?_)
  refine lv_if_ne (tgt := 9) hx hb dX5_recover_4 (by decide) (fun c1 => ?_) (fun c1 => ?_)
  · have ok := ok.2 c1
    refine lv_aload_n hx hb dX5_recover_9 rfl (lv_at hl 0 rfl) ?_
    refine va_get (D := D) (ci := 5) (v := .ref (ad 80)) (C := RX5) (T := TX5) (N := 26) hx hb hts inX5 hown hK hP 75 (mq_X isO_75) rfl 4 (by decide) (hts _ k_279) (fun _ h9 => h9) rfl dX5_recover_10 ?_
    refine lv_iload_n hx hb dX5_recover_13 rfl (lv_at hl 1 rfl) ?_
    have g2 := ok.1
    have ok := ok.2
    refine va_zald hx hb hK hP 80 1 (mq_Z iZ_80) rfl g2 dX5_recover_14 ?_
    refine lv_if_ne (tgt := 21) hx hb dX5_recover_15 (by decide) (fun c3 => ?_) (fun c3 => ?_)
    · have ok := ok.2 c3
      refine lv_aload_n hx hb dX5_recover_21 rfl (lv_at hl 0 rfl) ?_
      refine va_get (D := D) (ci := 5) (v := .ref (ad 80)) (C := RX5) (T := TX5) (N := 26) hx hb hts inX5 hown hK hP 75 (mq_X isO_75) rfl 4 (by decide) (hts _ k_279) (fun _ h9 => h9) rfl dX5_recover_22 ?_
      refine lv_iload_n hx hb dX5_recover_25 rfl (lv_at hl 1 rfl) ?_
      refine lv_iconst (v := 0) hx hb dX5_recover_26 (by decide) ?_
      refine va_zast hx hb hK hP (mD hi) hS 80 1 (mq_Z iZ_80) rfl g2 dX5_recover_27 (fun H locs hP _ hS => ?_)
      have hP := ms_Z iZ_80 hP
      have hP : va_P D vwCl (mw 97 ad (gs cs ad (m_X_recover_1 I x1))) H := hP
      refine lv_aload_n hx hb dX5_recover_28 rfl (lv_at hl 0 rfl) ?_
      refine va_get (D := D) (ci := 5) (v := .ref (ad 81)) (C := RX5) (T := TX5) (N := 26) hx hb hts inX5 hown hK hP 75 (mq_X isO_75) rfl 5 (by decide) (hts _ k_280) (fun _ h9 => h9) rfl dX5_recover_29 ?_
      refine lv_iload_n hx hb dX5_recover_32 rfl (lv_at hl 1 rfl) ?_
      refine lv_aload_n hx hb dX5_recover_33 rfl (lv_at hl 0 rfl) ?_
      refine va_get (D := D) (ci := 5) (v := .ref (ad 82)) (C := RX5) (T := TX5) (N := 26) hx hb hts inX5 hown hK hP 75 (mq_X isO_75) rfl 6 (by decide) (hts _ k_281) (fun _ h9 => h9) rfl dX5_recover_34 ?_
      refine lv_iload_n hx hb dX5_recover_37 rfl (lv_at hl 1 rfl) ?_
      refine va_iald hx hb hK hP 82 0 (mq_A iA_82) rfl g2 dX5_recover_38 ?_
      refine va_iast hx hb hK hP (mD hi) hS 81 0 (mq_A iA_81) rfl g2 dX5_recover_39 (fun H locs hP _ hS => ?_)
      have hP := ms_A iA_81 hP
      have hP : va_P D vwCl (mw 97 ad (gs cs ad (m_X_recover_2 I x1))) H := hP
      refine lv_aload_n hx hb dX5_recover_40 rfl (lv_at hl 0 rfl) ?_
      refine lv_iload_n hx hb dX5_recover_41 rfl (lv_at hl 1 rfl) ?_
      have g4 := ok
      refine q_callp (va_runV (As := [.int x1]) (rest := []) ⟨hx, hb, hml, hown, hts⟩ (c_X_kept0 l D cs ad hi (m_X_recover_2 I x1) x1 g4) (cwV 1 hts (gV k_348 k_349 k_437 k_6 k_350) rfl rfl rfl (by decide +kernel) ⟨Nat.le_of_ble_eq_true rfl, Nat.le_of_ble_eq_true rfl⟩) (q_preV hK hP (va_recv hK hP (ci := 5) (q0 := 75) rfl (mq_X isO_75))) rfl rfl hl.1 rfl (lv_room (Nat.le_of_ble_eq_true rfl)) dX5_recover_42 ⟨Nat.zero_le _, Nat.zero_le _⟩) hS (fun _ h => h) (fun H locs hP hS => ?_)
      exact q_iret hx hb hr hlocks dX5_recover_45 hP hS (by rw [f_X_recover, if_neg c1, if_neg c3])
    · have ok := ok.1 c3
      refine lv_bipush (v := (-3)) hx hb dX5_recover_18 (by decide) ?_
      exact q_iret hx hb hr hlocks dX5_recover_20 hP hS (by rw [f_X_recover, if_neg c1, if_pos c3])
  · have ok := ok.1 c1
    refine lv_iconst (v := (-1)) hx hb dX5_recover_7 (by decide) ?_
    exact q_iret hx hb hr hlocks dX5_recover_8 hP hS (by rw [f_X_recover, if_pos c1])
def f_X_kept (I : Mm) (x1 : Int32) : Int32 := (if (f_X_isProcess x1) = 0 then (-1) else (f_X_kept0 I x1))
def ok_X_kept  (x1 : Int32) : Prop := ((f_X_isProcess x1) = 0 → True) ∧ (¬ (f_X_isProcess x1) = 0 → ok_X_kept0 x1)
set_option maxHeartbeats 4000000 in
set_option maxRecDepth 100000 in
theorem c_X_kept (l : Launch) (D : va_G) (cs : Nat → ClassId) (ad : Nat → Nat) (hi : mi ad) (I : Mm) (x1 : Int32) (ok : ok_X_kept x1) : MC l yX5_kept wX5_kept { frames := 1, cells := 0, slots := 0, locals := 21 } D cs ad [.ref (ad 75), .int x1] I (some (.int (f_X_kept I x1))) I := by
  unfold ok_X_kept at ok
  refine q_enter (cc := cX5_kept) (maxL := 2) (ret := (some .int)) (by decide +kernel) rfl (Nat.le_of_ble_eq_true rfl) ?_
  intro p e s m below meth c ls hx hb hr hml hown hts hlocks hK hP hS hl
  have hown : s.vm.findClass RX5 = some m.cls := hown
  have hts : ∀ w ∈ gtbl, w.before _ s = true := fun w h => hts w (List.mem_cons_of_mem _ h)
  have hl : lv_has ls 2 [(0, .ref (ad 75)), (1, .int x1)] := hl
  refine lv_iload_n hx hb dX5_kept_0 rfl (lv_at hl 1 rfl) ?_
  refine q_callp (va_runS (As := [.int x1]) (rest := []) ⟨hx, hb, hml, hown, hts⟩ (c_X_isProcess l D cs ad hi I x1) (va_cwS 1 hts (gS k_332 k_333 k_6 k_334) rfl rfl rfl (by decide +kernel) ⟨Nat.le_of_ble_eq_true rfl, Nat.le_of_ble_eq_true rfl⟩) (q_preS hK hP) rfl rfl hl.1 rfl (lv_room (Nat.le_of_ble_eq_true rfl)) dX5_kept_1 ⟨Nat.zero_le _, Nat.zero_le _⟩) hS (fun _ h => h) (fun H locs hP hS => ?_)
  refine lv_if_eq (tgt := 15) hx hb dX5_kept_4 (by decide) (fun c1 => ?_) (fun c1 => ?_)
  · have ok := ok.1 c1
    refine lv_iconst (v := (-1)) hx hb dX5_kept_15 (by decide) ?_
    exact q_iretP hx hb hr hlocks dX5_kept_16 hP hS (by rw [f_X_kept, if_pos c1])
  · have ok := ok.2 c1
    refine lv_aload_n hx hb dX5_kept_7 rfl (lv_at hl 0 rfl) ?_
    refine lv_iload_n hx hb dX5_kept_8 rfl (lv_at hl 1 rfl) ?_
    have g2 := ok
    refine q_callp (va_runV (As := [.int x1]) (rest := []) ⟨hx, hb, hml, hown, hts⟩ (c_X_kept0 l D cs ad hi I x1 g2) (cwV 1 hts (gV k_348 k_349 k_437 k_6 k_350) rfl rfl rfl (by decide +kernel) ⟨Nat.le_of_ble_eq_true rfl, Nat.le_of_ble_eq_true rfl⟩) (q_preV hK hP (va_recv hK hP (ci := 5) (q0 := 75) rfl (mq_X isO_75))) rfl rfl hl.1 rfl (lv_room (Nat.le_of_ble_eq_true rfl)) dX5_kept_9 ⟨Nat.zero_le _, Nat.zero_le _⟩) hS (fun _ h => h) (fun H locs hP hS => ?_)
    refine lv_goto (tgt := 16) hx hb dX5_kept_12 (by decide) ?_
    exact q_iretP hx hb hr hlocks dX5_kept_16 hP hS (by rw [f_X_kept, if_neg c1])
def f_X_source (I : Mm) (x1 x2 : Int32) : Int32 := (if (f_X_isProcess x1) = 0 then (-1) else (if x2 ≤ (I 83 x1.toNatClampNeg) then (-3) else (if (I 86 x1.toNatClampNeg) < x2 then (-3) else (I 88 ((((512 * x1) + x2) - 1).toNatClampNeg)))))
def ok_X_source (I : Mm) (x1 x2 : Int32) : Prop := ((f_X_isProcess x1) = 0 → True) ∧ (¬ (f_X_isProcess x1) = 0 → vp_in x1 3 ∧ ((x2 ≤ (I 83 x1.toNatClampNeg) → True) ∧ (¬ x2 ≤ (I 83 x1.toNatClampNeg) → ((I 86 x1.toNatClampNeg) < x2 → True) ∧ (¬ (I 86 x1.toNatClampNeg) < x2 → vp_in (((512 * x1) + x2) - 1) 1536))))
set_option maxHeartbeats 4000000 in
set_option maxRecDepth 100000 in
theorem c_X_source (l : Launch) (D : va_G) (cs : Nat → ClassId) (ad : Nat → Nat) (hi : mi ad) (I : Mm) (x1 x2 : Int32) (ok : ok_X_source I x1 x2) : MC l yX5_source wX5_source { frames := 1, cells := 0, slots := 0, locals := 20 } D cs ad [.ref (ad 75), .int x1, .int x2] I (some (.int (f_X_source I x1 x2))) I := by
  unfold ok_X_source at ok
  refine q_enter (cc := cX5_source) (maxL := 3) (ret := (some .int)) (by decide +kernel) rfl (Nat.le_of_ble_eq_true rfl) ?_
  intro p e s m below meth c ls hx hb hr hml hown hts hlocks hK hP hS hl
  have hown : s.vm.findClass RX5 = some m.cls := hown
  have hts : ∀ w ∈ gtbl, w.before _ s = true := fun w h => hts w (List.mem_cons_of_mem _ h)
  have hl : lv_has ls 3 [(0, .ref (ad 75)), (1, .int x1), (2, .int x2)] := hl
  refine lv_iload_n hx hb dX5_source_0 rfl (lv_at hl 1 rfl) ?_
  refine q_callp (va_runS (As := [.int x1]) (rest := []) ⟨hx, hb, hml, hown, hts⟩ (c_X_isProcess l D cs ad hi I x1) (va_cwS 1 hts (gS k_332 k_333 k_6 k_334) rfl rfl rfl (by decide +kernel) ⟨Nat.le_of_ble_eq_true rfl, Nat.le_of_ble_eq_true rfl⟩) (q_preS hK hP) rfl rfl hl.1 rfl (lv_room (Nat.le_of_ble_eq_true rfl)) dX5_source_1 ⟨Nat.zero_le _, Nat.zero_le _⟩) hS (fun _ h => h) (fun H locs hP hS => ?_)
  refine lv_if_ne (tgt := 9) hx hb dX5_source_4 (by decide) (fun c1 => ?_) (fun c1 => ?_)
  · have ok := ok.2 c1
    refine lv_iload_n hx hb dX5_source_9 rfl (lv_at hl 2 rfl) ?_
    refine lv_aload_n hx hb dX5_source_10 rfl (lv_at hl 0 rfl) ?_
    refine va_get (D := D) (ci := 5) (v := .ref (ad 83)) (C := RX5) (T := TX5) (N := 26) hx hb hts inX5 hown hK hP 75 (mq_X isO_75) rfl 7 (by decide) (hts _ k_282) (fun _ h9 => h9) rfl dX5_source_11 ?_
    refine lv_iload_n hx hb dX5_source_14 rfl (lv_at hl 1 rfl) ?_
    have g2 := ok.1
    have ok := ok.2
    refine va_iald hx hb hK hP 83 0 (mq_A iA_83) rfl g2 dX5_source_15 ?_
    refine lv_icmp_le (tgt := 46) hx hb dX5_source_16 (by decide) (fun c3 => ?_) (fun c3 => ?_)
    · have ok := ok.1 c3
      refine lv_bipush (v := (-3)) hx hb dX5_source_46 (by decide) ?_
      exact q_iretP hx hb hr hlocks dX5_source_48 hP hS (by rw [f_X_source, if_neg c1, if_pos c3])
    · have ok := ok.2 c3
      refine lv_iload_n hx hb dX5_source_19 rfl (lv_at hl 2 rfl) ?_
      refine lv_aload_n hx hb dX5_source_20 rfl (lv_at hl 0 rfl) ?_
      refine va_get (D := D) (ci := 5) (v := .ref (ad 86)) (C := RX5) (T := TX5) (N := 26) hx hb hts inX5 hown hK hP 75 (mq_X isO_75) rfl 10 (by decide) (hts _ k_285) (fun _ h9 => h9) rfl dX5_source_21 ?_
      refine lv_iload_n hx hb dX5_source_24 rfl (lv_at hl 1 rfl) ?_
      refine va_iald hx hb hK hP 86 0 (mq_A iA_86) rfl g2 dX5_source_25 ?_
      refine lv_icmp_gt (tgt := 46) hx hb dX5_source_26 (by decide) (fun c4 => ?_) (fun c4 => ?_)
      · have ok := ok.1 c4
        refine lv_bipush (v := (-3)) hx hb dX5_source_46 (by decide) ?_
        exact q_iretP hx hb hr hlocks dX5_source_48 hP hS (by rw [f_X_source, if_neg c1, if_neg c3, if_pos c4])
      · have ok := ok.2 c4
        refine lv_aload_n hx hb dX5_source_29 rfl (lv_at hl 0 rfl) ?_
        refine va_get (D := D) (ci := 5) (v := .ref (ad 88)) (C := RX5) (T := TX5) (N := 26) hx hb hts inX5 hown hK hP 75 (mq_X isO_75) rfl 12 (by decide) (hts _ k_287) (fun _ h9 => h9) rfl dX5_source_30 ?_
        refine lv_sipush (v := 512) hx hb dX5_source_33 (by decide) ?_
        refine lv_iload_n hx hb dX5_source_36 rfl (lv_at hl 1 rfl) ?_
        refine lv_imul hx hb dX5_source_37 ?_
        refine lv_iload_n hx hb dX5_source_38 rfl (lv_at hl 2 rfl) ?_
        refine lv_iadd hx hb dX5_source_39 ?_
        refine lv_iconst (v := 1) hx hb dX5_source_40 (by decide) ?_
        refine lv_isub hx hb dX5_source_41 ?_
        have g5 := ok
        refine va_iald hx hb hK hP 88 0 (mq_A iA_88) rfl g5 dX5_source_42 ?_
        refine lv_goto (tgt := 48) hx hb dX5_source_43 (by decide) ?_
        exact q_iretP hx hb hr hlocks dX5_source_48 hP hS (by rw [f_X_source, if_neg c1, if_neg c3, if_neg c4])
  · have ok := ok.1 c1
    refine lv_iconst (v := (-1)) hx hb dX5_source_7 (by decide) ?_
    exact q_iretP hx hb hr hlocks dX5_source_8 hP hS (by rw [f_X_source, if_pos c1])
def f_X_waiting (I : Mm) (x1 x2 : Int32) : Int32 := (if (f_X_isChannel x1 x2) = 0 then (-1) else ((I 89 (((3 * x1) + x2).toNatClampNeg)) - (I 90 (((3 * x1) + x2).toNatClampNeg))))
def ok_X_waiting  (x1 x2 : Int32) : Prop := ((f_X_isChannel x1 x2) = 0 → True) ∧ (¬ (f_X_isChannel x1 x2) = 0 → vp_in ((3 * x1) + x2) 9)
set_option maxHeartbeats 4000000 in
set_option maxRecDepth 100000 in
theorem c_X_waiting (l : Launch) (D : va_G) (cs : Nat → ClassId) (ad : Nat → Nat) (hi : mi ad) (I : Mm) (x1 x2 : Int32) (ok : ok_X_waiting x1 x2) : MC l yX5_waiting wX5_waiting { frames := 2, cells := 0, slots := 0, locals := 41 } D cs ad [.ref (ad 75), .int x1, .int x2] I (some (.int (f_X_waiting I x1 x2))) I := by
  unfold ok_X_waiting at ok
  refine q_enter (cc := cX5_waiting) (maxL := 3) (ret := (some .int)) (by decide +kernel) rfl (Nat.le_of_ble_eq_true rfl) ?_
  intro p e s m below meth c ls hx hb hr hml hown hts hlocks hK hP hS hl
  have hown : s.vm.findClass RX5 = some m.cls := hown
  have hts : ∀ w ∈ gtbl, w.before _ s = true := fun w h => hts w (List.mem_cons_of_mem _ h)
  have hl : lv_has ls 3 [(0, .ref (ad 75)), (1, .int x1), (2, .int x2)] := hl
  refine lv_iload_n hx hb dX5_waiting_0 rfl (lv_at hl 1 rfl) ?_
  refine lv_iload_n hx hb dX5_waiting_1 rfl (lv_at hl 2 rfl) ?_
  refine q_callp (va_runS (As := [.int x1, .int x2]) (rest := []) ⟨hx, hb, hml, hown, hts⟩ (c_X_isChannel l D cs ad hi I x1 x2) (va_cwS 2 hts (gS k_335 k_336 k_6 k_337) rfl rfl rfl (by decide +kernel) ⟨Nat.le_of_ble_eq_true rfl, Nat.le_of_ble_eq_true rfl⟩) (q_preS hK hP) rfl rfl hl.1 rfl (lv_room (Nat.le_of_ble_eq_true rfl)) dX5_waiting_2 ⟨Nat.zero_le _, Nat.zero_le _⟩) hS (fun _ h => h) (fun H locs hP hS => ?_)
  refine lv_if_eq (tgt := 32) hx hb dX5_waiting_5 (by decide) (fun c1 => ?_) (fun c1 => ?_)
  · have ok := ok.1 c1
    refine lv_iconst (v := (-1)) hx hb dX5_waiting_32 (by decide) ?_
    exact q_iretP hx hb hr hlocks dX5_waiting_33 hP hS (by rw [f_X_waiting, if_pos c1])
  · have ok := ok.2 c1
    refine lv_aload_n hx hb dX5_waiting_8 rfl (lv_at hl 0 rfl) ?_
    refine va_get (D := D) (ci := 5) (v := .ref (ad 89)) (C := RX5) (T := TX5) (N := 26) hx hb hts inX5 hown hK hP 75 (mq_X isO_75) rfl 13 (by decide) (hts _ k_288) (fun _ h9 => h9) rfl dX5_waiting_9 ?_
    refine lv_iconst (v := 3) hx hb dX5_waiting_12 (by decide) ?_
    refine lv_iload_n hx hb dX5_waiting_13 rfl (lv_at hl 1 rfl) ?_
    refine lv_imul hx hb dX5_waiting_14 ?_
    refine lv_iload_n hx hb dX5_waiting_15 rfl (lv_at hl 2 rfl) ?_
    refine lv_iadd hx hb dX5_waiting_16 ?_
    have g2 := ok
    refine va_iald hx hb hK hP 89 0 (mq_A iA_89) rfl g2 dX5_waiting_17 ?_
    refine lv_aload_n hx hb dX5_waiting_18 rfl (lv_at hl 0 rfl) ?_
    refine va_get (D := D) (ci := 5) (v := .ref (ad 90)) (C := RX5) (T := TX5) (N := 26) hx hb hts inX5 hown hK hP 75 (mq_X isO_75) rfl 14 (by decide) (hts _ k_289) (fun _ h9 => h9) rfl dX5_waiting_19 ?_
    refine lv_iconst (v := 3) hx hb dX5_waiting_22 (by decide) ?_
    refine lv_iload_n hx hb dX5_waiting_23 rfl (lv_at hl 1 rfl) ?_
    refine lv_imul hx hb dX5_waiting_24 ?_
    refine lv_iload_n hx hb dX5_waiting_25 rfl (lv_at hl 2 rfl) ?_
    refine lv_iadd hx hb dX5_waiting_26 ?_
    refine va_iald hx hb hK hP 90 0 (mq_A iA_90) rfl g2 dX5_waiting_27 ?_
    refine lv_isub hx hb dX5_waiting_28 ?_
    refine lv_goto (tgt := 33) hx hb dX5_waiting_29 (by decide) ?_
    exact q_iretP hx hb hr hlocks dX5_waiting_33 hP hS (by rw [f_X_waiting, if_neg c1])
def f_X_held (I : Mm) (x1 : Int32) : Int32 := (if (f_X_isProcess x1) = 0 then (-1) else (I 85 x1.toNatClampNeg))
def ok_X_held  (x1 : Int32) : Prop := ((f_X_isProcess x1) = 0 → True) ∧ (¬ (f_X_isProcess x1) = 0 → vp_in x1 3)
set_option maxHeartbeats 4000000 in
set_option maxRecDepth 100000 in
theorem c_X_held (l : Launch) (D : va_G) (cs : Nat → ClassId) (ad : Nat → Nat) (hi : mi ad) (I : Mm) (x1 : Int32) (ok : ok_X_held x1) : MC l yX5_held wX5_held { frames := 1, cells := 0, slots := 0, locals := 20 } D cs ad [.ref (ad 75), .int x1] I (some (.int (f_X_held I x1))) I := by
  unfold ok_X_held at ok
  refine q_enter (cc := cX5_held) (maxL := 2) (ret := (some .int)) (by decide +kernel) rfl (Nat.le_of_ble_eq_true rfl) ?_
  intro p e s m below meth c ls hx hb hr hml hown hts hlocks hK hP hS hl
  have hown : s.vm.findClass RX5 = some m.cls := hown
  have hts : ∀ w ∈ gtbl, w.before _ s = true := fun w h => hts w (List.mem_cons_of_mem _ h)
  have hl : lv_has ls 2 [(0, .ref (ad 75)), (1, .int x1)] := hl
  refine lv_iload_n hx hb dX5_held_0 rfl (lv_at hl 1 rfl) ?_
  refine q_callp (va_runS (As := [.int x1]) (rest := []) ⟨hx, hb, hml, hown, hts⟩ (c_X_isProcess l D cs ad hi I x1) (va_cwS 1 hts (gS k_332 k_333 k_6 k_334) rfl rfl rfl (by decide +kernel) ⟨Nat.le_of_ble_eq_true rfl, Nat.le_of_ble_eq_true rfl⟩) (q_preS hK hP) rfl rfl hl.1 rfl (lv_room (Nat.le_of_ble_eq_true rfl)) dX5_held_1 ⟨Nat.zero_le _, Nat.zero_le _⟩) hS (fun _ h => h) (fun H locs hP hS => ?_)
  refine lv_if_eq (tgt := 16) hx hb dX5_held_4 (by decide) (fun c1 => ?_) (fun c1 => ?_)
  · have ok := ok.1 c1
    refine lv_iconst (v := (-1)) hx hb dX5_held_16 (by decide) ?_
    exact q_iretP hx hb hr hlocks dX5_held_17 hP hS (by rw [f_X_held, if_pos c1])
  · have ok := ok.2 c1
    refine lv_aload_n hx hb dX5_held_7 rfl (lv_at hl 0 rfl) ?_
    refine va_get (D := D) (ci := 5) (v := .ref (ad 85)) (C := RX5) (T := TX5) (N := 26) hx hb hts inX5 hown hK hP 75 (mq_X isO_75) rfl 9 (by decide) (hts _ k_284) (fun _ h9 => h9) rfl dX5_held_8 ?_
    refine lv_iload_n hx hb dX5_held_11 rfl (lv_at hl 1 rfl) ?_
    have g2 := ok
    refine va_iald hx hb hK hP 85 0 (mq_A iA_85) rfl g2 dX5_held_12 ?_
    refine lv_goto (tgt := 17) hx hb dX5_held_13 (by decide) ?_
    exact q_iretP hx hb hr hlocks dX5_held_17 hP hS (by rw [f_X_held, if_neg c1])
def f_X_outputs (I : Mm) : Int32 := (I 75 0)
set_option maxHeartbeats 4000000 in
set_option maxRecDepth 100000 in
theorem c_X_outputs (l : Launch) (D : va_G) (cs : Nat → ClassId) (ad : Nat → Nat) (hi : mi ad) (I : Mm) : MC l yX5_outputs wX5_outputs { frames := 0, cells := 0, slots := 0, locals := 0 } D cs ad [.ref (ad 75)] I (some (.int (f_X_outputs I))) I := by
  refine q_enter (cc := cX5_outputs) (maxL := 1) (ret := (some .int)) (by decide +kernel) rfl (Nat.le_of_ble_eq_true rfl) ?_
  intro p e s m below meth c ls hx hb hr hml hown hts hlocks hK hP hS hl
  have hown : s.vm.findClass RX5 = some m.cls := hown
  have hts : ∀ w ∈ gtbl, w.before _ s = true := fun w h => hts w (List.mem_cons_of_mem _ h)
  have hl : lv_has ls 1 [(0, .ref (ad 75))] := hl
  refine lv_aload_n hx hb dX5_outputs_0 rfl (lv_at hl 0 rfl) ?_
  refine va_get (D := D) (ci := 5) (v := .int (I 75 0)) (C := RX5) (T := TX5) (N := 26) hx hb hts inX5 hown hK hP 75 (mq_X isO_75) rfl 16 (by decide) (hts _ k_291) (fun _ h9 => h9) rfl dX5_outputs_1 ?_
  exact q_iretP hx hb hr hlocks dX5_outputs_4 hP hS rfl
def f_X_author (I : Mm) (x1 : Int32) : Int32 := (if x1 < 0 then (-1) else (if (I 75 0) ≤ x1 then (-1) else (I 92 x1.toNatClampNeg)))
def ok_X_author (I : Mm) (x1 : Int32) : Prop := (x1 < 0 → True) ∧ (¬ x1 < 0 → ((I 75 0) ≤ x1 → True) ∧ (¬ (I 75 0) ≤ x1 → vp_in x1 60))
set_option maxHeartbeats 4000000 in
set_option maxRecDepth 100000 in
theorem c_X_author (l : Launch) (D : va_G) (cs : Nat → ClassId) (ad : Nat → Nat) (hi : mi ad) (I : Mm) (x1 : Int32) (ok : ok_X_author I x1) : MC l yX5_author wX5_author { frames := 0, cells := 0, slots := 0, locals := 0 } D cs ad [.ref (ad 75), .int x1] I (some (.int (f_X_author I x1))) I := by
  unfold ok_X_author at ok
  refine q_enter (cc := cX5_author) (maxL := 2) (ret := (some .int)) (by decide +kernel) rfl (Nat.le_of_ble_eq_true rfl) ?_
  intro p e s m below meth c ls hx hb hr hml hown hts hlocks hK hP hS hl
  have hown : s.vm.findClass RX5 = some m.cls := hown
  have hts : ∀ w ∈ gtbl, w.before _ s = true := fun w h => hts w (List.mem_cons_of_mem _ h)
  have hl : lv_has ls 2 [(0, .ref (ad 75)), (1, .int x1)] := hl
  refine lv_iload_n hx hb dX5_author_0 rfl (lv_at hl 1 rfl) ?_
  refine lv_if_lt (tgt := 21) hx hb dX5_author_1 (by decide) (fun c1 => ?_) (fun c1 => ?_)
  · have ok := ok.1 c1
    refine lv_iconst (v := (-1)) hx hb dX5_author_21 (by decide) ?_
    exact q_iretP hx hb hr hlocks dX5_author_22 hP hS (by rw [f_X_author, if_pos c1])
  · have ok := ok.2 c1
    refine lv_iload_n hx hb dX5_author_4 rfl (lv_at hl 1 rfl) ?_
    refine lv_aload_n hx hb dX5_author_5 rfl (lv_at hl 0 rfl) ?_
    refine va_get (D := D) (ci := 5) (v := .int (I 75 0)) (C := RX5) (T := TX5) (N := 26) hx hb hts inX5 hown hK hP 75 (mq_X isO_75) rfl 16 (by decide) (hts _ k_291) (fun _ h9 => h9) rfl dX5_author_6 ?_
    refine lv_icmp_ge (tgt := 21) hx hb dX5_author_9 (by decide) (fun c2 => ?_) (fun c2 => ?_)
    · have ok := ok.1 c2
      refine lv_iconst (v := (-1)) hx hb dX5_author_21 (by decide) ?_
      exact q_iretP hx hb hr hlocks dX5_author_22 hP hS (by rw [f_X_author, if_neg c1, if_pos c2])
    · have ok := ok.2 c2
      refine lv_aload_n hx hb dX5_author_12 rfl (lv_at hl 0 rfl) ?_
      refine va_get (D := D) (ci := 5) (v := .ref (ad 92)) (C := RX5) (T := TX5) (N := 26) hx hb hts inX5 hown hK hP 75 (mq_X isO_75) rfl 17 (by decide) (hts _ k_292) (fun _ h9 => h9) rfl dX5_author_13 ?_
      refine lv_iload_n hx hb dX5_author_16 rfl (lv_at hl 1 rfl) ?_
      have g3 := ok
      refine va_iald hx hb hK hP 92 0 (mq_A iA_92) rfl g3 dX5_author_17 ?_
      refine lv_goto (tgt := 22) hx hb dX5_author_18 (by decide) ?_
      exact q_iretP hx hb hr hlocks dX5_author_22 hP hS (by rw [f_X_author, if_neg c1, if_neg c2])
def f_X_output (I : Mm) (x1 : Int32) : Int32 := (if x1 < 0 then 0 else (if (I 75 0) ≤ x1 then 0 else (I 93 x1.toNatClampNeg)))
def ok_X_output (I : Mm) (x1 : Int32) : Prop := (x1 < 0 → True) ∧ (¬ x1 < 0 → ((I 75 0) ≤ x1 → True) ∧ (¬ (I 75 0) ≤ x1 → vp_in x1 60))
set_option maxHeartbeats 4000000 in
set_option maxRecDepth 100000 in
theorem c_X_output (l : Launch) (D : va_G) (cs : Nat → ClassId) (ad : Nat → Nat) (hi : mi ad) (I : Mm) (x1 : Int32) (ok : ok_X_output I x1) : MC l yX5_output wX5_output { frames := 0, cells := 0, slots := 0, locals := 0 } D cs ad [.ref (ad 75), .int x1] I (some (.int (f_X_output I x1))) I := by
  unfold ok_X_output at ok
  refine q_enter (cc := cX5_output) (maxL := 2) (ret := (some .int)) (by decide +kernel) rfl (Nat.le_of_ble_eq_true rfl) ?_
  intro p e s m below meth c ls hx hb hr hml hown hts hlocks hK hP hS hl
  have hown : s.vm.findClass RX5 = some m.cls := hown
  have hts : ∀ w ∈ gtbl, w.before _ s = true := fun w h => hts w (List.mem_cons_of_mem _ h)
  have hl : lv_has ls 2 [(0, .ref (ad 75)), (1, .int x1)] := hl
  refine lv_iload_n hx hb dX5_output_0 rfl (lv_at hl 1 rfl) ?_
  refine lv_if_lt (tgt := 21) hx hb dX5_output_1 (by decide) (fun c1 => ?_) (fun c1 => ?_)
  · have ok := ok.1 c1
    refine lv_iconst (v := 0) hx hb dX5_output_21 (by decide) ?_
    exact q_iretP hx hb hr hlocks dX5_output_22 hP hS (by rw [f_X_output, if_pos c1])
  · have ok := ok.2 c1
    refine lv_iload_n hx hb dX5_output_4 rfl (lv_at hl 1 rfl) ?_
    refine lv_aload_n hx hb dX5_output_5 rfl (lv_at hl 0 rfl) ?_
    refine va_get (D := D) (ci := 5) (v := .int (I 75 0)) (C := RX5) (T := TX5) (N := 26) hx hb hts inX5 hown hK hP 75 (mq_X isO_75) rfl 16 (by decide) (hts _ k_291) (fun _ h9 => h9) rfl dX5_output_6 ?_
    refine lv_icmp_ge (tgt := 21) hx hb dX5_output_9 (by decide) (fun c2 => ?_) (fun c2 => ?_)
    · have ok := ok.1 c2
      refine lv_iconst (v := 0) hx hb dX5_output_21 (by decide) ?_
      exact q_iretP hx hb hr hlocks dX5_output_22 hP hS (by rw [f_X_output, if_neg c1, if_pos c2])
    · have ok := ok.2 c2
      refine lv_aload_n hx hb dX5_output_12 rfl (lv_at hl 0 rfl) ?_
      refine va_get (D := D) (ci := 5) (v := .ref (ad 93)) (C := RX5) (T := TX5) (N := 26) hx hb hts inX5 hown hK hP 75 (mq_X isO_75) rfl 18 (by decide) (hts _ k_293) (fun _ h9 => h9) rfl dX5_output_13 ?_
      refine lv_iload_n hx hb dX5_output_16 rfl (lv_at hl 1 rfl) ?_
      have g3 := ok
      refine va_iald hx hb hK hP 93 0 (mq_A iA_93) rfl g3 dX5_output_17 ?_
      refine lv_goto (tgt := 22) hx hb dX5_output_18 (by decide) ?_
      exact q_iretP hx hb hr hlocks dX5_output_22 hP hS (by rw [f_X_output, if_neg c1, if_neg c2])
end
section
def l_X_load : Nat → Mm → Int32 → Int32 → Mm
  | 0, J, _, _ => J
  | n + 1, J, x1, x2 => (if (J 81 x1.toNatClampNeg) ≤ x2 then (J) else (l_X_load n ((f_X_go J x1 1).2) x1 (x2 + 1)))
def okl_X_load : Nat → Mm → Int32 → Int32 → Prop
  | 0, _, _, _ => False
  | n + 1, J, x1, x2 => vp_in x1 3 ∧ (((J 81 x1.toNatClampNeg) ≤ x2 → True) ∧ (¬ (J 81 x1.toNatClampNeg) ≤ x2 → ok_X_go J x1 1 ∧ (okl_X_load n ((f_X_go J x1 1).2) x1 (x2 + 1))))
set_option maxHeartbeats 4000000 in
set_option maxRecDepth 100000 in
theorem w_X_load (l : Launch) (D : va_G) (cs : Nat → ClassId) (ad : Nat → Nat) (hi : mi ad) {p : Program} {e : Env} {s : State} {m : MethodId} {args : Array Value} {below : List Frame} {meth : Method} {c : Code} {Q : State → Prop} (x1 : Int32) (hx : p.tables.exec = Jvm.exec) (hb : c.code = cX5_load) (hml : c.maxLocals = 3) (hown : s.vm.findClass RX5 = some m.cls) (hts : ∀ w ∈ gtbl, w.before args s = true) (hK : va_K D vwCl (tyl cs) s) : ∀ (n : Nat) (J : Mm) (x2 : Int32) (H : Heap) (locs : List Loc) (ls : Array Slot), okl_X_load n J x1 x2 → va_P D vwCl (mw 97 ad (gs cs ad J)) H → va_S (mA ad) s.heap H locs → lv_has ls 3 [(2, .int x2), (0, .ref (ad 75)), (1, .int x1)] → (∀ (H : Heap) (locs : List Loc) (ls : Array Slot), va_P D vwCl (mw 97 ad (gs cs ad (l_X_load n J x1 x2))) H → va_S (mA ad) s.heap H locs → lv_has ls 3 [(0, .ref (ad 75)), (1, .int x1)] → W p l e { frames := 2, cells := 0, slots := 0, locals := 50 } s m args below meth c H locs 0 0 Q (F0 m 85 ls [])) → W p l e { frames := 2, cells := 0, slots := 0, locals := 50 } s m args below meth c H locs 0 0 Q (F0 m 62 ls []) := by
  intro n
  induction n with
  | zero =>
    intro J x2 H locs ls ok hP hS hl kk
    exact absurd ok id
  | succ n ih =>
    intro J x2 H locs ls ok hP hS hl kk
    rw [okl_X_load] at ok
    refine lv_iload_n hx hb dX5_load_62 rfl (lv_at hl 0 rfl) ?_
    refine lv_aload_n hx hb dX5_load_63 rfl (lv_at hl 1 rfl) ?_
    refine va_get (D := D) (ci := 5) (v := .ref (ad 81)) (C := RX5) (T := TX5) (N := 26) hx hb hts inX5 hown hK hP 75 (mq_X isO_75) rfl 5 (by decide) (hts _ k_280) (fun _ h9 => h9) rfl dX5_load_64 ?_
    refine lv_iload_n hx hb dX5_load_67 rfl (lv_at hl 2 rfl) ?_
    have g1 := ok.1
    have ok := ok.2
    refine va_iald hx hb hK hP 81 0 (mq_A iA_81) rfl g1 dX5_load_68 ?_
    refine lv_icmp_ge (tgt := 85) hx hb dX5_load_69 (by decide) (fun c2 => ?_) (fun c2 => ?_)
    · have ok := ok.1 c2
      have e9 : l_X_load (n + 1) J x1 x2 = (J) := (by rw [l_X_load, if_pos c2])
      rw [e9] at kk
      exact kk _ _ _ hP hS (lv_sub hl [1, 2] rfl)
    · have ok := ok.2 c2
      refine lv_aload_n hx hb dX5_load_72 rfl (lv_at hl 1 rfl) ?_
      refine lv_iload_n hx hb dX5_load_73 rfl (lv_at hl 2 rfl) ?_
      refine lv_iconst (v := 1) hx hb dX5_load_74 (by decide) ?_
      have g3 := ok.1
      have ok := ok.2
      refine q_calli (va_runV (As := [.int x1, .int 1]) (rest := []) ⟨hx, hb, hml, hown, hts⟩ (c_X_go l D cs ad hi J x1 1 g3) (cwV 2 hts (gV k_365 k_366 k_440 k_6 k_367) rfl rfl rfl (by decide +kernel) ⟨Nat.le_of_ble_eq_true rfl, Nat.le_of_ble_eq_true rfl⟩) (q_preV hK hP (va_recv hK hP (ci := 5) (q0 := 75) rfl (mq_X isO_75))) rfl rfl hl.1 rfl (lv_room (Nat.le_of_ble_eq_true rfl)) dX5_load_75 ⟨Nat.zero_le _, Nat.zero_le _⟩) hS (fun _ h => h) (fun H locs hP hS => ?_)
      refine lv_pop hx hb dX5_load_78 rfl ?_
      refine lv_iinc (v := x2 + 1) (lv' := [(2, .int (x2 + 1)), (0, .ref (ad 75)), (1, .int x1)]) hx hb dX5_load_79 hl (k := 0) rfl rfl (by decide) rfl (fun ls hl => ?_)
      refine lv_goto (tgt := 62) hx hb dX5_load_82 (by decide) ?_
      have e9 : l_X_load (n + 1) J x1 x2 = l_X_load n ((f_X_go J x1 1).2) x1 (x2 + 1) := (by rw [l_X_load, if_neg c2])
      rw [e9] at kk
      exact ih ((f_X_go J x1 1).2) (x2 + 1) _ _ _ ok hP hS (lv_sub hl [0, 1, 2] rfl) kk
def m_X_load_1 (I : Mm) (x1 : Int32) : Mm := u2 I 95 ((0 : Int32).toNatClampNeg) 0
def m_X_load_2 (I : Mm) (x1 : Int32) : Mm := u2 (m_X_load_1 I x1) 95 ((1 : Int32).toNatClampNeg) 0
def m_X_load_3 (I : Mm) (x1 : Int32) : Mm := u2 (m_X_load_2 I x1) 95 ((2 : Int32).toNatClampNeg) 0
def m_X_load_4 (I : Mm) (x1 : Int32) : Mm := u2 (m_X_load_3 I x1) 95 ((3 : Int32).toNatClampNeg) 0
def m_X_load_5 (I : Mm) (x1 : Int32) : Mm := u2 (m_X_load_4 I x1) 96 ((0 : Int32).toNatClampNeg) 0
def m_X_load_6 (I : Mm) (x1 : Int32) : Mm := u2 (m_X_load_5 I x1) 96 ((1 : Int32).toNatClampNeg) 0
def m_X_load_7 (I : Mm) (x1 : Int32) : Mm := u2 (m_X_load_6 I x1) 96 ((2 : Int32).toNatClampNeg) 0
def m_X_load_8 (I : Mm) (x1 : Int32) : Mm := u2 (m_X_load_7 I x1) 75 1 0
def m_X_load_9 (I : Mm) (x1 : Int32) : Mm := u2 (m_X_load_8 I x1) 75 2 0
def m_X_load_10 (I : Mm) (x1 : Int32) : Mm := u2 (m_X_load_9 I x1) 75 3 0
def m_X_load_11 (I : Mm) (x1 : Int32) : Mm := u2 (m_X_load_10 I x1) 75 4 0
def f_X_load (I : Mm) (x1 : Int32) : Mm := ((l_X_load (((m_X_load_11 I x1) 81 x1.toNatClampNeg).toNatClampNeg + 1) (m_X_load_11 I x1) x1 0))
def ok_X_load (I : Mm) (x1 : Int32) : Prop := okl_X_load (((m_X_load_11 I x1) 81 x1.toNatClampNeg).toNatClampNeg + 1) (m_X_load_11 I x1) x1 0
set_option maxHeartbeats 4000000 in
set_option maxRecDepth 100000 in
theorem c_X_load (l : Launch) (D : va_G) (cs : Nat → ClassId) (ad : Nat → Nat) (hi : mi ad) (I : Mm) (x1 : Int32) (ok : ok_X_load I x1) : MC l yX5_load wX5_load { frames := 2, cells := 0, slots := 0, locals := 50 } D cs ad [.ref (ad 75), .int x1] I none (f_X_load I x1) := by
  unfold ok_X_load at ok
  refine q_enter (cc := cX5_load) (maxL := 3) (ret := none) (by decide +kernel) rfl (Nat.le_of_ble_eq_true rfl) ?_
  intro p e s m below meth c ls hx hb hr hml hown hts hlocks hK hP hS hl
  have hown : s.vm.findClass RX5 = some m.cls := hown
  have hts : ∀ w ∈ gtbl, w.before _ s = true := fun w h => hts w (List.mem_cons_of_mem _ h)
  have hl : lv_has ls 3 [(0, .ref (ad 75)), (1, .int x1)] := hl
  refine lv_iconst (v := 0) hx hb dX5_load_0 (by decide) ?_
  refine lv_istore_n (lv' := [(2, .int 0), (0, .ref (ad 75)), (1, .int x1)]) hx hb dX5_load_1 rfl hl (by decide) rfl (fun ls hl => ?_)
  refine lv_iload_n hx hb dX5_load_2 rfl (lv_at hl 0 rfl) ?_
  refine lv_iconst (v := 4) hx hb dX5_load_3 (by decide) ?_
  refine lv_icmp_ge (tgt := 20) hx hb dX5_load_4 (by decide) (fun c1 => absurd c1 (by decide)) (fun c1 => ?_)
  refine lv_aload_n hx hb dX5_load_7 rfl (lv_at hl 1 rfl) ?_
  refine va_get (D := D) (ci := 5) (v := .ref (ad 95)) (C := RX5) (T := TX5) (N := 26) hx hb hts inX5 hown hK hP 75 (mq_X isO_75) rfl 20 (by decide) (hts _ k_295) (fun _ h9 => h9) rfl dX5_load_8 ?_
  refine lv_iload_n hx hb dX5_load_11 rfl (lv_at hl 0 rfl) ?_
  refine lv_iconst (v := 0) hx hb dX5_load_12 (by decide) ?_
  refine va_iast hx hb hK hP (mD hi) hS 95 0 (mq_A iA_95) rfl (by unfold vp_in; decide) dX5_load_13 (fun H locs hP _ hS => ?_)
  have hP := ms_A iA_95 hP
  have hP : va_P D vwCl (mw 97 ad (gs cs ad (m_X_load_1 I x1))) H := hP
  refine lv_iinc (v := 1) (lv' := [(2, .int 1), (0, .ref (ad 75)), (1, .int x1)]) hx hb dX5_load_14 hl (k := 0) rfl (by decide) (by decide) rfl (fun ls hl => ?_)
  refine lv_goto (tgt := 2) hx hb dX5_load_17 (by decide) ?_
  refine lv_iload_n hx hb dX5_load_2 rfl (lv_at hl 0 rfl) ?_
  refine lv_iconst (v := 4) hx hb dX5_load_3 (by decide) ?_
  refine lv_icmp_ge (tgt := 20) hx hb dX5_load_4 (by decide) (fun c2 => absurd c2 (by decide)) (fun c2 => ?_)
  refine lv_aload_n hx hb dX5_load_7 rfl (lv_at hl 1 rfl) ?_
  refine va_get (D := D) (ci := 5) (v := .ref (ad 95)) (C := RX5) (T := TX5) (N := 26) hx hb hts inX5 hown hK hP 75 (mq_X isO_75) rfl 20 (by decide) (hts _ k_295) (fun _ h9 => h9) rfl dX5_load_8 ?_
  refine lv_iload_n hx hb dX5_load_11 rfl (lv_at hl 0 rfl) ?_
  refine lv_iconst (v := 0) hx hb dX5_load_12 (by decide) ?_
  refine va_iast hx hb hK hP (mD hi) hS 95 0 (mq_A iA_95) rfl (by unfold vp_in; decide) dX5_load_13 (fun H locs hP _ hS => ?_)
  have hP := ms_A iA_95 hP
  have hP : va_P D vwCl (mw 97 ad (gs cs ad (m_X_load_2 I x1))) H := hP
  refine lv_iinc (v := 2) (lv' := [(2, .int 2), (0, .ref (ad 75)), (1, .int x1)]) hx hb dX5_load_14 hl (k := 0) rfl (by decide) (by decide) rfl (fun ls hl => ?_)
  refine lv_goto (tgt := 2) hx hb dX5_load_17 (by decide) ?_
  refine lv_iload_n hx hb dX5_load_2 rfl (lv_at hl 0 rfl) ?_
  refine lv_iconst (v := 4) hx hb dX5_load_3 (by decide) ?_
  refine lv_icmp_ge (tgt := 20) hx hb dX5_load_4 (by decide) (fun c3 => absurd c3 (by decide)) (fun c3 => ?_)
  refine lv_aload_n hx hb dX5_load_7 rfl (lv_at hl 1 rfl) ?_
  refine va_get (D := D) (ci := 5) (v := .ref (ad 95)) (C := RX5) (T := TX5) (N := 26) hx hb hts inX5 hown hK hP 75 (mq_X isO_75) rfl 20 (by decide) (hts _ k_295) (fun _ h9 => h9) rfl dX5_load_8 ?_
  refine lv_iload_n hx hb dX5_load_11 rfl (lv_at hl 0 rfl) ?_
  refine lv_iconst (v := 0) hx hb dX5_load_12 (by decide) ?_
  refine va_iast hx hb hK hP (mD hi) hS 95 0 (mq_A iA_95) rfl (by unfold vp_in; decide) dX5_load_13 (fun H locs hP _ hS => ?_)
  have hP := ms_A iA_95 hP
  have hP : va_P D vwCl (mw 97 ad (gs cs ad (m_X_load_3 I x1))) H := hP
  refine lv_iinc (v := 3) (lv' := [(2, .int 3), (0, .ref (ad 75)), (1, .int x1)]) hx hb dX5_load_14 hl (k := 0) rfl (by decide) (by decide) rfl (fun ls hl => ?_)
  refine lv_goto (tgt := 2) hx hb dX5_load_17 (by decide) ?_
  refine lv_iload_n hx hb dX5_load_2 rfl (lv_at hl 0 rfl) ?_
  refine lv_iconst (v := 4) hx hb dX5_load_3 (by decide) ?_
  refine lv_icmp_ge (tgt := 20) hx hb dX5_load_4 (by decide) (fun c4 => absurd c4 (by decide)) (fun c4 => ?_)
  refine lv_aload_n hx hb dX5_load_7 rfl (lv_at hl 1 rfl) ?_
  refine va_get (D := D) (ci := 5) (v := .ref (ad 95)) (C := RX5) (T := TX5) (N := 26) hx hb hts inX5 hown hK hP 75 (mq_X isO_75) rfl 20 (by decide) (hts _ k_295) (fun _ h9 => h9) rfl dX5_load_8 ?_
  refine lv_iload_n hx hb dX5_load_11 rfl (lv_at hl 0 rfl) ?_
  refine lv_iconst (v := 0) hx hb dX5_load_12 (by decide) ?_
  refine va_iast hx hb hK hP (mD hi) hS 95 0 (mq_A iA_95) rfl (by unfold vp_in; decide) dX5_load_13 (fun H locs hP _ hS => ?_)
  have hP := ms_A iA_95 hP
  have hP : va_P D vwCl (mw 97 ad (gs cs ad (m_X_load_4 I x1))) H := hP
  refine lv_iinc (v := 4) (lv' := [(2, .int 4), (0, .ref (ad 75)), (1, .int x1)]) hx hb dX5_load_14 hl (k := 0) rfl (by decide) (by decide) rfl (fun ls hl => ?_)
  refine lv_goto (tgt := 2) hx hb dX5_load_17 (by decide) ?_
  refine lv_iload_n hx hb dX5_load_2 rfl (lv_at hl 0 rfl) ?_
  refine lv_iconst (v := 4) hx hb dX5_load_3 (by decide) ?_
  refine lv_icmp_ge (tgt := 20) hx hb dX5_load_4 (by decide) (fun c5 => ?_) (fun c5 => absurd c5 (by decide))
  refine lv_iconst (v := 0) hx hb dX5_load_20 (by decide) ?_
  refine lv_istore_n (lv' := [(2, .int 0), (0, .ref (ad 75)), (1, .int x1)]) hx hb dX5_load_21 rfl hl (by decide) rfl (fun ls hl => ?_)
  refine lv_iload_n hx hb dX5_load_22 rfl (lv_at hl 0 rfl) ?_
  refine lv_iconst (v := 3) hx hb dX5_load_23 (by decide) ?_
  refine lv_icmp_ge (tgt := 40) hx hb dX5_load_24 (by decide) (fun c6 => absurd c6 (by decide)) (fun c6 => ?_)
  refine lv_aload_n hx hb dX5_load_27 rfl (lv_at hl 1 rfl) ?_
  refine va_get (D := D) (ci := 5) (v := .ref (ad 96)) (C := RX5) (T := TX5) (N := 26) hx hb hts inX5 hown hK hP 75 (mq_X isO_75) rfl 21 (by decide) (hts _ k_296) (fun _ h9 => h9) rfl dX5_load_28 ?_
  refine lv_iload_n hx hb dX5_load_31 rfl (lv_at hl 0 rfl) ?_
  refine lv_iconst (v := 0) hx hb dX5_load_32 (by decide) ?_
  refine va_iast hx hb hK hP (mD hi) hS 96 0 (mq_A iA_96) rfl (by unfold vp_in; decide) dX5_load_33 (fun H locs hP _ hS => ?_)
  have hP := ms_A iA_96 hP
  have hP : va_P D vwCl (mw 97 ad (gs cs ad (m_X_load_5 I x1))) H := hP
  refine lv_iinc (v := 1) (lv' := [(2, .int 1), (0, .ref (ad 75)), (1, .int x1)]) hx hb dX5_load_34 hl (k := 0) rfl (by decide) (by decide) rfl (fun ls hl => ?_)
  refine lv_goto (tgt := 22) hx hb dX5_load_37 (by decide) ?_
  refine lv_iload_n hx hb dX5_load_22 rfl (lv_at hl 0 rfl) ?_
  refine lv_iconst (v := 3) hx hb dX5_load_23 (by decide) ?_
  refine lv_icmp_ge (tgt := 40) hx hb dX5_load_24 (by decide) (fun c7 => absurd c7 (by decide)) (fun c7 => ?_)
  refine lv_aload_n hx hb dX5_load_27 rfl (lv_at hl 1 rfl) ?_
  refine va_get (D := D) (ci := 5) (v := .ref (ad 96)) (C := RX5) (T := TX5) (N := 26) hx hb hts inX5 hown hK hP 75 (mq_X isO_75) rfl 21 (by decide) (hts _ k_296) (fun _ h9 => h9) rfl dX5_load_28 ?_
  refine lv_iload_n hx hb dX5_load_31 rfl (lv_at hl 0 rfl) ?_
  refine lv_iconst (v := 0) hx hb dX5_load_32 (by decide) ?_
  refine va_iast hx hb hK hP (mD hi) hS 96 0 (mq_A iA_96) rfl (by unfold vp_in; decide) dX5_load_33 (fun H locs hP _ hS => ?_)
  have hP := ms_A iA_96 hP
  have hP : va_P D vwCl (mw 97 ad (gs cs ad (m_X_load_6 I x1))) H := hP
  refine lv_iinc (v := 2) (lv' := [(2, .int 2), (0, .ref (ad 75)), (1, .int x1)]) hx hb dX5_load_34 hl (k := 0) rfl (by decide) (by decide) rfl (fun ls hl => ?_)
  refine lv_goto (tgt := 22) hx hb dX5_load_37 (by decide) ?_
  refine lv_iload_n hx hb dX5_load_22 rfl (lv_at hl 0 rfl) ?_
  refine lv_iconst (v := 3) hx hb dX5_load_23 (by decide) ?_
  refine lv_icmp_ge (tgt := 40) hx hb dX5_load_24 (by decide) (fun c8 => absurd c8 (by decide)) (fun c8 => ?_)
  refine lv_aload_n hx hb dX5_load_27 rfl (lv_at hl 1 rfl) ?_
  refine va_get (D := D) (ci := 5) (v := .ref (ad 96)) (C := RX5) (T := TX5) (N := 26) hx hb hts inX5 hown hK hP 75 (mq_X isO_75) rfl 21 (by decide) (hts _ k_296) (fun _ h9 => h9) rfl dX5_load_28 ?_
  refine lv_iload_n hx hb dX5_load_31 rfl (lv_at hl 0 rfl) ?_
  refine lv_iconst (v := 0) hx hb dX5_load_32 (by decide) ?_
  refine va_iast hx hb hK hP (mD hi) hS 96 0 (mq_A iA_96) rfl (by unfold vp_in; decide) dX5_load_33 (fun H locs hP _ hS => ?_)
  have hP := ms_A iA_96 hP
  have hP : va_P D vwCl (mw 97 ad (gs cs ad (m_X_load_7 I x1))) H := hP
  refine lv_iinc (v := 3) (lv' := [(2, .int 3), (0, .ref (ad 75)), (1, .int x1)]) hx hb dX5_load_34 hl (k := 0) rfl (by decide) (by decide) rfl (fun ls hl => ?_)
  refine lv_goto (tgt := 22) hx hb dX5_load_37 (by decide) ?_
  refine lv_iload_n hx hb dX5_load_22 rfl (lv_at hl 0 rfl) ?_
  refine lv_iconst (v := 3) hx hb dX5_load_23 (by decide) ?_
  refine lv_icmp_ge (tgt := 40) hx hb dX5_load_24 (by decide) (fun c9 => ?_) (fun c9 => absurd c9 (by decide))
  refine lv_aload_n hx hb dX5_load_40 rfl (lv_at hl 1 rfl) ?_
  refine lv_iconst (v := 0) hx hb dX5_load_41 (by decide) ?_
  refine va_put (D := D) (ci := 5) (v := .int 0) (ty := .int) (C := RX5) (T := TX5) (N := 26) hx hb hts inX5 tyX5 tyX5_ok nmX5 hown hK hP (mD hi) hS 75 (mq_X isO_75) rfl 22 (by decide) (hts _ k_297) (fun _ h9 => h9) rfl (by decide +kernel) rfl rfl (Nat.le_of_ble_eq_true rfl) dX5_load_42 (fun H locs hP _ hS => ?_)
  have hP := ms_X1 isO_75 hP
  have hP : va_P D vwCl (mw 97 ad (gs cs ad (m_X_load_8 I x1))) H := hP
  refine lv_aload_n hx hb dX5_load_45 rfl (lv_at hl 1 rfl) ?_
  refine lv_iconst (v := 0) hx hb dX5_load_46 (by decide) ?_
  refine va_put (D := D) (ci := 5) (v := .int 0) (ty := .int) (C := RX5) (T := TX5) (N := 26) hx hb hts inX5 tyX5 tyX5_ok nmX5 hown hK hP (mD hi) hS 75 (mq_X isO_75) rfl 23 (by decide) (hts _ k_298) (fun _ h9 => h9) rfl (by decide +kernel) rfl rfl (Nat.le_of_ble_eq_true rfl) dX5_load_47 (fun H locs hP _ hS => ?_)
  have hP := ms_X2 isO_75 hP
  have hP : va_P D vwCl (mw 97 ad (gs cs ad (m_X_load_9 I x1))) H := hP
  refine lv_aload_n hx hb dX5_load_50 rfl (lv_at hl 1 rfl) ?_
  refine lv_iconst (v := 0) hx hb dX5_load_51 (by decide) ?_
  refine va_put (D := D) (ci := 5) (v := .int 0) (ty := .int) (C := RX5) (T := TX5) (N := 26) hx hb hts inX5 tyX5 tyX5_ok nmX5 hown hK hP (mD hi) hS 75 (mq_X isO_75) rfl 24 (by decide) (hts _ k_299) (fun _ h9 => h9) rfl (by decide +kernel) rfl rfl (Nat.le_of_ble_eq_true rfl) dX5_load_52 (fun H locs hP _ hS => ?_)
  have hP := ms_X3 isO_75 hP
  have hP : va_P D vwCl (mw 97 ad (gs cs ad (m_X_load_10 I x1))) H := hP
  refine lv_aload_n hx hb dX5_load_55 rfl (lv_at hl 1 rfl) ?_
  refine lv_iconst (v := 0) hx hb dX5_load_56 (by decide) ?_
  refine va_put (D := D) (ci := 5) (v := .int 0) (ty := .int) (C := RX5) (T := TX5) (N := 26) hx hb hts inX5 tyX5 tyX5_ok nmX5 hown hK hP (mD hi) hS 75 (mq_X isO_75) rfl 25 (by decide) (hts _ k_300) (fun _ h9 => h9) rfl (by decide +kernel) rfl rfl (Nat.le_of_ble_eq_true rfl) dX5_load_57 (fun H locs hP _ hS => ?_)
  have hP := ms_X4 isO_75 hP
  have hP : va_P D vwCl (mw 97 ad (gs cs ad (m_X_load_11 I x1))) H := hP
  refine lv_iconst (v := 0) hx hb dX5_load_60 (by decide) ?_
  refine lv_istore_n (lv' := [(2, .int 0), (0, .ref (ad 75)), (1, .int x1)]) hx hb dX5_load_61 rfl hl (by decide) rfl (fun ls hl => ?_)
  have g10 := ok
  refine w_X_load l D cs ad hi x1 hx hb hml hown hts hK (((m_X_load_11 I x1) 81 x1.toNatClampNeg).toNatClampNeg + 1) (m_X_load_11 I x1) 0 _ _ _ g10 hP hS (lv_sub hl [0, 1, 2] rfl) (fun H locs ls hP hS hl => ?_)
  exact q_vret hx hb hr hlocks dX5_load_85 hP hS rfl
def m_X_step_1 (I : Mm) (x1 : Int32) : Mm := u2 ((f_X_go (f_X_load I x1) x1 0).2) 81 x1.toNatClampNeg ((((f_X_go (f_X_load I x1) x1 0).2) 81 x1.toNatClampNeg) + 1)
def m_X_step_2 (I : Mm) (x1 : Int32) : Mm := u2 (m_X_step_1 I x1) 84 x1.toNatClampNeg (vp_nar .boolean 1)
def f_X_step (I : Mm) (x1 : Int32) : Int32 × Mm := (if (f_X_isProcess x1) = 0 then ((-1), I) else (if (I 80 x1.toNatClampNeg) = 0 then (if ((f_X_go (f_X_load I x1) x1 0).1) = 1 then ((f_X_go (f_X_load I x1) x1 0).1, (m_X_step_2 I x1)) else ((f_X_go (f_X_load I x1) x1 0).1, (f_X_go (f_X_load I x1) x1 0).2)) else ((-2), I)))
def ok_X_step (I : Mm) (x1 : Int32) : Prop := ((f_X_isProcess x1) = 0 → True) ∧ (¬ (f_X_isProcess x1) = 0 → vp_in x1 3 ∧ (((I 80 x1.toNatClampNeg) = 0 → ok_X_load I x1 ∧ (ok_X_go (f_X_load I x1) x1 0)) ∧ (¬ (I 80 x1.toNatClampNeg) = 0 → True)))
set_option maxHeartbeats 4000000 in
set_option maxRecDepth 100000 in
theorem c_X_step (l : Launch) (D : va_G) (cs : Nat → ClassId) (ad : Nat → Nat) (hi : mi ad) (I : Mm) (x1 : Int32) (ok : ok_X_step I x1) : MC l yX5_step wX5_step { frames := 3, cells := 0, slots := 0, locals := 72 } D cs ad [.ref (ad 75), .int x1] I (some (.int (f_X_step I x1).1)) (f_X_step I x1).2 := by
  unfold ok_X_step at ok
  refine q_enter (cc := cX5_step) (maxL := 3) (ret := (some .int)) (by decide +kernel) rfl (Nat.le_of_ble_eq_true rfl) ?_
  intro p e s m below meth c ls hx hb hr hml hown hts hlocks hK hP hS hl
  have hown : s.vm.findClass RX5 = some m.cls := hown
  have hts : ∀ w ∈ gtbl, w.before _ s = true := fun w h => hts w (List.mem_cons_of_mem _ h)
  have hl : lv_has ls 3 [(0, .ref (ad 75)), (1, .int x1)] := hl
  refine lv_iload_n hx hb dX5_step_0 rfl (lv_at hl 1 rfl) ?_
  refine q_callp (va_runS (As := [.int x1]) (rest := []) ⟨hx, hb, hml, hown, hts⟩ (c_X_isProcess l D cs ad hi I x1) (va_cwS 1 hts (gS k_332 k_333 k_6 k_334) rfl rfl rfl (by decide +kernel) ⟨Nat.le_of_ble_eq_true rfl, Nat.le_of_ble_eq_true rfl⟩) (q_preS hK hP) rfl rfl hl.1 rfl (lv_room (Nat.le_of_ble_eq_true rfl)) dX5_step_1 ⟨Nat.zero_le _, Nat.zero_le _⟩) hS (fun _ h => h) (fun H locs hP hS => ?_)
  refine lv_if_ne (tgt := 9) hx hb dX5_step_4 (by decide) (fun c1 => ?_) (fun c1 => ?_)
  · have ok := ok.2 c1
    refine lv_aload_n hx hb dX5_step_9 rfl (lv_at hl 0 rfl) ?_
    refine va_get (D := D) (ci := 5) (v := .ref (ad 80)) (C := RX5) (T := TX5) (N := 26) hx hb hts inX5 hown hK hP 75 (mq_X isO_75) rfl 4 (by decide) (hts _ k_279) (fun _ h9 => h9) rfl dX5_step_10 ?_
    refine lv_iload_n hx hb dX5_step_13 rfl (lv_at hl 1 rfl) ?_
    have g2 := ok.1
    have ok := ok.2
    refine va_zald hx hb hK hP 80 1 (mq_Z iZ_80) rfl g2 dX5_step_14 ?_
    refine lv_if_eq (tgt := 21) hx hb dX5_step_15 (by decide) (fun c3 => ?_) (fun c3 => ?_)
    · have ok := ok.1 c3
      refine lv_aload_n hx hb dX5_step_21 rfl (lv_at hl 0 rfl) ?_
      refine lv_iload_n hx hb dX5_step_22 rfl (lv_at hl 1 rfl) ?_
      have g4 := ok.1
      have ok := ok.2
      refine q_callv (va_runV (As := [.int x1]) (rest := []) ⟨hx, hb, hml, hown, hts⟩ (c_X_load l D cs ad hi I x1 g4) (cwV 1 hts (gV k_362 k_363 k_439 k_6 k_364) rfl rfl rfl (by decide +kernel) ⟨Nat.le_of_ble_eq_true rfl, Nat.le_of_ble_eq_true rfl⟩) (q_preV hK hP (va_recv hK hP (ci := 5) (q0 := 75) rfl (mq_X isO_75))) rfl rfl hl.1 rfl (lv_room (Nat.le_of_ble_eq_true rfl)) dX5_step_23 ⟨Nat.zero_le _, Nat.zero_le _⟩) hS (fun _ h => h) (fun H locs hP hS => ?_)
      refine lv_aload_n hx hb dX5_step_26 rfl (lv_at hl 0 rfl) ?_
      refine lv_iload_n hx hb dX5_step_27 rfl (lv_at hl 1 rfl) ?_
      refine lv_iconst (v := 0) hx hb dX5_step_28 (by decide) ?_
      have g5 := ok
      refine q_calli (va_runV (As := [.int x1, .int 0]) (rest := []) ⟨hx, hb, hml, hown, hts⟩ (c_X_go l D cs ad hi (f_X_load I x1) x1 0 g5) (cwV 2 hts (gV k_365 k_366 k_440 k_6 k_367) rfl rfl rfl (by decide +kernel) ⟨Nat.le_of_ble_eq_true rfl, Nat.le_of_ble_eq_true rfl⟩) (q_preV hK hP (va_recv hK hP (ci := 5) (q0 := 75) rfl (mq_X isO_75))) rfl rfl hl.1 rfl (lv_room (Nat.le_of_ble_eq_true rfl)) dX5_step_29 ⟨Nat.zero_le _, Nat.zero_le _⟩) hS (fun _ h => h) (fun H locs hP hS => ?_)
      refine lv_istore_n (lv' := [(2, .int ((f_X_go (f_X_load I x1) x1 0).1)), (0, .ref (ad 75)), (1, .int x1)]) hx hb dX5_step_32 rfl hl (by decide) rfl (fun ls hl => ?_)
      refine lv_iload_n hx hb dX5_step_33 rfl (lv_at hl 0 rfl) ?_
      refine lv_iconst (v := 1) hx hb dX5_step_34 (by decide) ?_
      refine lv_icmp_ne (tgt := 55) hx hb dX5_step_35 (by decide) (fun c6 => ?_) (fun c6 => ?_)
      · have c6 := c6
        refine lv_iload_n hx hb dX5_step_55 rfl (lv_at hl 0 rfl) ?_
        exact q_iret hx hb hr hlocks dX5_step_56 hP hS (by rw [f_X_step, if_neg c1, if_pos c3, if_neg c6])
      · have c6 := c6
        refine lv_aload_n hx hb dX5_step_38 rfl (lv_at hl 1 rfl) ?_
        refine va_get (D := D) (ci := 5) (v := .ref (ad 81)) (C := RX5) (T := TX5) (N := 26) hx hb hts inX5 hown hK hP 75 (mq_X isO_75) rfl 5 (by decide) (hts _ k_280) (fun _ h9 => h9) rfl dX5_step_39 ?_
        refine lv_iload_n hx hb dX5_step_42 rfl (lv_at hl 2 rfl) ?_
        refine lv_dup2_11 hx hb dX5_step_43 rfl rfl ?_
        refine va_iald hx hb hK hP 81 0 (mq_A iA_81) rfl g2 dX5_step_44 ?_
        refine lv_iconst (v := 1) hx hb dX5_step_45 (by decide) ?_
        refine lv_iadd hx hb dX5_step_46 ?_
        refine va_iast hx hb hK hP (mD hi) hS 81 0 (mq_A iA_81) rfl g2 dX5_step_47 (fun H locs hP _ hS => ?_)
        have hP := ms_A iA_81 hP
        have hP : va_P D vwCl (mw 97 ad (gs cs ad (m_X_step_1 I x1))) H := hP
        refine lv_aload_n hx hb dX5_step_48 rfl (lv_at hl 1 rfl) ?_
        refine va_get (D := D) (ci := 5) (v := .ref (ad 84)) (C := RX5) (T := TX5) (N := 26) hx hb hts inX5 hown hK hP 75 (mq_X isO_75) rfl 8 (by decide) (hts _ k_283) (fun _ h9 => h9) rfl dX5_step_49 ?_
        refine lv_iload_n hx hb dX5_step_52 rfl (lv_at hl 2 rfl) ?_
        refine lv_iconst (v := 1) hx hb dX5_step_53 (by decide) ?_
        refine va_zast hx hb hK hP (mD hi) hS 84 1 (mq_Z iZ_84) rfl g2 dX5_step_54 (fun H locs hP _ hS => ?_)
        have hP := ms_Z iZ_84 hP
        have hP : va_P D vwCl (mw 97 ad (gs cs ad (m_X_step_2 I x1))) H := hP
        refine lv_iload_n hx hb dX5_step_55 rfl (lv_at hl 0 rfl) ?_
        exact q_iret hx hb hr hlocks dX5_step_56 hP hS (by rw [f_X_step, if_neg c1, if_pos c3, if_pos c6])
    · have ok := ok.2 c3
      refine lv_bipush (v := (-2)) hx hb dX5_step_18 (by decide) ?_
      exact q_iret hx hb hr hlocks dX5_step_20 hP hS (by rw [f_X_step, if_neg c1, if_neg c3])
  · have ok := ok.1 c1
    refine lv_iconst (v := (-1)) hx hb dX5_step_7 (by decide) ?_
    exact q_iret hx hb hr hlocks dX5_step_8 hP hS (by rw [f_X_step, if_pos c1])
def m_X_checkpoint_1 (I : Mm) (x1 : Int32) : Mm := u2 (f_X_load I x1) 82 x1.toNatClampNeg ((f_X_load I x1) 81 x1.toNatClampNeg)
def m_X_checkpoint_2 (I : Mm) (x1 : Int32) : Mm := u2 (m_X_checkpoint_1 I x1) 83 x1.toNatClampNeg ((m_X_checkpoint_1 I x1) 75 2)
def f_X_checkpoint (I : Mm) (x1 : Int32) : Int32 × Mm := (if (f_X_isProcess x1) = 0 then ((-1), I) else (if (I 80 x1.toNatClampNeg) = 0 then (((f_X_load I x1) 75 2) - ((f_X_load I x1) 83 x1.toNatClampNeg), (m_X_checkpoint_2 I x1)) else ((-2), I)))
def ok_X_checkpoint (I : Mm) (x1 : Int32) : Prop := ((f_X_isProcess x1) = 0 → True) ∧ (¬ (f_X_isProcess x1) = 0 → vp_in x1 3 ∧ (((I 80 x1.toNatClampNeg) = 0 → ok_X_load I x1) ∧ (¬ (I 80 x1.toNatClampNeg) = 0 → True)))
set_option maxHeartbeats 4000000 in
set_option maxRecDepth 100000 in
theorem c_X_checkpoint (l : Launch) (D : va_G) (cs : Nat → ClassId) (ad : Nat → Nat) (hi : mi ad) (I : Mm) (x1 : Int32) (ok : ok_X_checkpoint I x1) : MC l yX5_checkpoint wX5_checkpoint { frames := 3, cells := 0, slots := 0, locals := 72 } D cs ad [.ref (ad 75), .int x1] I (some (.int (f_X_checkpoint I x1).1)) (f_X_checkpoint I x1).2 := by
  unfold ok_X_checkpoint at ok
  refine q_enter (cc := cX5_checkpoint) (maxL := 3) (ret := (some .int)) (by decide +kernel) rfl (Nat.le_of_ble_eq_true rfl) ?_
  intro p e s m below meth c ls hx hb hr hml hown hts hlocks hK hP hS hl
  have hown : s.vm.findClass RX5 = some m.cls := hown
  have hts : ∀ w ∈ gtbl, w.before _ s = true := fun w h => hts w (List.mem_cons_of_mem _ h)
  have hl : lv_has ls 3 [(0, .ref (ad 75)), (1, .int x1)] := hl
  refine lv_iload_n hx hb dX5_checkpoint_0 rfl (lv_at hl 1 rfl) ?_
  refine q_callp (va_runS (As := [.int x1]) (rest := []) ⟨hx, hb, hml, hown, hts⟩ (c_X_isProcess l D cs ad hi I x1) (va_cwS 1 hts (gS k_332 k_333 k_6 k_334) rfl rfl rfl (by decide +kernel) ⟨Nat.le_of_ble_eq_true rfl, Nat.le_of_ble_eq_true rfl⟩) (q_preS hK hP) rfl rfl hl.1 rfl (lv_room (Nat.le_of_ble_eq_true rfl)) dX5_checkpoint_1 ⟨Nat.zero_le _, Nat.zero_le _⟩) hS (fun _ h => h) (fun H locs hP hS => ?_)
  refine lv_if_ne (tgt := 9) hx hb dX5_checkpoint_4 (by decide) (fun c1 => ?_) (fun c1 => ?_)
  · have ok := ok.2 c1
    refine lv_aload_n hx hb dX5_checkpoint_9 rfl (lv_at hl 0 rfl) ?_
    refine va_get (D := D) (ci := 5) (v := .ref (ad 80)) (C := RX5) (T := TX5) (N := 26) hx hb hts inX5 hown hK hP 75 (mq_X isO_75) rfl 4 (by decide) (hts _ k_279) (fun _ h9 => h9) rfl dX5_checkpoint_10 ?_
    refine lv_iload_n hx hb dX5_checkpoint_13 rfl (lv_at hl 1 rfl) ?_
    have g2 := ok.1
    have ok := ok.2
    refine va_zald hx hb hK hP 80 1 (mq_Z iZ_80) rfl g2 dX5_checkpoint_14 ?_
    refine lv_if_eq (tgt := 21) hx hb dX5_checkpoint_15 (by decide) (fun c3 => ?_) (fun c3 => ?_)
    · have ok := ok.1 c3
      refine lv_aload_n hx hb dX5_checkpoint_21 rfl (lv_at hl 0 rfl) ?_
      refine lv_iload_n hx hb dX5_checkpoint_22 rfl (lv_at hl 1 rfl) ?_
      have g4 := ok
      refine q_callv (va_runV (As := [.int x1]) (rest := []) ⟨hx, hb, hml, hown, hts⟩ (c_X_load l D cs ad hi I x1 g4) (cwV 1 hts (gV k_362 k_363 k_439 k_6 k_364) rfl rfl rfl (by decide +kernel) ⟨Nat.le_of_ble_eq_true rfl, Nat.le_of_ble_eq_true rfl⟩) (q_preV hK hP (va_recv hK hP (ci := 5) (q0 := 75) rfl (mq_X isO_75))) rfl rfl hl.1 rfl (lv_room (Nat.le_of_ble_eq_true rfl)) dX5_checkpoint_23 ⟨Nat.zero_le _, Nat.zero_le _⟩) hS (fun _ h => h) (fun H locs hP hS => ?_)
      refine lv_aload_n hx hb dX5_checkpoint_26 rfl (lv_at hl 0 rfl) ?_
      refine va_get (D := D) (ci := 5) (v := .int ((f_X_load I x1) 75 2)) (C := RX5) (T := TX5) (N := 26) hx hb hts inX5 hown hK hP 75 (mq_X isO_75) rfl 23 (by decide) (hts _ k_298) (fun _ h9 => h9) rfl dX5_checkpoint_27 ?_
      refine lv_aload_n hx hb dX5_checkpoint_30 rfl (lv_at hl 0 rfl) ?_
      refine va_get (D := D) (ci := 5) (v := .ref (ad 83)) (C := RX5) (T := TX5) (N := 26) hx hb hts inX5 hown hK hP 75 (mq_X isO_75) rfl 7 (by decide) (hts _ k_282) (fun _ h9 => h9) rfl dX5_checkpoint_31 ?_
      refine lv_iload_n hx hb dX5_checkpoint_34 rfl (lv_at hl 1 rfl) ?_
      refine va_iald hx hb hK hP 83 0 (mq_A iA_83) rfl g2 dX5_checkpoint_35 ?_
      refine lv_isub hx hb dX5_checkpoint_36 ?_
      refine lv_istore_n (lv' := [(2, .int (((f_X_load I x1) 75 2) - ((f_X_load I x1) 83 x1.toNatClampNeg))), (0, .ref (ad 75)), (1, .int x1)]) hx hb dX5_checkpoint_37 rfl hl (by decide) rfl (fun ls hl => ?_)
      refine lv_aload_n hx hb dX5_checkpoint_38 rfl (lv_at hl 1 rfl) ?_
      refine va_get (D := D) (ci := 5) (v := .ref (ad 82)) (C := RX5) (T := TX5) (N := 26) hx hb hts inX5 hown hK hP 75 (mq_X isO_75) rfl 6 (by decide) (hts _ k_281) (fun _ h9 => h9) rfl dX5_checkpoint_39 ?_
      refine lv_iload_n hx hb dX5_checkpoint_42 rfl (lv_at hl 2 rfl) ?_
      refine lv_aload_n hx hb dX5_checkpoint_43 rfl (lv_at hl 1 rfl) ?_
      refine va_get (D := D) (ci := 5) (v := .ref (ad 81)) (C := RX5) (T := TX5) (N := 26) hx hb hts inX5 hown hK hP 75 (mq_X isO_75) rfl 5 (by decide) (hts _ k_280) (fun _ h9 => h9) rfl dX5_checkpoint_44 ?_
      refine lv_iload_n hx hb dX5_checkpoint_47 rfl (lv_at hl 2 rfl) ?_
      refine va_iald hx hb hK hP 81 0 (mq_A iA_81) rfl g2 dX5_checkpoint_48 ?_
      refine va_iast hx hb hK hP (mD hi) hS 82 0 (mq_A iA_82) rfl g2 dX5_checkpoint_49 (fun H locs hP _ hS => ?_)
      have hP := ms_A iA_82 hP
      have hP : va_P D vwCl (mw 97 ad (gs cs ad (m_X_checkpoint_1 I x1))) H := hP
      refine lv_aload_n hx hb dX5_checkpoint_50 rfl (lv_at hl 1 rfl) ?_
      refine va_get (D := D) (ci := 5) (v := .ref (ad 83)) (C := RX5) (T := TX5) (N := 26) hx hb hts inX5 hown hK hP 75 (mq_X isO_75) rfl 7 (by decide) (hts _ k_282) (fun _ h9 => h9) rfl dX5_checkpoint_51 ?_
      refine lv_iload_n hx hb dX5_checkpoint_54 rfl (lv_at hl 2 rfl) ?_
      refine lv_aload_n hx hb dX5_checkpoint_55 rfl (lv_at hl 1 rfl) ?_
      refine va_get (D := D) (ci := 5) (v := .int ((m_X_checkpoint_1 I x1) 75 2)) (C := RX5) (T := TX5) (N := 26) hx hb hts inX5 hown hK hP 75 (mq_X isO_75) rfl 23 (by decide) (hts _ k_298) (fun _ h9 => h9) rfl dX5_checkpoint_56 ?_
      refine va_iast hx hb hK hP (mD hi) hS 83 0 (mq_A iA_83) rfl g2 dX5_checkpoint_59 (fun H locs hP _ hS => ?_)
      have hP := ms_A iA_83 hP
      have hP : va_P D vwCl (mw 97 ad (gs cs ad (m_X_checkpoint_2 I x1))) H := hP
      refine lv_iload_n hx hb dX5_checkpoint_60 rfl (lv_at hl 0 rfl) ?_
      exact q_iret hx hb hr hlocks dX5_checkpoint_61 hP hS (by rw [f_X_checkpoint, if_neg c1, if_pos c3])
    · have ok := ok.2 c3
      refine lv_bipush (v := (-2)) hx hb dX5_checkpoint_18 (by decide) ?_
      exact q_iret hx hb hr hlocks dX5_checkpoint_20 hP hS (by rw [f_X_checkpoint, if_neg c1, if_neg c3])
  · have ok := ok.1 c1
    refine lv_iconst (v := (-1)) hx hb dX5_checkpoint_7 (by decide) ?_
    exact q_iret hx hb hr hlocks dX5_checkpoint_8 hP hS (by rw [f_X_checkpoint, if_pos c1])
def f_X_register (I : Mm) (x1 x2 : Int32) : Int32 × Mm := (if (f_X_isProcess x1) = 0 then (0, I) else (if (f_X_isRegister x2) = 0 then (0, I) else (if (I 80 x1.toNatClampNeg) = 0 then ((f_X_load I x1) 95 x2.toNatClampNeg, (f_X_load I x1)) else (0, I))))
def ok_X_register (I : Mm) (x1 x2 : Int32) : Prop := ((f_X_isProcess x1) = 0 → True) ∧ (¬ (f_X_isProcess x1) = 0 → ((f_X_isRegister x2) = 0 → True) ∧ (¬ (f_X_isRegister x2) = 0 → vp_in x1 3 ∧ (((I 80 x1.toNatClampNeg) = 0 → ok_X_load I x1 ∧ (vp_in x2 4)) ∧ (¬ (I 80 x1.toNatClampNeg) = 0 → True))))
set_option maxHeartbeats 4000000 in
set_option maxRecDepth 100000 in
theorem c_X_register (l : Launch) (D : va_G) (cs : Nat → ClassId) (ad : Nat → Nat) (hi : mi ad) (I : Mm) (x1 x2 : Int32) (ok : ok_X_register I x1 x2) : MC l yX5_register wX5_register { frames := 3, cells := 0, slots := 0, locals := 72 } D cs ad [.ref (ad 75), .int x1, .int x2] I (some (.int (f_X_register I x1 x2).1)) (f_X_register I x1 x2).2 := by
  unfold ok_X_register at ok
  refine q_enter (cc := cX5_register) (maxL := 3) (ret := (some .int)) (by decide +kernel) rfl (Nat.le_of_ble_eq_true rfl) ?_
  intro p e s m below meth c ls hx hb hr hml hown hts hlocks hK hP hS hl
  have hown : s.vm.findClass RX5 = some m.cls := hown
  have hts : ∀ w ∈ gtbl, w.before _ s = true := fun w h => hts w (List.mem_cons_of_mem _ h)
  have hl : lv_has ls 3 [(0, .ref (ad 75)), (1, .int x1), (2, .int x2)] := hl
  refine lv_iload_n hx hb dX5_register_0 rfl (lv_at hl 1 rfl) ?_
  refine q_callp (va_runS (As := [.int x1]) (rest := []) ⟨hx, hb, hml, hown, hts⟩ (c_X_isProcess l D cs ad hi I x1) (va_cwS 1 hts (gS k_332 k_333 k_6 k_334) rfl rfl rfl (by decide +kernel) ⟨Nat.le_of_ble_eq_true rfl, Nat.le_of_ble_eq_true rfl⟩) (q_preS hK hP) rfl rfl hl.1 rfl (lv_room (Nat.le_of_ble_eq_true rfl)) dX5_register_1 ⟨Nat.zero_le _, Nat.zero_le _⟩) hS (fun _ h => h) (fun H locs hP hS => ?_)
  refine lv_if_eq (tgt := 23) hx hb dX5_register_4 (by decide) (fun c1 => ?_) (fun c1 => ?_)
  · have ok := ok.1 c1
    refine lv_iconst (v := 0) hx hb dX5_register_23 (by decide) ?_
    exact q_iret hx hb hr hlocks dX5_register_24 hP hS (by rw [f_X_register, if_pos c1])
  · have ok := ok.2 c1
    refine lv_iload_n hx hb dX5_register_7 rfl (lv_at hl 2 rfl) ?_
    refine q_callp (va_runS (As := [.int x2]) (rest := []) ⟨hx, hb, hml, hown, hts⟩ (c_X_isRegister l D cs ad hi I x2) (va_cwS 1 hts (gS k_338 k_339 k_6 k_340) rfl rfl rfl (by decide +kernel) ⟨Nat.le_of_ble_eq_true rfl, Nat.le_of_ble_eq_true rfl⟩) (q_preS hK hP) rfl rfl hl.1 rfl (lv_room (Nat.le_of_ble_eq_true rfl)) dX5_register_8 ⟨Nat.zero_le _, Nat.zero_le _⟩) hS (fun _ h => h) (fun H locs hP hS => ?_)
    refine lv_if_eq (tgt := 23) hx hb dX5_register_11 (by decide) (fun c2 => ?_) (fun c2 => ?_)
    · have ok := ok.1 c2
      refine lv_iconst (v := 0) hx hb dX5_register_23 (by decide) ?_
      exact q_iret hx hb hr hlocks dX5_register_24 hP hS (by rw [f_X_register, if_neg c1, if_pos c2])
    · have ok := ok.2 c2
      refine lv_aload_n hx hb dX5_register_14 rfl (lv_at hl 0 rfl) ?_
      refine va_get (D := D) (ci := 5) (v := .ref (ad 80)) (C := RX5) (T := TX5) (N := 26) hx hb hts inX5 hown hK hP 75 (mq_X isO_75) rfl 4 (by decide) (hts _ k_279) (fun _ h9 => h9) rfl dX5_register_15 ?_
      refine lv_iload_n hx hb dX5_register_18 rfl (lv_at hl 1 rfl) ?_
      have g3 := ok.1
      have ok := ok.2
      refine va_zald hx hb hK hP 80 1 (mq_Z iZ_80) rfl g3 dX5_register_19 ?_
      refine lv_if_eq (tgt := 25) hx hb dX5_register_20 (by decide) (fun c4 => ?_) (fun c4 => ?_)
      · have ok := ok.1 c4
        refine lv_aload_n hx hb dX5_register_25 rfl (lv_at hl 0 rfl) ?_
        refine lv_iload_n hx hb dX5_register_26 rfl (lv_at hl 1 rfl) ?_
        have g5 := ok.1
        have ok := ok.2
        refine q_callv (va_runV (As := [.int x1]) (rest := []) ⟨hx, hb, hml, hown, hts⟩ (c_X_load l D cs ad hi I x1 g5) (cwV 1 hts (gV k_362 k_363 k_439 k_6 k_364) rfl rfl rfl (by decide +kernel) ⟨Nat.le_of_ble_eq_true rfl, Nat.le_of_ble_eq_true rfl⟩) (q_preV hK hP (va_recv hK hP (ci := 5) (q0 := 75) rfl (mq_X isO_75))) rfl rfl hl.1 rfl (lv_room (Nat.le_of_ble_eq_true rfl)) dX5_register_27 ⟨Nat.zero_le _, Nat.zero_le _⟩) hS (fun _ h => h) (fun H locs hP hS => ?_)
        refine lv_aload_n hx hb dX5_register_30 rfl (lv_at hl 0 rfl) ?_
        refine va_get (D := D) (ci := 5) (v := .ref (ad 95)) (C := RX5) (T := TX5) (N := 26) hx hb hts inX5 hown hK hP 75 (mq_X isO_75) rfl 20 (by decide) (hts _ k_295) (fun _ h9 => h9) rfl dX5_register_31 ?_
        refine lv_iload_n hx hb dX5_register_34 rfl (lv_at hl 2 rfl) ?_
        have g6 := ok
        refine va_iald hx hb hK hP 95 0 (mq_A iA_95) rfl g6 dX5_register_35 ?_
        exact q_iret hx hb hr hlocks dX5_register_36 hP hS (by rw [f_X_register, if_neg c1, if_neg c2, if_pos c4])
      · have ok := ok.2 c4
        refine lv_iconst (v := 0) hx hb dX5_register_23 (by decide) ?_
        exact q_iret hx hb hr hlocks dX5_register_24 hP hS (by rw [f_X_register, if_neg c1, if_neg c2, if_neg c4])
def f_X_state (I : Mm) (x1 x2 : Int32) : Int32 × Mm := (if (f_X_isProcess x1) = 0 then ((-1), I) else (if x2 < 0 then ((-1), I) else (if x2 ≤ 3 then (if (I 80 x1.toNatClampNeg) = 0 then (if x2 = 0 then ((f_X_load I x1) 75 1, (f_X_load I x1)) else (if x2 = 1 then ((f_X_load I x1) 75 4, (f_X_load I x1)) else (if x2 = 2 then ((f_X_load I x1) 75 2, (f_X_load I x1)) else ((f_X_load I x1) 75 3, (f_X_load I x1))))) else ((-2), I)) else ((-1), I))))
def ok_X_state (I : Mm) (x1 x2 : Int32) : Prop := ((f_X_isProcess x1) = 0 → True) ∧ (¬ (f_X_isProcess x1) = 0 → (x2 < 0 → True) ∧ (¬ x2 < 0 → (x2 ≤ 3 → vp_in x1 3 ∧ (((I 80 x1.toNatClampNeg) = 0 → ok_X_load I x1) ∧ (¬ (I 80 x1.toNatClampNeg) = 0 → True))) ∧ (¬ x2 ≤ 3 → True)))
set_option maxHeartbeats 4000000 in
set_option maxRecDepth 100000 in
theorem c_X_state (l : Launch) (D : va_G) (cs : Nat → ClassId) (ad : Nat → Nat) (hi : mi ad) (I : Mm) (x1 x2 : Int32) (ok : ok_X_state I x1 x2) : MC l yX5_state wX5_state { frames := 3, cells := 0, slots := 0, locals := 72 } D cs ad [.ref (ad 75), .int x1, .int x2] I (some (.int (f_X_state I x1 x2).1)) (f_X_state I x1 x2).2 := by
  unfold ok_X_state at ok
  refine q_enter (cc := cX5_state) (maxL := 3) (ret := (some .int)) (by decide +kernel) rfl (Nat.le_of_ble_eq_true rfl) ?_
  intro p e s m below meth c ls hx hb hr hml hown hts hlocks hK hP hS hl
  have hown : s.vm.findClass RX5 = some m.cls := hown
  have hts : ∀ w ∈ gtbl, w.before _ s = true := fun w h => hts w (List.mem_cons_of_mem _ h)
  have hl : lv_has ls 3 [(0, .ref (ad 75)), (1, .int x1), (2, .int x2)] := hl
  refine lv_iload_n hx hb dX5_state_0 rfl (lv_at hl 1 rfl) ?_
  refine q_callp (va_runS (As := [.int x1]) (rest := []) ⟨hx, hb, hml, hown, hts⟩ (c_X_isProcess l D cs ad hi I x1) (va_cwS 1 hts (gS k_332 k_333 k_6 k_334) rfl rfl rfl (by decide +kernel) ⟨Nat.le_of_ble_eq_true rfl, Nat.le_of_ble_eq_true rfl⟩) (q_preS hK hP) rfl rfl hl.1 rfl (lv_room (Nat.le_of_ble_eq_true rfl)) dX5_state_1 ⟨Nat.zero_le _, Nat.zero_le _⟩) hS (fun _ h => h) (fun H locs hP hS => ?_)
  refine lv_if_eq (tgt := 16) hx hb dX5_state_4 (by decide) (fun c1 => ?_) (fun c1 => ?_)
  · have ok := ok.1 c1
    refine lv_iconst (v := (-1)) hx hb dX5_state_16 (by decide) ?_
    exact q_iret hx hb hr hlocks dX5_state_17 hP hS (by rw [f_X_state, if_pos c1])
  · have ok := ok.2 c1
    refine lv_iload_n hx hb dX5_state_7 rfl (lv_at hl 2 rfl) ?_
    refine lv_if_lt (tgt := 16) hx hb dX5_state_8 (by decide) (fun c2 => ?_) (fun c2 => ?_)
    · have ok := ok.1 c2
      refine lv_iconst (v := (-1)) hx hb dX5_state_16 (by decide) ?_
      exact q_iret hx hb hr hlocks dX5_state_17 hP hS (by rw [f_X_state, if_neg c1, if_pos c2])
    · have ok := ok.2 c2
      refine lv_iload_n hx hb dX5_state_11 rfl (lv_at hl 2 rfl) ?_
      refine lv_iconst (v := 3) hx hb dX5_state_12 (by decide) ?_
      refine lv_icmp_le (tgt := 18) hx hb dX5_state_13 (by decide) (fun c3 => ?_) (fun c3 => ?_)
      · have ok := ok.1 c3
        refine lv_aload_n hx hb dX5_state_18 rfl (lv_at hl 0 rfl) ?_
        refine va_get (D := D) (ci := 5) (v := .ref (ad 80)) (C := RX5) (T := TX5) (N := 26) hx hb hts inX5 hown hK hP 75 (mq_X isO_75) rfl 4 (by decide) (hts _ k_279) (fun _ h9 => h9) rfl dX5_state_19 ?_
        refine lv_iload_n hx hb dX5_state_22 rfl (lv_at hl 1 rfl) ?_
        have g4 := ok.1
        have ok := ok.2
        refine va_zald hx hb hK hP 80 1 (mq_Z iZ_80) rfl g4 dX5_state_23 ?_
        refine lv_if_eq (tgt := 30) hx hb dX5_state_24 (by decide) (fun c5 => ?_) (fun c5 => ?_)
        · have ok := ok.1 c5
          refine lv_aload_n hx hb dX5_state_30 rfl (lv_at hl 0 rfl) ?_
          refine lv_iload_n hx hb dX5_state_31 rfl (lv_at hl 1 rfl) ?_
          have g6 := ok
          refine q_callv (va_runV (As := [.int x1]) (rest := []) ⟨hx, hb, hml, hown, hts⟩ (c_X_load l D cs ad hi I x1 g6) (cwV 1 hts (gV k_362 k_363 k_439 k_6 k_364) rfl rfl rfl (by decide +kernel) ⟨Nat.le_of_ble_eq_true rfl, Nat.le_of_ble_eq_true rfl⟩) (q_preV hK hP (va_recv hK hP (ci := 5) (q0 := 75) rfl (mq_X isO_75))) rfl rfl hl.1 rfl (lv_room (Nat.le_of_ble_eq_true rfl)) dX5_state_32 ⟨Nat.zero_le _, Nat.zero_le _⟩) hS (fun _ h => h) (fun H locs hP hS => ?_)
          refine lv_iload_n hx hb dX5_state_35 rfl (lv_at hl 2 rfl) ?_
          refine lv_if_ne (tgt := 46) hx hb dX5_state_36 (by decide) (fun c7 => ?_) (fun c7 => ?_)
          · have c7 := c7
            refine lv_iload_n hx hb dX5_state_46 rfl (lv_at hl 2 rfl) ?_
            refine lv_iconst (v := 1) hx hb dX5_state_47 (by decide) ?_
            refine lv_icmp_ne (tgt := 58) hx hb dX5_state_48 (by decide) (fun c8 => ?_) (fun c8 => ?_)
            · have c8 := c8
              refine lv_iload_n hx hb dX5_state_58 rfl (lv_at hl 2 rfl) ?_
              refine lv_iconst (v := 2) hx hb dX5_state_59 (by decide) ?_
              refine lv_icmp_ne (tgt := 70) hx hb dX5_state_60 (by decide) (fun c9 => ?_) (fun c9 => ?_)
              · have c9 := c9
                refine lv_aload_n hx hb dX5_state_70 rfl (lv_at hl 0 rfl) ?_
                refine va_get (D := D) (ci := 5) (v := .int ((f_X_load I x1) 75 3)) (C := RX5) (T := TX5) (N := 26) hx hb hts inX5 hown hK hP 75 (mq_X isO_75) rfl 24 (by decide) (hts _ k_299) (fun _ h9 => h9) rfl dX5_state_71 ?_
                exact q_iret hx hb hr hlocks dX5_state_74 hP hS (by rw [f_X_state, if_neg c1, if_neg c2, if_pos c3, if_pos c5, if_neg c7, if_neg c8, if_neg c9])
              · have c9 := c9
                refine lv_aload_n hx hb dX5_state_63 rfl (lv_at hl 0 rfl) ?_
                refine va_get (D := D) (ci := 5) (v := .int ((f_X_load I x1) 75 2)) (C := RX5) (T := TX5) (N := 26) hx hb hts inX5 hown hK hP 75 (mq_X isO_75) rfl 23 (by decide) (hts _ k_298) (fun _ h9 => h9) rfl dX5_state_64 ?_
                refine lv_goto (tgt := 74) hx hb dX5_state_67 (by decide) ?_
                exact q_iret hx hb hr hlocks dX5_state_74 hP hS (by rw [f_X_state, if_neg c1, if_neg c2, if_pos c3, if_pos c5, if_neg c7, if_neg c8, if_pos c9])
            · have c8 := c8
              refine lv_aload_n hx hb dX5_state_51 rfl (lv_at hl 0 rfl) ?_
              refine va_get (D := D) (ci := 5) (v := .int ((f_X_load I x1) 75 4)) (C := RX5) (T := TX5) (N := 26) hx hb hts inX5 hown hK hP 75 (mq_X isO_75) rfl 25 (by decide) (hts _ k_300) (fun _ h9 => h9) rfl dX5_state_52 ?_
              refine lv_goto (tgt := 74) hx hb dX5_state_55 (by decide) ?_
              exact q_iret hx hb hr hlocks dX5_state_74 hP hS (by rw [f_X_state, if_neg c1, if_neg c2, if_pos c3, if_pos c5, if_neg c7, if_pos c8])
          · have c7 := c7
            refine lv_aload_n hx hb dX5_state_39 rfl (lv_at hl 0 rfl) ?_
            refine va_get (D := D) (ci := 5) (v := .int ((f_X_load I x1) 75 1)) (C := RX5) (T := TX5) (N := 26) hx hb hts inX5 hown hK hP 75 (mq_X isO_75) rfl 22 (by decide) (hts _ k_297) (fun _ h9 => h9) rfl dX5_state_40 ?_
            refine lv_goto (tgt := 74) hx hb dX5_state_43 (by decide) ?_
            exact q_iret hx hb hr hlocks dX5_state_74 hP hS (by rw [f_X_state, if_neg c1, if_neg c2, if_pos c3, if_pos c5, if_pos c7])
        · have ok := ok.2 c5
          refine lv_bipush (v := (-2)) hx hb dX5_state_27 (by decide) ?_
          exact q_iret hx hb hr hlocks dX5_state_29 hP hS (by rw [f_X_state, if_neg c1, if_neg c2, if_pos c3, if_neg c5])
      · have ok := ok.2 c3
        refine lv_iconst (v := (-1)) hx hb dX5_state_16 (by decide) ?_
        exact q_iret hx hb hr hlocks dX5_state_17 hP hS (by rw [f_X_state, if_neg c1, if_neg c2, if_neg c3])
def f_X_sent (I : Mm) (x1 x2 : Int32) : Int32 × Mm := (if (f_X_isChannel x1 x2) = 0 then ((-1), I) else (if (I 80 x1.toNatClampNeg) = 0 then ((f_X_load I x1) 96 x2.toNatClampNeg, (f_X_load I x1)) else ((-2), I)))
def ok_X_sent (I : Mm) (x1 x2 : Int32) : Prop := ((f_X_isChannel x1 x2) = 0 → True) ∧ (¬ (f_X_isChannel x1 x2) = 0 → vp_in x1 3 ∧ (((I 80 x1.toNatClampNeg) = 0 → ok_X_load I x1 ∧ (vp_in x2 3)) ∧ (¬ (I 80 x1.toNatClampNeg) = 0 → True)))
set_option maxHeartbeats 4000000 in
set_option maxRecDepth 100000 in
theorem c_X_sent (l : Launch) (D : va_G) (cs : Nat → ClassId) (ad : Nat → Nat) (hi : mi ad) (I : Mm) (x1 x2 : Int32) (ok : ok_X_sent I x1 x2) : MC l yX5_sent wX5_sent { frames := 3, cells := 0, slots := 0, locals := 72 } D cs ad [.ref (ad 75), .int x1, .int x2] I (some (.int (f_X_sent I x1 x2).1)) (f_X_sent I x1 x2).2 := by
  unfold ok_X_sent at ok
  refine q_enter (cc := cX5_sent) (maxL := 3) (ret := (some .int)) (by decide +kernel) rfl (Nat.le_of_ble_eq_true rfl) ?_
  intro p e s m below meth c ls hx hb hr hml hown hts hlocks hK hP hS hl
  have hown : s.vm.findClass RX5 = some m.cls := hown
  have hts : ∀ w ∈ gtbl, w.before _ s = true := fun w h => hts w (List.mem_cons_of_mem _ h)
  have hl : lv_has ls 3 [(0, .ref (ad 75)), (1, .int x1), (2, .int x2)] := hl
  refine lv_iload_n hx hb dX5_sent_0 rfl (lv_at hl 1 rfl) ?_
  refine lv_iload_n hx hb dX5_sent_1 rfl (lv_at hl 2 rfl) ?_
  refine q_callp (va_runS (As := [.int x1, .int x2]) (rest := []) ⟨hx, hb, hml, hown, hts⟩ (c_X_isChannel l D cs ad hi I x1 x2) (va_cwS 2 hts (gS k_335 k_336 k_6 k_337) rfl rfl rfl (by decide +kernel) ⟨Nat.le_of_ble_eq_true rfl, Nat.le_of_ble_eq_true rfl⟩) (q_preS hK hP) rfl rfl hl.1 rfl (lv_room (Nat.le_of_ble_eq_true rfl)) dX5_sent_2 ⟨Nat.zero_le _, Nat.zero_le _⟩) hS (fun _ h => h) (fun H locs hP hS => ?_)
  refine lv_if_ne (tgt := 10) hx hb dX5_sent_5 (by decide) (fun c1 => ?_) (fun c1 => ?_)
  · have ok := ok.2 c1
    refine lv_aload_n hx hb dX5_sent_10 rfl (lv_at hl 0 rfl) ?_
    refine va_get (D := D) (ci := 5) (v := .ref (ad 80)) (C := RX5) (T := TX5) (N := 26) hx hb hts inX5 hown hK hP 75 (mq_X isO_75) rfl 4 (by decide) (hts _ k_279) (fun _ h9 => h9) rfl dX5_sent_11 ?_
    refine lv_iload_n hx hb dX5_sent_14 rfl (lv_at hl 1 rfl) ?_
    have g2 := ok.1
    have ok := ok.2
    refine va_zald hx hb hK hP 80 1 (mq_Z iZ_80) rfl g2 dX5_sent_15 ?_
    refine lv_if_eq (tgt := 22) hx hb dX5_sent_16 (by decide) (fun c3 => ?_) (fun c3 => ?_)
    · have ok := ok.1 c3
      refine lv_aload_n hx hb dX5_sent_22 rfl (lv_at hl 0 rfl) ?_
      refine lv_iload_n hx hb dX5_sent_23 rfl (lv_at hl 1 rfl) ?_
      have g4 := ok.1
      have ok := ok.2
      refine q_callv (va_runV (As := [.int x1]) (rest := []) ⟨hx, hb, hml, hown, hts⟩ (c_X_load l D cs ad hi I x1 g4) (cwV 1 hts (gV k_362 k_363 k_439 k_6 k_364) rfl rfl rfl (by decide +kernel) ⟨Nat.le_of_ble_eq_true rfl, Nat.le_of_ble_eq_true rfl⟩) (q_preV hK hP (va_recv hK hP (ci := 5) (q0 := 75) rfl (mq_X isO_75))) rfl rfl hl.1 rfl (lv_room (Nat.le_of_ble_eq_true rfl)) dX5_sent_24 ⟨Nat.zero_le _, Nat.zero_le _⟩) hS (fun _ h => h) (fun H locs hP hS => ?_)
      refine lv_aload_n hx hb dX5_sent_27 rfl (lv_at hl 0 rfl) ?_
      refine va_get (D := D) (ci := 5) (v := .ref (ad 96)) (C := RX5) (T := TX5) (N := 26) hx hb hts inX5 hown hK hP 75 (mq_X isO_75) rfl 21 (by decide) (hts _ k_296) (fun _ h9 => h9) rfl dX5_sent_28 ?_
      refine lv_iload_n hx hb dX5_sent_31 rfl (lv_at hl 2 rfl) ?_
      have g5 := ok
      refine va_iald hx hb hK hP 96 0 (mq_A iA_96) rfl g5 dX5_sent_32 ?_
      exact q_iret hx hb hr hlocks dX5_sent_33 hP hS (by rw [f_X_sent, if_neg c1, if_pos c3])
    · have ok := ok.2 c3
      refine lv_bipush (v := (-2)) hx hb dX5_sent_19 (by decide) ?_
      exact q_iret hx hb hr hlocks dX5_sent_21 hP hS (by rw [f_X_sent, if_neg c1, if_neg c3])
  · have ok := ok.1 c1
    refine lv_iconst (v := (-1)) hx hb dX5_sent_8 (by decide) ?_
    exact q_iret hx hb hr hlocks dX5_sent_9 hP hS (by rw [f_X_sent, if_pos c1])
def l_X_run : Nat → Mm → Int32 → Int32 → Int32 → Int32 × Mm
  | 0, J, _, _, _ => (0, J)
  | n + 1, J, x1, x2, x3 => (if x2 ≤ x3 then (x3, J) else (if ((f_X_go J x1 0).1) = 1 then (l_X_run n ((f_X_go J x1 0).2) x1 x2 (x3 + 1)) else (x3, (f_X_go J x1 0).2)))
def okl_X_run : Nat → Mm → Int32 → Int32 → Int32 → Prop
  | 0, _, _, _, _ => False
  | n + 1, J, x1, x2, x3 => (x2 ≤ x3 → True) ∧ (¬ x2 ≤ x3 → ok_X_go J x1 0 ∧ ((((f_X_go J x1 0).1) = 1 → okl_X_run n ((f_X_go J x1 0).2) x1 x2 (x3 + 1)) ∧ (¬ ((f_X_go J x1 0).1) = 1 → True)))
set_option maxHeartbeats 4000000 in
set_option maxRecDepth 100000 in
theorem w_X_run (l : Launch) (D : va_G) (cs : Nat → ClassId) (ad : Nat → Nat) (hi : mi ad) {p : Program} {e : Env} {s : State} {m : MethodId} {args : Array Value} {below : List Frame} {meth : Method} {c : Code} {Q : State → Prop} (x1 x2 : Int32) (hx : p.tables.exec = Jvm.exec) (hb : c.code = cX5_run) (hml : c.maxLocals = 4) (hown : s.vm.findClass RX5 = some m.cls) (hts : ∀ w ∈ gtbl, w.before args s = true) (hK : va_K D vwCl (tyl cs) s) : ∀ (n : Nat) (J : Mm) (x3 : Int32) (H : Heap) (locs : List Loc) (ls : Array Slot), okl_X_run n J x1 x2 x3 → va_P D vwCl (mw 97 ad (gs cs ad J)) H → va_S (mA ad) s.heap H locs → lv_has ls 4 [(3, .int x3), (0, .ref (ad 75)), (1, .int x1), (2, .int x2)] → (∀ (H : Heap) (locs : List Loc) (ls : Array Slot), va_P D vwCl (mw 97 ad (gs cs ad (l_X_run n J x1 x2 x3).2)) H → va_S (mA ad) s.heap H locs → lv_has ls 4 [(3, .int (l_X_run n J x1 x2 x3).1), (0, .ref (ad 75)), (1, .int x1), (2, .int x2)] → W p l e { frames := 3, cells := 0, slots := 0, locals := 72 } s m args below meth c H locs 0 0 Q (F0 m 60 ls [])) → W p l e { frames := 3, cells := 0, slots := 0, locals := 72 } s m args below meth c H locs 0 0 Q (F0 m 39 ls []) := by
  intro n
  induction n with
  | zero =>
    intro J x3 H locs ls ok hP hS hl kk
    exact absurd ok id
  | succ n ih =>
    intro J x3 H locs ls ok hP hS hl kk
    rw [okl_X_run] at ok
    refine lv_iload_n hx hb dX5_run_39 rfl (lv_at hl 0 rfl) ?_
    refine lv_iload_n hx hb dX5_run_40 rfl (lv_at hl 3 rfl) ?_
    refine lv_icmp_ge (tgt := 60) hx hb dX5_run_41 (by decide) (fun c1 => ?_) (fun c1 => ?_)
    · have ok := ok.1 c1
      have e9 : l_X_run (n + 1) J x1 x2 x3 = (x3, J) := (by rw [l_X_run, if_pos c1])
      rw [e9] at kk
      exact kk _ _ _ hP hS (lv_sub hl [0, 1, 2, 3] rfl)
    · have ok := ok.2 c1
      refine lv_aload_n hx hb dX5_run_44 rfl (lv_at hl 1 rfl) ?_
      refine lv_iload_n hx hb dX5_run_45 rfl (lv_at hl 2 rfl) ?_
      refine lv_iconst (v := 0) hx hb dX5_run_46 (by decide) ?_
      have g2 := ok.1
      have ok := ok.2
      refine q_calli (va_runV (As := [.int x1, .int 0]) (rest := []) ⟨hx, hb, hml, hown, hts⟩ (c_X_go l D cs ad hi J x1 0 g2) (cwV 2 hts (gV k_365 k_366 k_440 k_6 k_367) rfl rfl rfl (by decide +kernel) ⟨Nat.le_of_ble_eq_true rfl, Nat.le_of_ble_eq_true rfl⟩) (q_preV hK hP (va_recv hK hP (ci := 5) (q0 := 75) rfl (mq_X isO_75))) rfl rfl hl.1 rfl (lv_room (Nat.le_of_ble_eq_true rfl)) dX5_run_47 ⟨Nat.zero_le _, Nat.zero_le _⟩) hS (fun _ h => h) (fun H locs hP hS => ?_)
      refine lv_iconst (v := 1) hx hb dX5_run_50 (by decide) ?_
      refine lv_icmp_ne (tgt := 60) hx hb dX5_run_51 (by decide) (fun c3 => ?_) (fun c3 => ?_)
      · have ok := ok.2 c3
        have e9 : l_X_run (n + 1) J x1 x2 x3 = (x3, (f_X_go J x1 0).2) := (by rw [l_X_run, if_neg c1, if_neg c3])
        rw [e9] at kk
        exact kk _ _ _ hP hS (lv_sub hl [0, 1, 2, 3] rfl)
      · have ok := ok.1 c3
        refine lv_iinc (v := x3 + 1) (lv' := [(3, .int (x3 + 1)), (0, .ref (ad 75)), (1, .int x1), (2, .int x2)]) hx hb dX5_run_54 hl (k := 0) rfl rfl (by decide) rfl (fun ls hl => ?_)
        refine lv_goto (tgt := 39) hx hb dX5_run_57 (by decide) ?_
        have e9 : l_X_run (n + 1) J x1 x2 x3 = l_X_run n ((f_X_go J x1 0).2) x1 x2 (x3 + 1) := (by rw [l_X_run, if_neg c1, if_pos c3])
        rw [e9] at kk
        exact ih ((f_X_go J x1 0).2) (x3 + 1) _ _ _ ok hP hS (lv_sub hl [0, 1, 2, 3] rfl) kk
def m_X_run_1 (I : Mm) (x1 x2 : Int32) : Mm := u2 ((l_X_run 101 (f_X_load I x1) x1 x2 0).2) 81 x1.toNatClampNeg ((((l_X_run 101 (f_X_load I x1) x1 x2 0).2) 81 x1.toNatClampNeg) + ((l_X_run 101 (f_X_load I x1) x1 x2 0).1))
def m_X_run_2 (I : Mm) (x1 x2 : Int32) : Mm := u2 (m_X_run_1 I x1 x2) 84 x1.toNatClampNeg (vp_nar .boolean 1)
def m_X_run_3 (I : Mm) (x1 x2 : Int32) : Mm := u2 (m_X_run_1 I x1 x2) 84 x1.toNatClampNeg (vp_nar .boolean 0)
def f_X_run (I : Mm) (x1 x2 : Int32) : Int32 × Mm := (if (f_X_isProcess x1) = 0 then ((-1), I) else (if x2 < 1 then ((-1), I) else (if x2 ≤ 100 then (if (I 80 x1.toNatClampNeg) = 0 then (if ((m_X_run_1 I x1 x2) 84 x1.toNatClampNeg) = 0 then (if ((l_X_run 101 (f_X_load I x1) x1 x2 0).1) ≤ 0 then ((l_X_run 101 (f_X_load I x1) x1 x2 0).1, (m_X_run_3 I x1 x2)) else ((l_X_run 101 (f_X_load I x1) x1 x2 0).1, (m_X_run_2 I x1 x2))) else ((l_X_run 101 (f_X_load I x1) x1 x2 0).1, (m_X_run_2 I x1 x2))) else ((-2), I)) else ((-1), I))))
def ok_X_run (I : Mm) (x1 x2 : Int32) : Prop := ((f_X_isProcess x1) = 0 → True) ∧ (¬ (f_X_isProcess x1) = 0 → (x2 < 1 → True) ∧ (¬ x2 < 1 → (x2 ≤ 100 → vp_in x1 3 ∧ (((I 80 x1.toNatClampNeg) = 0 → ok_X_load I x1 ∧ (okl_X_run 101 (f_X_load I x1) x1 x2 0 ∧ (vp_in x1 3))) ∧ (¬ (I 80 x1.toNatClampNeg) = 0 → True))) ∧ (¬ x2 ≤ 100 → True)))
set_option maxHeartbeats 4000000 in
set_option maxRecDepth 100000 in
theorem c_X_run (l : Launch) (D : va_G) (cs : Nat → ClassId) (ad : Nat → Nat) (hi : mi ad) (I : Mm) (x1 x2 : Int32) (ok : ok_X_run I x1 x2) : MC l yX5_run wX5_run { frames := 3, cells := 0, slots := 0, locals := 72 } D cs ad [.ref (ad 75), .int x1, .int x2] I (some (.int (f_X_run I x1 x2).1)) (f_X_run I x1 x2).2 := by
  unfold ok_X_run at ok
  refine q_enter (cc := cX5_run) (maxL := 4) (ret := (some .int)) (by decide +kernel) rfl (Nat.le_of_ble_eq_true rfl) ?_
  intro p e s m below meth c ls hx hb hr hml hown hts hlocks hK hP hS hl
  have hown : s.vm.findClass RX5 = some m.cls := hown
  have hts : ∀ w ∈ gtbl, w.before _ s = true := fun w h => hts w (List.mem_cons_of_mem _ h)
  have hl : lv_has ls 4 [(0, .ref (ad 75)), (1, .int x1), (2, .int x2)] := hl
  refine lv_iload_n hx hb dX5_run_0 rfl (lv_at hl 1 rfl) ?_
  refine q_callp (va_runS (As := [.int x1]) (rest := []) ⟨hx, hb, hml, hown, hts⟩ (c_X_isProcess l D cs ad hi I x1) (va_cwS 1 hts (gS k_332 k_333 k_6 k_334) rfl rfl rfl (by decide +kernel) ⟨Nat.le_of_ble_eq_true rfl, Nat.le_of_ble_eq_true rfl⟩) (q_preS hK hP) rfl rfl hl.1 rfl (lv_room (Nat.le_of_ble_eq_true rfl)) dX5_run_1 ⟨Nat.zero_le _, Nat.zero_le _⟩) hS (fun _ h => h) (fun H locs hP hS => ?_)
  refine lv_if_eq (tgt := 18) hx hb dX5_run_4 (by decide) (fun c1 => ?_) (fun c1 => ?_)
  · have ok := ok.1 c1
    refine lv_iconst (v := (-1)) hx hb dX5_run_18 (by decide) ?_
    exact q_iret hx hb hr hlocks dX5_run_19 hP hS (by rw [f_X_run, if_pos c1])
  · have ok := ok.2 c1
    refine lv_iload_n hx hb dX5_run_7 rfl (lv_at hl 2 rfl) ?_
    refine lv_iconst (v := 1) hx hb dX5_run_8 (by decide) ?_
    refine lv_icmp_lt (tgt := 18) hx hb dX5_run_9 (by decide) (fun c2 => ?_) (fun c2 => ?_)
    · have ok := ok.1 c2
      refine lv_iconst (v := (-1)) hx hb dX5_run_18 (by decide) ?_
      exact q_iret hx hb hr hlocks dX5_run_19 hP hS (by rw [f_X_run, if_neg c1, if_pos c2])
    · have ok := ok.2 c2
      refine lv_iload_n hx hb dX5_run_12 rfl (lv_at hl 2 rfl) ?_
      refine lv_bipush (v := 100) hx hb dX5_run_13 (by decide) ?_
      refine lv_icmp_le (tgt := 20) hx hb dX5_run_15 (by decide) (fun c3 => ?_) (fun c3 => ?_)
      · have ok := ok.1 c3
        refine lv_aload_n hx hb dX5_run_20 rfl (lv_at hl 0 rfl) ?_
        refine va_get (D := D) (ci := 5) (v := .ref (ad 80)) (C := RX5) (T := TX5) (N := 26) hx hb hts inX5 hown hK hP 75 (mq_X isO_75) rfl 4 (by decide) (hts _ k_279) (fun _ h9 => h9) rfl dX5_run_21 ?_
        refine lv_iload_n hx hb dX5_run_24 rfl (lv_at hl 1 rfl) ?_
        have g4 := ok.1
        have ok := ok.2
        refine va_zald hx hb hK hP 80 1 (mq_Z iZ_80) rfl g4 dX5_run_25 ?_
        refine lv_if_eq (tgt := 32) hx hb dX5_run_26 (by decide) (fun c5 => ?_) (fun c5 => ?_)
        · have ok := ok.1 c5
          refine lv_aload_n hx hb dX5_run_32 rfl (lv_at hl 0 rfl) ?_
          refine lv_iload_n hx hb dX5_run_33 rfl (lv_at hl 1 rfl) ?_
          have g6 := ok.1
          have ok := ok.2
          refine q_callv (va_runV (As := [.int x1]) (rest := []) ⟨hx, hb, hml, hown, hts⟩ (c_X_load l D cs ad hi I x1 g6) (cwV 1 hts (gV k_362 k_363 k_439 k_6 k_364) rfl rfl rfl (by decide +kernel) ⟨Nat.le_of_ble_eq_true rfl, Nat.le_of_ble_eq_true rfl⟩) (q_preV hK hP (va_recv hK hP (ci := 5) (q0 := 75) rfl (mq_X isO_75))) rfl rfl hl.1 rfl (lv_room (Nat.le_of_ble_eq_true rfl)) dX5_run_34 ⟨Nat.zero_le _, Nat.zero_le _⟩) hS (fun _ h => h) (fun H locs hP hS => ?_)
          refine lv_iconst (v := 0) hx hb dX5_run_37 (by decide) ?_
          refine lv_istore_n (lv' := [(3, .int 0), (0, .ref (ad 75)), (1, .int x1), (2, .int x2)]) hx hb dX5_run_38 rfl hl (by decide) rfl (fun ls hl => ?_)
          have g7 := ok.1
          have ok := ok.2
          refine w_X_run l D cs ad hi x1 x2 hx hb hml hown hts hK 101 (f_X_load I x1) 0 _ _ _ g7 hP hS (lv_sub hl [0, 1, 2, 3] rfl) (fun H locs ls hP hS hl => ?_)
          refine lv_aload_n hx hb dX5_run_60 rfl (lv_at hl 1 rfl) ?_
          refine va_get (D := D) (ci := 5) (v := .ref (ad 81)) (C := RX5) (T := TX5) (N := 26) hx hb hts inX5 hown hK hP 75 (mq_X isO_75) rfl 5 (by decide) (hts _ k_280) (fun _ h9 => h9) rfl dX5_run_61 ?_
          refine lv_iload_n hx hb dX5_run_64 rfl (lv_at hl 2 rfl) ?_
          refine lv_dup2_11 hx hb dX5_run_65 rfl rfl ?_
          have g8 := ok
          refine va_iald hx hb hK hP 81 0 (mq_A iA_81) rfl g8 dX5_run_66 ?_
          refine lv_iload_n hx hb dX5_run_67 rfl (lv_at hl 0 rfl) ?_
          refine lv_iadd hx hb dX5_run_68 ?_
          refine va_iast hx hb hK hP (mD hi) hS 81 0 (mq_A iA_81) rfl g8 dX5_run_69 (fun H locs hP _ hS => ?_)
          have hP := ms_A iA_81 hP
          have hP : va_P D vwCl (mw 97 ad (gs cs ad (m_X_run_1 I x1 x2))) H := hP
          refine lv_aload_n hx hb dX5_run_70 rfl (lv_at hl 1 rfl) ?_
          refine va_get (D := D) (ci := 5) (v := .ref (ad 84)) (C := RX5) (T := TX5) (N := 26) hx hb hts inX5 hown hK hP 75 (mq_X isO_75) rfl 8 (by decide) (hts _ k_283) (fun _ h9 => h9) rfl dX5_run_71 ?_
          refine lv_iload_n hx hb dX5_run_74 rfl (lv_at hl 2 rfl) ?_
          refine lv_aload_n hx hb dX5_run_75 rfl (lv_at hl 1 rfl) ?_
          refine va_get (D := D) (ci := 5) (v := .ref (ad 84)) (C := RX5) (T := TX5) (N := 26) hx hb hts inX5 hown hK hP 75 (mq_X isO_75) rfl 8 (by decide) (hts _ k_283) (fun _ h9 => h9) rfl dX5_run_76 ?_
          refine lv_iload_n hx hb dX5_run_79 rfl (lv_at hl 2 rfl) ?_
          refine va_zald hx hb hK hP 84 1 (mq_Z iZ_84) rfl g8 dX5_run_80 ?_
          refine lv_if_ne (tgt := 88) hx hb dX5_run_81 (by decide) (fun c9 => ?_) (fun c9 => ?_)
          · have c9 := c9
            refine lv_iconst (v := 1) hx hb dX5_run_88 (by decide) ?_
            refine lv_goto (tgt := 93) hx hb dX5_run_89 (by decide) ?_
            refine va_zast hx hb hK hP (mD hi) hS 84 1 (mq_Z iZ_84) rfl g8 dX5_run_93 (fun H locs hP _ hS => ?_)
            have hP := ms_Z iZ_84 hP
            have hP : va_P D vwCl (mw 97 ad (gs cs ad (m_X_run_2 I x1 x2))) H := hP
            refine lv_iload_n hx hb dX5_run_94 rfl (lv_at hl 0 rfl) ?_
            exact q_iret hx hb hr hlocks dX5_run_95 hP hS (by rw [f_X_run, if_neg c1, if_neg c2, if_pos c3, if_pos c5, if_neg c9])
          · have c9 := c9
            refine lv_iload_n hx hb dX5_run_84 rfl (lv_at hl 0 rfl) ?_
            refine lv_if_le (tgt := 92) hx hb dX5_run_85 (by decide) (fun c10 => ?_) (fun c10 => ?_)
            · have c10 := c10
              refine lv_iconst (v := 0) hx hb dX5_run_92 (by decide) ?_
              refine va_zast hx hb hK hP (mD hi) hS 84 1 (mq_Z iZ_84) rfl g8 dX5_run_93 (fun H locs hP _ hS => ?_)
              have hP := ms_Z iZ_84 hP
              have hP : va_P D vwCl (mw 97 ad (gs cs ad (m_X_run_3 I x1 x2))) H := hP
              refine lv_iload_n hx hb dX5_run_94 rfl (lv_at hl 0 rfl) ?_
              exact q_iret hx hb hr hlocks dX5_run_95 hP hS (by rw [f_X_run, if_neg c1, if_neg c2, if_pos c3, if_pos c5, if_pos c9, if_pos c10])
            · have c10 := c10
              refine lv_iconst (v := 1) hx hb dX5_run_88 (by decide) ?_
              refine lv_goto (tgt := 93) hx hb dX5_run_89 (by decide) ?_
              refine va_zast hx hb hK hP (mD hi) hS 84 1 (mq_Z iZ_84) rfl g8 dX5_run_93 (fun H locs hP _ hS => ?_)
              have hP := ms_Z iZ_84 hP
              have hP : va_P D vwCl (mw 97 ad (gs cs ad (m_X_run_2 I x1 x2))) H := hP
              refine lv_iload_n hx hb dX5_run_94 rfl (lv_at hl 0 rfl) ?_
              exact q_iret hx hb hr hlocks dX5_run_95 hP hS (by rw [f_X_run, if_neg c1, if_neg c2, if_pos c3, if_pos c5, if_pos c9, if_neg c10])
        · have ok := ok.2 c5
          refine lv_bipush (v := (-2)) hx hb dX5_run_29 (by decide) ?_
          exact q_iret hx hb hr hlocks dX5_run_31 hP hS (by rw [f_X_run, if_neg c1, if_neg c2, if_pos c3, if_neg c5])
      · have ok := ok.2 c3
        refine lv_iconst (v := (-1)) hx hb dX5_run_18 (by decide) ?_
        exact q_iret hx hb hr hlocks dX5_run_19 hP hS (by rw [f_X_run, if_neg c1, if_neg c2, if_neg c3])
end
section
theorem dL_law_0 : decode code 0 = .ok (.new 7, 3) := by decide +kernel
theorem dL_law_3 : decode code 3 = .ok (.dup, 1) := by decide +kernel
theorem dL_law_4 : decode code 4 = .ok (.invokespecial 9, 3) := by decide +kernel
theorem dL_law_7 : decode code 7 = .ok (.astore_n 1, 1) := by decide +kernel
theorem dL_law_8 : decode code 8 = .ok (.new 10, 3) := by decide +kernel
theorem dL_law_11 : decode code 11 = .ok (.dup, 1) := by decide +kernel
theorem dL_law_12 : decode code 12 = .ok (.invokespecial 12, 3) := by decide +kernel
theorem dL_law_15 : decode code 15 = .ok (.astore_n 2, 1) := by decide +kernel
theorem dL_law_16 : decode code 16 = .ok (.iconst 0, 1) := by decide +kernel
theorem dL_law_17 : decode code 17 = .ok (.istore_n 3, 1) := by decide +kernel
theorem dL_law_18 : decode code 18 = .ok (.iload_n 3, 1) := by decide +kernel
theorem dL_law_19 : decode code 19 = .ok (.aload_n 0, 1) := by decide +kernel
theorem dL_law_20 : decode code 20 = .ok (.arraylength, 1) := by decide +kernel
theorem dL_law_21 : decode code 21 = .ok (.iconst 5, 1) := by decide +kernel
theorem dL_law_22 : decode code 22 = .ok (.isub, 1) := by decide +kernel
theorem dL_law_23 : decode code 23 = .ok (.if_icmp .gt 617, 3) := by decide +kernel
theorem dL_law_26 : decode code 26 = .ok (.aload_n 0, 1) := by decide +kernel
theorem dL_law_27 : decode code 27 = .ok (.iload_n 3, 1) := by decide +kernel
theorem dL_law_28 : decode code 28 = .ok (.iaload, 1) := by decide +kernel
theorem dL_law_29 : decode code 29 = .ok (.bipush 31, 2) := by decide +kernel
theorem dL_law_31 : decode code 31 = .ok (.iand, 1) := by decide +kernel
theorem dL_law_32 : decode code 32 = .ok (.tableswitch 602 0 17 #[88, 141, 174, 207, 230, 263, 286, 309, 332, 365, 398, 431, 454, 487, 520, 543, 556, 579], 88) := by decide +kernel
theorem dL_law_120 : decode code 120 = .ok (.aload_n 1, 1) := by decide +kernel
theorem dL_law_121 : decode code 121 = .ok (.aload_n 0, 1) := by decide +kernel
theorem dL_law_122 : decode code 122 = .ok (.iload_n 3, 1) := by decide +kernel
theorem dL_law_123 : decode code 123 = .ok (.iconst 1, 1) := by decide +kernel
theorem dL_law_124 : decode code 124 = .ok (.iadd, 1) := by decide +kernel
theorem dL_law_125 : decode code 125 = .ok (.iaload, 1) := by decide +kernel
theorem dL_law_126 : decode code 126 = .ok (.aload_n 0, 1) := by decide +kernel
theorem dL_law_127 : decode code 127 = .ok (.iload_n 3, 1) := by decide +kernel
theorem dL_law_128 : decode code 128 = .ok (.iconst 2, 1) := by decide +kernel
theorem dL_law_129 : decode code 129 = .ok (.iadd, 1) := by decide +kernel
theorem dL_law_130 : decode code 130 = .ok (.iaload, 1) := by decide +kernel
theorem dL_law_131 : decode code 131 = .ok (.aload_n 0, 1) := by decide +kernel
theorem dL_law_132 : decode code 132 = .ok (.iload_n 3, 1) := by decide +kernel
theorem dL_law_133 : decode code 133 = .ok (.iconst 3, 1) := by decide +kernel
theorem dL_law_134 : decode code 134 = .ok (.iadd, 1) := by decide +kernel
theorem dL_law_135 : decode code 135 = .ok (.iaload, 1) := by decide +kernel
theorem dL_law_136 : decode code 136 = .ok (.aload_n 0, 1) := by decide +kernel
theorem dL_law_137 : decode code 137 = .ok (.iload_n 3, 1) := by decide +kernel
theorem dL_law_138 : decode code 138 = .ok (.iconst 4, 1) := by decide +kernel
theorem dL_law_139 : decode code 139 = .ok (.iadd, 1) := by decide +kernel
theorem dL_law_140 : decode code 140 = .ok (.iaload, 1) := by decide +kernel
theorem dL_law_141 : decode code 141 = .ok (.invokevirtual 13, 3) := by decide +kernel
theorem dL_law_144 : decode code 144 = .ok (.aload_n 2, 1) := by decide +kernel
theorem dL_law_145 : decode code 145 = .ok (.aload_n 0, 1) := by decide +kernel
theorem dL_law_146 : decode code 146 = .ok (.iload_n 3, 1) := by decide +kernel
theorem dL_law_147 : decode code 147 = .ok (.iconst 1, 1) := by decide +kernel
theorem dL_law_148 : decode code 148 = .ok (.iadd, 1) := by decide +kernel
theorem dL_law_149 : decode code 149 = .ok (.iaload, 1) := by decide +kernel
theorem dL_law_150 : decode code 150 = .ok (.aload_n 0, 1) := by decide +kernel
theorem dL_law_151 : decode code 151 = .ok (.iload_n 3, 1) := by decide +kernel
theorem dL_law_152 : decode code 152 = .ok (.iconst 2, 1) := by decide +kernel
theorem dL_law_153 : decode code 153 = .ok (.iadd, 1) := by decide +kernel
theorem dL_law_154 : decode code 154 = .ok (.iaload, 1) := by decide +kernel
theorem dL_law_155 : decode code 155 = .ok (.aload_n 0, 1) := by decide +kernel
theorem dL_law_156 : decode code 156 = .ok (.iload_n 3, 1) := by decide +kernel
theorem dL_law_157 : decode code 157 = .ok (.iconst 3, 1) := by decide +kernel
theorem dL_law_158 : decode code 158 = .ok (.iadd, 1) := by decide +kernel
theorem dL_law_159 : decode code 159 = .ok (.iaload, 1) := by decide +kernel
theorem dL_law_160 : decode code 160 = .ok (.aload_n 0, 1) := by decide +kernel
theorem dL_law_161 : decode code 161 = .ok (.iload_n 3, 1) := by decide +kernel
theorem dL_law_162 : decode code 162 = .ok (.iconst 4, 1) := by decide +kernel
theorem dL_law_163 : decode code 163 = .ok (.iadd, 1) := by decide +kernel
theorem dL_law_164 : decode code 164 = .ok (.iaload, 1) := by decide +kernel
theorem dL_law_165 : decode code 165 = .ok (.invokevirtual 17, 3) := by decide +kernel
theorem dL_law_168 : decode code 168 = .ok (.if_icmp .eq 466, 3) := by decide +kernel
theorem dL_law_171 : decode code 171 = .ok (.iconst 0, 1) := by decide +kernel
theorem dL_law_172 : decode code 172 = .ok (.ireturn, 1) := by decide +kernel
theorem dL_law_173 : decode code 173 = .ok (.aload_n 1, 1) := by decide +kernel
theorem dL_law_174 : decode code 174 = .ok (.aload_n 0, 1) := by decide +kernel
theorem dL_law_175 : decode code 175 = .ok (.iload_n 3, 1) := by decide +kernel
theorem dL_law_176 : decode code 176 = .ok (.iconst 1, 1) := by decide +kernel
theorem dL_law_177 : decode code 177 = .ok (.iadd, 1) := by decide +kernel
theorem dL_law_178 : decode code 178 = .ok (.iaload, 1) := by decide +kernel
theorem dL_law_179 : decode code 179 = .ok (.aload_n 0, 1) := by decide +kernel
theorem dL_law_180 : decode code 180 = .ok (.iload_n 3, 1) := by decide +kernel
theorem dL_law_181 : decode code 181 = .ok (.iconst 2, 1) := by decide +kernel
theorem dL_law_182 : decode code 182 = .ok (.iadd, 1) := by decide +kernel
theorem dL_law_183 : decode code 183 = .ok (.iaload, 1) := by decide +kernel
theorem dL_law_184 : decode code 184 = .ok (.invokevirtual 18, 3) := by decide +kernel
theorem dL_law_187 : decode code 187 = .ok (.aload_n 2, 1) := by decide +kernel
theorem dL_law_188 : decode code 188 = .ok (.aload_n 0, 1) := by decide +kernel
theorem dL_law_189 : decode code 189 = .ok (.iload_n 3, 1) := by decide +kernel
theorem dL_law_190 : decode code 190 = .ok (.iconst 1, 1) := by decide +kernel
theorem dL_law_191 : decode code 191 = .ok (.iadd, 1) := by decide +kernel
theorem dL_law_192 : decode code 192 = .ok (.iaload, 1) := by decide +kernel
theorem dL_law_193 : decode code 193 = .ok (.aload_n 0, 1) := by decide +kernel
theorem dL_law_194 : decode code 194 = .ok (.iload_n 3, 1) := by decide +kernel
theorem dL_law_195 : decode code 195 = .ok (.iconst 2, 1) := by decide +kernel
theorem dL_law_196 : decode code 196 = .ok (.iadd, 1) := by decide +kernel
theorem dL_law_197 : decode code 197 = .ok (.iaload, 1) := by decide +kernel
theorem dL_law_198 : decode code 198 = .ok (.invokevirtual 22, 3) := by decide +kernel
theorem dL_law_201 : decode code 201 = .ok (.if_icmp .eq 433, 3) := by decide +kernel
theorem dL_law_204 : decode code 204 = .ok (.iconst 0, 1) := by decide +kernel
theorem dL_law_205 : decode code 205 = .ok (.ireturn, 1) := by decide +kernel
theorem dL_law_206 : decode code 206 = .ok (.aload_n 1, 1) := by decide +kernel
theorem dL_law_207 : decode code 207 = .ok (.aload_n 0, 1) := by decide +kernel
theorem dL_law_208 : decode code 208 = .ok (.iload_n 3, 1) := by decide +kernel
theorem dL_law_209 : decode code 209 = .ok (.iconst 1, 1) := by decide +kernel
theorem dL_law_210 : decode code 210 = .ok (.iadd, 1) := by decide +kernel
theorem dL_law_211 : decode code 211 = .ok (.iaload, 1) := by decide +kernel
theorem dL_law_212 : decode code 212 = .ok (.aload_n 0, 1) := by decide +kernel
theorem dL_law_213 : decode code 213 = .ok (.iload_n 3, 1) := by decide +kernel
theorem dL_law_214 : decode code 214 = .ok (.iconst 2, 1) := by decide +kernel
theorem dL_law_215 : decode code 215 = .ok (.iadd, 1) := by decide +kernel
theorem dL_law_216 : decode code 216 = .ok (.iaload, 1) := by decide +kernel
theorem dL_law_217 : decode code 217 = .ok (.invokevirtual 23, 3) := by decide +kernel
theorem dL_law_220 : decode code 220 = .ok (.aload_n 2, 1) := by decide +kernel
theorem dL_law_221 : decode code 221 = .ok (.aload_n 0, 1) := by decide +kernel
theorem dL_law_222 : decode code 222 = .ok (.iload_n 3, 1) := by decide +kernel
theorem dL_law_223 : decode code 223 = .ok (.iconst 1, 1) := by decide +kernel
theorem dL_law_224 : decode code 224 = .ok (.iadd, 1) := by decide +kernel
theorem dL_law_225 : decode code 225 = .ok (.iaload, 1) := by decide +kernel
theorem dL_law_226 : decode code 226 = .ok (.aload_n 0, 1) := by decide +kernel
theorem dL_law_227 : decode code 227 = .ok (.iload_n 3, 1) := by decide +kernel
theorem dL_law_228 : decode code 228 = .ok (.iconst 2, 1) := by decide +kernel
theorem dL_law_229 : decode code 229 = .ok (.iadd, 1) := by decide +kernel
theorem dL_law_230 : decode code 230 = .ok (.iaload, 1) := by decide +kernel
theorem dL_law_231 : decode code 231 = .ok (.invokevirtual 26, 3) := by decide +kernel
theorem dL_law_234 : decode code 234 = .ok (.if_icmp .eq 400, 3) := by decide +kernel
theorem dL_law_237 : decode code 237 = .ok (.iconst 0, 1) := by decide +kernel
theorem dL_law_238 : decode code 238 = .ok (.ireturn, 1) := by decide +kernel
theorem dL_law_239 : decode code 239 = .ok (.aload_n 1, 1) := by decide +kernel
theorem dL_law_240 : decode code 240 = .ok (.aload_n 0, 1) := by decide +kernel
theorem dL_law_241 : decode code 241 = .ok (.iload_n 3, 1) := by decide +kernel
theorem dL_law_242 : decode code 242 = .ok (.iconst 1, 1) := by decide +kernel
theorem dL_law_243 : decode code 243 = .ok (.iadd, 1) := by decide +kernel
theorem dL_law_244 : decode code 244 = .ok (.iaload, 1) := by decide +kernel
theorem dL_law_245 : decode code 245 = .ok (.invokevirtual 27, 3) := by decide +kernel
theorem dL_law_248 : decode code 248 = .ok (.aload_n 2, 1) := by decide +kernel
theorem dL_law_249 : decode code 249 = .ok (.aload_n 0, 1) := by decide +kernel
theorem dL_law_250 : decode code 250 = .ok (.iload_n 3, 1) := by decide +kernel
theorem dL_law_251 : decode code 251 = .ok (.iconst 1, 1) := by decide +kernel
theorem dL_law_252 : decode code 252 = .ok (.iadd, 1) := by decide +kernel
theorem dL_law_253 : decode code 253 = .ok (.iaload, 1) := by decide +kernel
theorem dL_law_254 : decode code 254 = .ok (.invokevirtual 31, 3) := by decide +kernel
theorem dL_law_257 : decode code 257 = .ok (.if_icmp .eq 377, 3) := by decide +kernel
theorem dL_law_260 : decode code 260 = .ok (.iconst 0, 1) := by decide +kernel
theorem dL_law_261 : decode code 261 = .ok (.ireturn, 1) := by decide +kernel
theorem dL_law_262 : decode code 262 = .ok (.aload_n 1, 1) := by decide +kernel
theorem dL_law_263 : decode code 263 = .ok (.aload_n 0, 1) := by decide +kernel
theorem dL_law_264 : decode code 264 = .ok (.iload_n 3, 1) := by decide +kernel
theorem dL_law_265 : decode code 265 = .ok (.iconst 1, 1) := by decide +kernel
theorem dL_law_266 : decode code 266 = .ok (.iadd, 1) := by decide +kernel
theorem dL_law_267 : decode code 267 = .ok (.iaload, 1) := by decide +kernel
theorem dL_law_268 : decode code 268 = .ok (.aload_n 0, 1) := by decide +kernel
theorem dL_law_269 : decode code 269 = .ok (.iload_n 3, 1) := by decide +kernel
theorem dL_law_270 : decode code 270 = .ok (.iconst 2, 1) := by decide +kernel
theorem dL_law_271 : decode code 271 = .ok (.iadd, 1) := by decide +kernel
theorem dL_law_272 : decode code 272 = .ok (.iaload, 1) := by decide +kernel
theorem dL_law_273 : decode code 273 = .ok (.invokevirtual 32, 3) := by decide +kernel
theorem dL_law_276 : decode code 276 = .ok (.aload_n 2, 1) := by decide +kernel
theorem dL_law_277 : decode code 277 = .ok (.aload_n 0, 1) := by decide +kernel
theorem dL_law_278 : decode code 278 = .ok (.iload_n 3, 1) := by decide +kernel
theorem dL_law_279 : decode code 279 = .ok (.iconst 1, 1) := by decide +kernel
theorem dL_law_280 : decode code 280 = .ok (.iadd, 1) := by decide +kernel
theorem dL_law_281 : decode code 281 = .ok (.iaload, 1) := by decide +kernel
theorem dL_law_282 : decode code 282 = .ok (.aload_n 0, 1) := by decide +kernel
theorem dL_law_283 : decode code 283 = .ok (.iload_n 3, 1) := by decide +kernel
theorem dL_law_284 : decode code 284 = .ok (.iconst 2, 1) := by decide +kernel
theorem dL_law_285 : decode code 285 = .ok (.iadd, 1) := by decide +kernel
theorem dL_law_286 : decode code 286 = .ok (.iaload, 1) := by decide +kernel
theorem dL_law_287 : decode code 287 = .ok (.invokevirtual 35, 3) := by decide +kernel
theorem dL_law_290 : decode code 290 = .ok (.if_icmp .eq 344, 3) := by decide +kernel
theorem dL_law_293 : decode code 293 = .ok (.iconst 0, 1) := by decide +kernel
theorem dL_law_294 : decode code 294 = .ok (.ireturn, 1) := by decide +kernel
theorem dL_law_295 : decode code 295 = .ok (.aload_n 1, 1) := by decide +kernel
theorem dL_law_296 : decode code 296 = .ok (.aload_n 0, 1) := by decide +kernel
theorem dL_law_297 : decode code 297 = .ok (.iload_n 3, 1) := by decide +kernel
theorem dL_law_298 : decode code 298 = .ok (.iconst 1, 1) := by decide +kernel
theorem dL_law_299 : decode code 299 = .ok (.iadd, 1) := by decide +kernel
theorem dL_law_300 : decode code 300 = .ok (.iaload, 1) := by decide +kernel
theorem dL_law_301 : decode code 301 = .ok (.invokevirtual 36, 3) := by decide +kernel
theorem dL_law_304 : decode code 304 = .ok (.aload_n 2, 1) := by decide +kernel
theorem dL_law_305 : decode code 305 = .ok (.aload_n 0, 1) := by decide +kernel
theorem dL_law_306 : decode code 306 = .ok (.iload_n 3, 1) := by decide +kernel
theorem dL_law_307 : decode code 307 = .ok (.iconst 1, 1) := by decide +kernel
theorem dL_law_308 : decode code 308 = .ok (.iadd, 1) := by decide +kernel
theorem dL_law_309 : decode code 309 = .ok (.iaload, 1) := by decide +kernel
theorem dL_law_310 : decode code 310 = .ok (.invokevirtual 39, 3) := by decide +kernel
theorem dL_law_313 : decode code 313 = .ok (.if_icmp .eq 321, 3) := by decide +kernel
theorem dL_law_316 : decode code 316 = .ok (.iconst 0, 1) := by decide +kernel
theorem dL_law_317 : decode code 317 = .ok (.ireturn, 1) := by decide +kernel
theorem dL_law_318 : decode code 318 = .ok (.aload_n 1, 1) := by decide +kernel
theorem dL_law_319 : decode code 319 = .ok (.aload_n 0, 1) := by decide +kernel
theorem dL_law_320 : decode code 320 = .ok (.iload_n 3, 1) := by decide +kernel
theorem dL_law_321 : decode code 321 = .ok (.iconst 1, 1) := by decide +kernel
theorem dL_law_322 : decode code 322 = .ok (.iadd, 1) := by decide +kernel
theorem dL_law_323 : decode code 323 = .ok (.iaload, 1) := by decide +kernel
theorem dL_law_324 : decode code 324 = .ok (.invokevirtual 40, 3) := by decide +kernel
theorem dL_law_327 : decode code 327 = .ok (.aload_n 2, 1) := by decide +kernel
theorem dL_law_328 : decode code 328 = .ok (.aload_n 0, 1) := by decide +kernel
theorem dL_law_329 : decode code 329 = .ok (.iload_n 3, 1) := by decide +kernel
theorem dL_law_330 : decode code 330 = .ok (.iconst 1, 1) := by decide +kernel
theorem dL_law_331 : decode code 331 = .ok (.iadd, 1) := by decide +kernel
theorem dL_law_332 : decode code 332 = .ok (.iaload, 1) := by decide +kernel
theorem dL_law_333 : decode code 333 = .ok (.invokevirtual 44, 3) := by decide +kernel
theorem dL_law_336 : decode code 336 = .ok (.if_icmp .eq 298, 3) := by decide +kernel
theorem dL_law_339 : decode code 339 = .ok (.iconst 0, 1) := by decide +kernel
theorem dL_law_340 : decode code 340 = .ok (.ireturn, 1) := by decide +kernel
theorem dL_law_341 : decode code 341 = .ok (.aload_n 1, 1) := by decide +kernel
theorem dL_law_342 : decode code 342 = .ok (.aload_n 0, 1) := by decide +kernel
theorem dL_law_343 : decode code 343 = .ok (.iload_n 3, 1) := by decide +kernel
theorem dL_law_344 : decode code 344 = .ok (.iconst 1, 1) := by decide +kernel
theorem dL_law_345 : decode code 345 = .ok (.iadd, 1) := by decide +kernel
theorem dL_law_346 : decode code 346 = .ok (.iaload, 1) := by decide +kernel
theorem dL_law_347 : decode code 347 = .ok (.invokevirtual 45, 3) := by decide +kernel
theorem dL_law_350 : decode code 350 = .ok (.aload_n 2, 1) := by decide +kernel
theorem dL_law_351 : decode code 351 = .ok (.aload_n 0, 1) := by decide +kernel
theorem dL_law_352 : decode code 352 = .ok (.iload_n 3, 1) := by decide +kernel
theorem dL_law_353 : decode code 353 = .ok (.iconst 1, 1) := by decide +kernel
theorem dL_law_354 : decode code 354 = .ok (.iadd, 1) := by decide +kernel
theorem dL_law_355 : decode code 355 = .ok (.iaload, 1) := by decide +kernel
theorem dL_law_356 : decode code 356 = .ok (.invokevirtual 48, 3) := by decide +kernel
theorem dL_law_359 : decode code 359 = .ok (.if_icmp .eq 275, 3) := by decide +kernel
theorem dL_law_362 : decode code 362 = .ok (.iconst 0, 1) := by decide +kernel
theorem dL_law_363 : decode code 363 = .ok (.ireturn, 1) := by decide +kernel
theorem dL_law_364 : decode code 364 = .ok (.aload_n 1, 1) := by decide +kernel
theorem dL_law_365 : decode code 365 = .ok (.aload_n 0, 1) := by decide +kernel
theorem dL_law_366 : decode code 366 = .ok (.iload_n 3, 1) := by decide +kernel
theorem dL_law_367 : decode code 367 = .ok (.iconst 1, 1) := by decide +kernel
theorem dL_law_368 : decode code 368 = .ok (.iadd, 1) := by decide +kernel
theorem dL_law_369 : decode code 369 = .ok (.iaload, 1) := by decide +kernel
theorem dL_law_370 : decode code 370 = .ok (.aload_n 0, 1) := by decide +kernel
theorem dL_law_371 : decode code 371 = .ok (.iload_n 3, 1) := by decide +kernel
theorem dL_law_372 : decode code 372 = .ok (.iconst 2, 1) := by decide +kernel
theorem dL_law_373 : decode code 373 = .ok (.iadd, 1) := by decide +kernel
theorem dL_law_374 : decode code 374 = .ok (.iaload, 1) := by decide +kernel
theorem dL_law_375 : decode code 375 = .ok (.invokevirtual 49, 3) := by decide +kernel
theorem dL_law_378 : decode code 378 = .ok (.aload_n 2, 1) := by decide +kernel
theorem dL_law_379 : decode code 379 = .ok (.aload_n 0, 1) := by decide +kernel
theorem dL_law_380 : decode code 380 = .ok (.iload_n 3, 1) := by decide +kernel
theorem dL_law_381 : decode code 381 = .ok (.iconst 1, 1) := by decide +kernel
theorem dL_law_382 : decode code 382 = .ok (.iadd, 1) := by decide +kernel
theorem dL_law_383 : decode code 383 = .ok (.iaload, 1) := by decide +kernel
theorem dL_law_384 : decode code 384 = .ok (.aload_n 0, 1) := by decide +kernel
theorem dL_law_385 : decode code 385 = .ok (.iload_n 3, 1) := by decide +kernel
theorem dL_law_386 : decode code 386 = .ok (.iconst 2, 1) := by decide +kernel
theorem dL_law_387 : decode code 387 = .ok (.iadd, 1) := by decide +kernel
theorem dL_law_388 : decode code 388 = .ok (.iaload, 1) := by decide +kernel
theorem dL_law_389 : decode code 389 = .ok (.invokevirtual 52, 3) := by decide +kernel
theorem dL_law_392 : decode code 392 = .ok (.if_icmp .eq 242, 3) := by decide +kernel
theorem dL_law_395 : decode code 395 = .ok (.iconst 0, 1) := by decide +kernel
theorem dL_law_396 : decode code 396 = .ok (.ireturn, 1) := by decide +kernel
theorem dL_law_397 : decode code 397 = .ok (.aload_n 1, 1) := by decide +kernel
theorem dL_law_398 : decode code 398 = .ok (.aload_n 0, 1) := by decide +kernel
theorem dL_law_399 : decode code 399 = .ok (.iload_n 3, 1) := by decide +kernel
theorem dL_law_400 : decode code 400 = .ok (.iconst 1, 1) := by decide +kernel
theorem dL_law_401 : decode code 401 = .ok (.iadd, 1) := by decide +kernel
theorem dL_law_402 : decode code 402 = .ok (.iaload, 1) := by decide +kernel
theorem dL_law_403 : decode code 403 = .ok (.aload_n 0, 1) := by decide +kernel
theorem dL_law_404 : decode code 404 = .ok (.iload_n 3, 1) := by decide +kernel
theorem dL_law_405 : decode code 405 = .ok (.iconst 2, 1) := by decide +kernel
theorem dL_law_406 : decode code 406 = .ok (.iadd, 1) := by decide +kernel
theorem dL_law_407 : decode code 407 = .ok (.iaload, 1) := by decide +kernel
theorem dL_law_408 : decode code 408 = .ok (.invokevirtual 53, 3) := by decide +kernel
theorem dL_law_411 : decode code 411 = .ok (.aload_n 2, 1) := by decide +kernel
theorem dL_law_412 : decode code 412 = .ok (.aload_n 0, 1) := by decide +kernel
theorem dL_law_413 : decode code 413 = .ok (.iload_n 3, 1) := by decide +kernel
theorem dL_law_414 : decode code 414 = .ok (.iconst 1, 1) := by decide +kernel
theorem dL_law_415 : decode code 415 = .ok (.iadd, 1) := by decide +kernel
theorem dL_law_416 : decode code 416 = .ok (.iaload, 1) := by decide +kernel
theorem dL_law_417 : decode code 417 = .ok (.aload_n 0, 1) := by decide +kernel
theorem dL_law_418 : decode code 418 = .ok (.iload_n 3, 1) := by decide +kernel
theorem dL_law_419 : decode code 419 = .ok (.iconst 2, 1) := by decide +kernel
theorem dL_law_420 : decode code 420 = .ok (.iadd, 1) := by decide +kernel
theorem dL_law_421 : decode code 421 = .ok (.iaload, 1) := by decide +kernel
theorem dL_law_422 : decode code 422 = .ok (.invokevirtual 56, 3) := by decide +kernel
theorem dL_law_425 : decode code 425 = .ok (.if_icmp .eq 209, 3) := by decide +kernel
theorem dL_law_428 : decode code 428 = .ok (.iconst 0, 1) := by decide +kernel
theorem dL_law_429 : decode code 429 = .ok (.ireturn, 1) := by decide +kernel
theorem dL_law_430 : decode code 430 = .ok (.aload_n 1, 1) := by decide +kernel
theorem dL_law_431 : decode code 431 = .ok (.aload_n 0, 1) := by decide +kernel
theorem dL_law_432 : decode code 432 = .ok (.iload_n 3, 1) := by decide +kernel
theorem dL_law_433 : decode code 433 = .ok (.iconst 1, 1) := by decide +kernel
theorem dL_law_434 : decode code 434 = .ok (.iadd, 1) := by decide +kernel
theorem dL_law_435 : decode code 435 = .ok (.iaload, 1) := by decide +kernel
theorem dL_law_436 : decode code 436 = .ok (.aload_n 0, 1) := by decide +kernel
theorem dL_law_437 : decode code 437 = .ok (.iload_n 3, 1) := by decide +kernel
theorem dL_law_438 : decode code 438 = .ok (.iconst 2, 1) := by decide +kernel
theorem dL_law_439 : decode code 439 = .ok (.iadd, 1) := by decide +kernel
theorem dL_law_440 : decode code 440 = .ok (.iaload, 1) := by decide +kernel
theorem dL_law_441 : decode code 441 = .ok (.invokevirtual 57, 3) := by decide +kernel
theorem dL_law_444 : decode code 444 = .ok (.aload_n 2, 1) := by decide +kernel
theorem dL_law_445 : decode code 445 = .ok (.aload_n 0, 1) := by decide +kernel
theorem dL_law_446 : decode code 446 = .ok (.iload_n 3, 1) := by decide +kernel
theorem dL_law_447 : decode code 447 = .ok (.iconst 1, 1) := by decide +kernel
theorem dL_law_448 : decode code 448 = .ok (.iadd, 1) := by decide +kernel
theorem dL_law_449 : decode code 449 = .ok (.iaload, 1) := by decide +kernel
theorem dL_law_450 : decode code 450 = .ok (.aload_n 0, 1) := by decide +kernel
theorem dL_law_451 : decode code 451 = .ok (.iload_n 3, 1) := by decide +kernel
theorem dL_law_452 : decode code 452 = .ok (.iconst 2, 1) := by decide +kernel
theorem dL_law_453 : decode code 453 = .ok (.iadd, 1) := by decide +kernel
theorem dL_law_454 : decode code 454 = .ok (.iaload, 1) := by decide +kernel
theorem dL_law_455 : decode code 455 = .ok (.invokevirtual 60, 3) := by decide +kernel
theorem dL_law_458 : decode code 458 = .ok (.if_icmp .eq 176, 3) := by decide +kernel
theorem dL_law_461 : decode code 461 = .ok (.iconst 0, 1) := by decide +kernel
theorem dL_law_462 : decode code 462 = .ok (.ireturn, 1) := by decide +kernel
theorem dL_law_463 : decode code 463 = .ok (.aload_n 1, 1) := by decide +kernel
theorem dL_law_464 : decode code 464 = .ok (.aload_n 0, 1) := by decide +kernel
theorem dL_law_465 : decode code 465 = .ok (.iload_n 3, 1) := by decide +kernel
theorem dL_law_466 : decode code 466 = .ok (.iconst 1, 1) := by decide +kernel
theorem dL_law_467 : decode code 467 = .ok (.iadd, 1) := by decide +kernel
theorem dL_law_468 : decode code 468 = .ok (.iaload, 1) := by decide +kernel
theorem dL_law_469 : decode code 469 = .ok (.invokevirtual 61, 3) := by decide +kernel
theorem dL_law_472 : decode code 472 = .ok (.aload_n 2, 1) := by decide +kernel
theorem dL_law_473 : decode code 473 = .ok (.aload_n 0, 1) := by decide +kernel
theorem dL_law_474 : decode code 474 = .ok (.iload_n 3, 1) := by decide +kernel
theorem dL_law_475 : decode code 475 = .ok (.iconst 1, 1) := by decide +kernel
theorem dL_law_476 : decode code 476 = .ok (.iadd, 1) := by decide +kernel
theorem dL_law_477 : decode code 477 = .ok (.iaload, 1) := by decide +kernel
theorem dL_law_478 : decode code 478 = .ok (.invokevirtual 64, 3) := by decide +kernel
theorem dL_law_481 : decode code 481 = .ok (.if_icmp .eq 153, 3) := by decide +kernel
theorem dL_law_484 : decode code 484 = .ok (.iconst 0, 1) := by decide +kernel
theorem dL_law_485 : decode code 485 = .ok (.ireturn, 1) := by decide +kernel
theorem dL_law_486 : decode code 486 = .ok (.aload_n 1, 1) := by decide +kernel
theorem dL_law_487 : decode code 487 = .ok (.aload_n 0, 1) := by decide +kernel
theorem dL_law_488 : decode code 488 = .ok (.iload_n 3, 1) := by decide +kernel
theorem dL_law_489 : decode code 489 = .ok (.iconst 1, 1) := by decide +kernel
theorem dL_law_490 : decode code 490 = .ok (.iadd, 1) := by decide +kernel
theorem dL_law_491 : decode code 491 = .ok (.iaload, 1) := by decide +kernel
theorem dL_law_492 : decode code 492 = .ok (.aload_n 0, 1) := by decide +kernel
theorem dL_law_493 : decode code 493 = .ok (.iload_n 3, 1) := by decide +kernel
theorem dL_law_494 : decode code 494 = .ok (.iconst 2, 1) := by decide +kernel
theorem dL_law_495 : decode code 495 = .ok (.iadd, 1) := by decide +kernel
theorem dL_law_496 : decode code 496 = .ok (.iaload, 1) := by decide +kernel
theorem dL_law_497 : decode code 497 = .ok (.invokevirtual 65, 3) := by decide +kernel
theorem dL_law_500 : decode code 500 = .ok (.aload_n 2, 1) := by decide +kernel
theorem dL_law_501 : decode code 501 = .ok (.aload_n 0, 1) := by decide +kernel
theorem dL_law_502 : decode code 502 = .ok (.iload_n 3, 1) := by decide +kernel
theorem dL_law_503 : decode code 503 = .ok (.iconst 1, 1) := by decide +kernel
theorem dL_law_504 : decode code 504 = .ok (.iadd, 1) := by decide +kernel
theorem dL_law_505 : decode code 505 = .ok (.iaload, 1) := by decide +kernel
theorem dL_law_506 : decode code 506 = .ok (.aload_n 0, 1) := by decide +kernel
theorem dL_law_507 : decode code 507 = .ok (.iload_n 3, 1) := by decide +kernel
theorem dL_law_508 : decode code 508 = .ok (.iconst 2, 1) := by decide +kernel
theorem dL_law_509 : decode code 509 = .ok (.iadd, 1) := by decide +kernel
theorem dL_law_510 : decode code 510 = .ok (.iaload, 1) := by decide +kernel
theorem dL_law_511 : decode code 511 = .ok (.invokevirtual 68, 3) := by decide +kernel
theorem dL_law_514 : decode code 514 = .ok (.if_icmp .eq 120, 3) := by decide +kernel
theorem dL_law_517 : decode code 517 = .ok (.iconst 0, 1) := by decide +kernel
theorem dL_law_518 : decode code 518 = .ok (.ireturn, 1) := by decide +kernel
theorem dL_law_519 : decode code 519 = .ok (.aload_n 1, 1) := by decide +kernel
theorem dL_law_520 : decode code 520 = .ok (.aload_n 0, 1) := by decide +kernel
theorem dL_law_521 : decode code 521 = .ok (.iload_n 3, 1) := by decide +kernel
theorem dL_law_522 : decode code 522 = .ok (.iconst 1, 1) := by decide +kernel
theorem dL_law_523 : decode code 523 = .ok (.iadd, 1) := by decide +kernel
theorem dL_law_524 : decode code 524 = .ok (.iaload, 1) := by decide +kernel
theorem dL_law_525 : decode code 525 = .ok (.aload_n 0, 1) := by decide +kernel
theorem dL_law_526 : decode code 526 = .ok (.iload_n 3, 1) := by decide +kernel
theorem dL_law_527 : decode code 527 = .ok (.iconst 2, 1) := by decide +kernel
theorem dL_law_528 : decode code 528 = .ok (.iadd, 1) := by decide +kernel
theorem dL_law_529 : decode code 529 = .ok (.iaload, 1) := by decide +kernel
theorem dL_law_530 : decode code 530 = .ok (.invokevirtual 69, 3) := by decide +kernel
theorem dL_law_533 : decode code 533 = .ok (.aload_n 2, 1) := by decide +kernel
theorem dL_law_534 : decode code 534 = .ok (.aload_n 0, 1) := by decide +kernel
theorem dL_law_535 : decode code 535 = .ok (.iload_n 3, 1) := by decide +kernel
theorem dL_law_536 : decode code 536 = .ok (.iconst 1, 1) := by decide +kernel
theorem dL_law_537 : decode code 537 = .ok (.iadd, 1) := by decide +kernel
theorem dL_law_538 : decode code 538 = .ok (.iaload, 1) := by decide +kernel
theorem dL_law_539 : decode code 539 = .ok (.aload_n 0, 1) := by decide +kernel
theorem dL_law_540 : decode code 540 = .ok (.iload_n 3, 1) := by decide +kernel
theorem dL_law_541 : decode code 541 = .ok (.iconst 2, 1) := by decide +kernel
theorem dL_law_542 : decode code 542 = .ok (.iadd, 1) := by decide +kernel
theorem dL_law_543 : decode code 543 = .ok (.iaload, 1) := by decide +kernel
theorem dL_law_544 : decode code 544 = .ok (.invokevirtual 72, 3) := by decide +kernel
theorem dL_law_547 : decode code 547 = .ok (.if_icmp .eq 87, 3) := by decide +kernel
theorem dL_law_550 : decode code 550 = .ok (.iconst 0, 1) := by decide +kernel
theorem dL_law_551 : decode code 551 = .ok (.ireturn, 1) := by decide +kernel
theorem dL_law_552 : decode code 552 = .ok (.aload_n 1, 1) := by decide +kernel
theorem dL_law_553 : decode code 553 = .ok (.aload_n 0, 1) := by decide +kernel
theorem dL_law_554 : decode code 554 = .ok (.iload_n 3, 1) := by decide +kernel
theorem dL_law_555 : decode code 555 = .ok (.iconst 1, 1) := by decide +kernel
theorem dL_law_556 : decode code 556 = .ok (.iadd, 1) := by decide +kernel
theorem dL_law_557 : decode code 557 = .ok (.iaload, 1) := by decide +kernel
theorem dL_law_558 : decode code 558 = .ok (.invokevirtual 73, 3) := by decide +kernel
theorem dL_law_561 : decode code 561 = .ok (.aload_n 2, 1) := by decide +kernel
theorem dL_law_562 : decode code 562 = .ok (.aload_n 0, 1) := by decide +kernel
theorem dL_law_563 : decode code 563 = .ok (.iload_n 3, 1) := by decide +kernel
theorem dL_law_564 : decode code 564 = .ok (.iconst 1, 1) := by decide +kernel
theorem dL_law_565 : decode code 565 = .ok (.iadd, 1) := by decide +kernel
theorem dL_law_566 : decode code 566 = .ok (.iaload, 1) := by decide +kernel
theorem dL_law_567 : decode code 567 = .ok (.invokevirtual 76, 3) := by decide +kernel
theorem dL_law_570 : decode code 570 = .ok (.if_icmp .eq 64, 3) := by decide +kernel
theorem dL_law_573 : decode code 573 = .ok (.iconst 0, 1) := by decide +kernel
theorem dL_law_574 : decode code 574 = .ok (.ireturn, 1) := by decide +kernel
theorem dL_law_575 : decode code 575 = .ok (.aload_n 1, 1) := by decide +kernel
theorem dL_law_576 : decode code 576 = .ok (.invokevirtual 77, 3) := by decide +kernel
theorem dL_law_579 : decode code 579 = .ok (.aload_n 2, 1) := by decide +kernel
theorem dL_law_580 : decode code 580 = .ok (.invokevirtual 81, 3) := by decide +kernel
theorem dL_law_583 : decode code 583 = .ok (.if_icmp .eq 51, 3) := by decide +kernel
theorem dL_law_586 : decode code 586 = .ok (.iconst 0, 1) := by decide +kernel
theorem dL_law_587 : decode code 587 = .ok (.ireturn, 1) := by decide +kernel
theorem dL_law_588 : decode code 588 = .ok (.aload_n 1, 1) := by decide +kernel
theorem dL_law_589 : decode code 589 = .ok (.aload_n 0, 1) := by decide +kernel
theorem dL_law_590 : decode code 590 = .ok (.iload_n 3, 1) := by decide +kernel
theorem dL_law_591 : decode code 591 = .ok (.iconst 1, 1) := by decide +kernel
theorem dL_law_592 : decode code 592 = .ok (.iadd, 1) := by decide +kernel
theorem dL_law_593 : decode code 593 = .ok (.iaload, 1) := by decide +kernel
theorem dL_law_594 : decode code 594 = .ok (.invokevirtual 82, 3) := by decide +kernel
theorem dL_law_597 : decode code 597 = .ok (.aload_n 2, 1) := by decide +kernel
theorem dL_law_598 : decode code 598 = .ok (.aload_n 0, 1) := by decide +kernel
theorem dL_law_599 : decode code 599 = .ok (.iload_n 3, 1) := by decide +kernel
theorem dL_law_600 : decode code 600 = .ok (.iconst 1, 1) := by decide +kernel
theorem dL_law_601 : decode code 601 = .ok (.iadd, 1) := by decide +kernel
theorem dL_law_602 : decode code 602 = .ok (.iaload, 1) := by decide +kernel
theorem dL_law_603 : decode code 603 = .ok (.invokevirtual 85, 3) := by decide +kernel
theorem dL_law_606 : decode code 606 = .ok (.if_icmp .eq 28, 3) := by decide +kernel
theorem dL_law_609 : decode code 609 = .ok (.iconst 0, 1) := by decide +kernel
theorem dL_law_610 : decode code 610 = .ok (.ireturn, 1) := by decide +kernel
theorem dL_law_611 : decode code 611 = .ok (.aload_n 1, 1) := by decide +kernel
theorem dL_law_612 : decode code 612 = .ok (.aload_n 0, 1) := by decide +kernel
theorem dL_law_613 : decode code 613 = .ok (.iload_n 3, 1) := by decide +kernel
theorem dL_law_614 : decode code 614 = .ok (.iconst 1, 1) := by decide +kernel
theorem dL_law_615 : decode code 615 = .ok (.iadd, 1) := by decide +kernel
theorem dL_law_616 : decode code 616 = .ok (.iaload, 1) := by decide +kernel
theorem dL_law_617 : decode code 617 = .ok (.invokevirtual 86, 3) := by decide +kernel
theorem dL_law_620 : decode code 620 = .ok (.aload_n 2, 1) := by decide +kernel
theorem dL_law_621 : decode code 621 = .ok (.aload_n 0, 1) := by decide +kernel
theorem dL_law_622 : decode code 622 = .ok (.iload_n 3, 1) := by decide +kernel
theorem dL_law_623 : decode code 623 = .ok (.iconst 1, 1) := by decide +kernel
theorem dL_law_624 : decode code 624 = .ok (.iadd, 1) := by decide +kernel
theorem dL_law_625 : decode code 625 = .ok (.iaload, 1) := by decide +kernel
theorem dL_law_626 : decode code 626 = .ok (.invokevirtual 89, 3) := by decide +kernel
theorem dL_law_629 : decode code 629 = .ok (.if_icmp .eq 5, 3) := by decide +kernel
theorem dL_law_632 : decode code 632 = .ok (.iconst 0, 1) := by decide +kernel
theorem dL_law_633 : decode code 633 = .ok (.ireturn, 1) := by decide +kernel
theorem dL_law_634 : decode code 634 = .ok (.iinc 3 5, 3) := by decide +kernel
theorem dL_law_637 : decode code 637 = .ok (.goto (-619), 3) := by decide +kernel
theorem dL_law_640 : decode code 640 = .ok (.iconst 1, 1) := by decide +kernel
theorem dL_law_641 : decode code 641 = .ok (.ireturn, 1) := by decide +kernel
end
section
-- MAKING: the cells lie one behind another from B on; the world grows by one cell at a time
def adr (B : Nat) : Nat → Nat := fun k => B + k
theorem mw_len {N : Nat} {ad : Nat → Nat} {g : Nat → va_E} : (mw N ad g).length = N := by simp [mw]
theorem mw_push {N : Nat} {ad : Nat → Nat} {g : Nat → va_E} {q : Nat} {e : va_E} : mw N ad g ++ [(q, e)] = mw (N + 1) (va_up ad N q) (va_up g N e) := by
  apply List.ext_getElem?
  intro i
  by_cases h : i < N
  · rw [List.getElem?_append_left (by rw [mw_len]; exact h), mw_at h, mw_at (Nat.lt_succ_of_lt h), va_up_ne _ _ (Nat.ne_of_lt h), va_up_ne _ _ (Nat.ne_of_lt h)]
  · rw [List.getElem?_append_right (by rw [mw_len]; omega), mw_len]
    by_cases h2 : i = N
    · subst h2
      rw [mw_at (Nat.lt_succ_self i), va_up_self, va_up_self]
      simp
    · rw [List.getElem?_eq_none (by simp; omega), List.getElem?_eq_none (by rw [mw_len]; omega)]
theorem adr_up {B N : Nat} : va_up (adr B) N (adr B N) = adr B := by
  funext j
  by_cases h : j = N
  · subst h; rw [va_up_self]
  · rw [va_up_ne _ _ h]
theorem nD {B N : Nat} {g : Nat → va_E} : va_D (fun q => B ≤ q) (mw N (adr B) g) := by
  refine ⟨fun i j p q hp hq e => ?_, fun k q hq => ?_⟩
  · obtain ⟨h1, rfl⟩ := mw_of hp
    obtain ⟨h2, rfl⟩ := mw_of hq
    have e : B + i = B + j := e
    omega
  · obtain ⟨h1, rfl⟩ := mw_of hq
    exact Nat.le_add_right B k
theorem n_det {D : va_G} {B N q : Nat} {g : Nat → va_E} {e : va_E} {H : Heap} (hP : va_P D vwCl (mw N (adr B) g ++ [(q, e)]) H) (hD : va_D (fun q => B ≤ q) (mw N (adr B) g ++ [(q, e)])) (hz : H.size ≤ B + N + 1) : q = adr B N ∧ va_P D vwCl (mw (N + 1) (adr B) (va_up g N e)) H := by
  have hq : (mw N (adr B) g ++ [(q, e)])[N]? = some (q, e) := by
    rw [List.getElem?_append_right (by rw [mw_len]; exact Nat.le_refl N), mw_len]
    simp
  have h1 : q < H.size := (hP N _ hq).lt
  have h2 : B ≤ q := hD.2 N _ hq
  have h3 : q = adr B N := by
    rcases Nat.lt_or_ge q (B + N) with h | h
    · have hi : q - B < N := by omega
      have e1 : (mw N (adr B) g ++ [(q, e)])[q - B]? = some (adr B (q - B), g (q - B)) := by
        rw [List.getElem?_append_left (by rw [mw_len]; exact hi), mw_at hi]
      have := hD.1 (q - B) N _ _ e1 hq (by show B + (q - B) = q; omega)
      omega
    · show q = B + N
      omega
  refine ⟨h3, ?_⟩
  rw [mw_push, h3, adr_up] at hP
  exact hP
theorem n_put {D : va_G} {B N k : Nat} {g : Nat → va_E} {e : va_E} {H : Heap} (hk : k < N) (hP : va_P D vwCl ((mw N (adr B) g).set k (adr B k, e)) H) : va_P D vwCl (mw N (adr B) (va_up g k e)) H := by
  rw [mw_set (g' := va_up g k e) hk (va_up_self _ _ _) (fun j hj => va_up_ne _ _ hj)] at hP
  exact hP
theorem n_at {B N k : Nat} {g : Nat → va_E} {e : va_E} (hk : k < N) (h : g k = e) : (mw N (adr B) g)[k]? = some (adr B k, e) := by rw [mw_at hk, h]
theorem n_size {D : va_G} {B N : Nat} {g : Nat → va_E} {H : Heap} (hP : va_P D vwCl (mw (N + 1) (adr B) g) H) (hz : H.size ≤ B + (N + 1)) : H.size = B + (N + 1) := by
  have h : B + N < H.size := (hP N _ (mw_at (Nat.lt_succ_self N))).lt
  omega
def nX (U : State) : Prop := va_Nw (.methodLinkNest RX4 15 yX0_init RX4) U ∧ va_Nw (.methodLinkNest RX0 11 yX2_init RX4) U ∧ va_Nw (.methodLinkNest RX0 20 yX3_init RX4) U ∧ va_AO RX0 U ∧ va_AO RX1 U
theorem nX.warm {s U : State} (hW : s.WarmedH U.vm) (h : nX s) : nX U := ⟨va_Nw.warmM hW h.1, va_Nw.warmM hW h.2.1, va_Nw.warmM hW h.2.2.1, va_AO.moved hW.alike h.2.2.2.1, va_AO.moved hW.alike h.2.2.2.2⟩
theorem nX.call {U : State} {g : JFrame} {mk : MethodId} {a : Array Value} (h : nX U) : nX (U.calling g mk a) := ⟨va_Nw.same rfl rfl h.1, va_Nw.same rfl rfl h.2.1, va_Nw.same rfl rfl h.2.2.1, va_AO.moved (Vm.Alike.refl U.vm) h.2.2.2.1, va_AO.moved (Vm.Alike.refl U.vm) h.2.2.2.2⟩
def nP (D : va_G) (cs : Nat → ClassId) (B N : Nat) (g : Nat → va_E) (U : State) : Prop := U.heap.size = B + N ∧ va_P D vwCl (mw N (adr B) g) U.heap ∧ va_K D vwCl (tyl cs) U ∧ nX U
def nQ (D : va_G) (B N : Nat) (g : Nat → va_E) : Array Value → State → Outcome → State → Prop := fun _ st oc t => (oc = .returned none ∧ va_P D vwCl (mw N (adr B) g) t.heap) ∧ va_F (fun q => B ≤ q) st t
def NC (l : Launch) (y : MethodName) (ws : List Cond) (rm : Room) (D : va_G) (cs : Nat → ClassId) (B : Nat) (av : List Value) (N : Nat) (g : Nat → va_E) (N' : Nat) (g' : Nat → va_E) (mc ms : Nat) : Prop := Met l y ws rm (va_Pc av (nP D cs B N g)) (nQ D B N' g') mc ms (fun q => B ≤ q)
theorem n_enter {l : Launch} {y : MethodName} {ws ws' : List Cond} {rm : Room} {D : va_G} {cs : Nat → ClassId} {B N N' : Nat} {av : List Value} {g g' : Nat → va_E} {mc ms : Nat} {cc : ByteArray} {maxL : Nat} (hy : plainFor y = true) (hw : ws = Cond.code y cc maxL none :: ws') (hn : (lg_sl av).length ≤ maxL)
    (walk : ∀ (p : Program) (e : Env) (s : State) (m : MethodId) (below : List Frame) (meth : Method) (c : Code) (ls : Array Slot), p.tables.exec = Jvm.exec → c.code = cc → meth.sig.returnType = none → c.maxLocals = maxL → s.vm.findClass y.cls = some m.cls → (∀ w ∈ ws, w.before av.toArray s = true) → meth.locks = false → meth.name = y.name → s.heap.size = B + N → va_K D vwCl (tyl cs) s → nX s → va_P D vwCl (mw N (adr B) g) s.heap → va_S (fun q => B ≤ q) s.heap s.heap [] → lv_has ls maxL (lv_args 0 av) → W p l e rm s m av.toArray below meth c s.heap [] 0 0 (MQ below (nQ D B N' g') av.toArray s mc ms (fun q => B ≤ q)) (F0 m 0 ls [])) : NC l y ws rm D cs B av N g N' g' mc ms := by
  refine va_MetF (cc := cc) (maxL := maxL) (ret := none) hy hw ?_
  intro p e s m args below meth c s₁ Bd hml hv
  obtain ⟨rfl, hz, hP, hK, hX⟩ := hv
  have hl := lv_entry av (n := maxL) hn
  rw [lg_entry_eq]
  exact walk p e s m below meth c _ Bd.exec Bd.bytes Bd.returns hml (findClass_of_methodNamed Bd.named) (atoms_spec (ws := ws) Bd.pre) Bd.notSynchronized (name_of_methodNamed Bd.named Bd.method).1 hz hK hX hP va_S.rf hl
section NW
variable {p : Program} {l : Launch} {e : Env} {R : Room} {s : State} {m : MethodId} {args : Array Value} {below : List Frame} {meth : Method} {c : Code} {H : Heap} {locs : List Loc} {cells slots : Nat} {Q : State → Prop}
variable {cc : ByteArray} {pc : Nat} {ls : Array Slot} {rest st0 : List Value} {D : va_G} {cs : Nat → ClassId} {a : Array Value} {B N N' : Nat} {g g' : Nat → va_E} {H0 : Heap} {A0 : Nat → Prop}
theorem n_sized {f : JFrame} (kk : H.size ≤ s.heap.size + cells → W p l e R s m args below meth c H locs cells slots Q f) : W p l e R s m args below meth c H locs cells slots Q f :=
  fun T hT X => kk (by rw [← hT]; exact X.same.2.2.1) T hT X
theorem n_newi {n : Int32} {n' : Nat} (hx : p.tables.exec = Jvm.exec) (hb : c.code = cc) (harr : (Cond.arrayClass .int).before args s = true) (hK : va_K D vwCl (tyl cs) s) (hP : va_P D vwCl (mw N (adr B) g) H) (hS : va_S (fun q => B ≤ q) s.heap H locs) (hBs : B ≤ s.heap.size) (hB : s.heap.size + cells = B + N) (hn : ¬ n < 0) (hN : n.toNatClampNeg = n') (hbytes : n' * componentBytes .int ≤ 536870912) (hcells : cells + 1 ≤ R.cells) (hslots : slots + n' ≤ R.slots) (hdg : decode cc pc = .ok (.newarray .int, 2))
    (kk : ∀ H1 : Heap, va_P D vwCl (mw (N + 1) (adr B) (va_up g N (.inl (cs 0, n', .inl (fun _ => 0))))) H1 → va_S (fun q => B ≤ q) s.heap H1 locs → W p l e R s m args below meth c H1 locs (cells + 1) (slots + n') Q (F0 m (pc + 2) ls (.ref (adr B N) :: rest))) : W p l e R s m args below meth c H locs cells slots Q (F0 m pc ls (.int n :: rest)) := by
  refine va_newa hx hb (atype := .int) harr rfl hK hP nD hS (fun q h => Nat.le_trans hBs h) (a0 := (n', .inl (fun _ => 0))) (fun _ => rfl) hn hN hbytes hcells hslots hdg (fun q cA H1 hK2 hP1 hD1 hS1 => ?_)
  have h1 : s.vm.findClass ("[" ++ FieldType.int.toString) = some cA := (hK2.2 4 (cA, .int) rfl).2
  have h2 : s.vm.findClass ("[" ++ FieldType.int.toString) = some (cs 0) := (hK.2 0 (cs 0, .int) rfl).2
  have hc : cA = cs 0 := Option.some.inj (h1.symm.trans h2)
  subst hc
  refine n_sized (fun hz => ?_)
  obtain ⟨rfl, hP2⟩ := n_det hP1 hD1 (by omega)
  exact kk H1 hP2 hS1
theorem n_newz {n : Int32} {n' : Nat} (hx : p.tables.exec = Jvm.exec) (hb : c.code = cc) (harr : (Cond.arrayClass .boolean).before args s = true) (hK : va_K D vwCl (tyl cs) s) (hP : va_P D vwCl (mw N (adr B) g) H) (hS : va_S (fun q => B ≤ q) s.heap H locs) (hBs : B ≤ s.heap.size) (hB : s.heap.size + cells = B + N) (hn : ¬ n < 0) (hN : n.toNatClampNeg = n') (hbytes : n' * componentBytes .boolean ≤ 536870912) (hcells : cells + 1 ≤ R.cells) (hslots : slots + n' ≤ R.slots) (hdg : decode cc pc = .ok (.newarray .boolean, 2))
    (kk : ∀ H1 : Heap, va_P D vwCl (mw (N + 1) (adr B) (va_up g N (.inl (cs 1, n', .inl (fun _ => 0))))) H1 → va_S (fun q => B ≤ q) s.heap H1 locs → W p l e R s m args below meth c H1 locs (cells + 1) (slots + n') Q (F0 m (pc + 2) ls (.ref (adr B N) :: rest))) : W p l e R s m args below meth c H locs cells slots Q (F0 m pc ls (.int n :: rest)) := by
  refine va_newa hx hb (atype := .boolean) harr rfl hK hP nD hS (fun q h => Nat.le_trans hBs h) (a0 := (n', .inl (fun _ => 0))) (fun _ => rfl) hn hN hbytes hcells hslots hdg (fun q cA H1 hK2 hP1 hD1 hS1 => ?_)
  have h1 : s.vm.findClass ("[" ++ FieldType.boolean.toString) = some cA := (hK2.2 4 (cA, .boolean) rfl).2
  have h2 : s.vm.findClass ("[" ++ FieldType.boolean.toString) = some (cs 1) := (hK.2 1 (cs 1, .boolean) rfl).2
  have hc : cA = cs 1 := Option.some.inj (h1.symm.trans h2)
  subst hc
  refine n_sized (fun hz => ?_)
  obtain ⟨rfl, hP2⟩ := n_det hP1 hD1 (by omega)
  exact kk H1 hP2 hS1
theorem n_newr {own C : String} {index t0 n' : Nat} {n : Int32} (ht : (tyl cs)[t0]? = some (cs t0, .object C)) (hx : p.tables.exec = Jvm.exec) (hb : c.code = cc) (hown : s.vm.findClass own = some m.cls) (hclink : (Cond.classLink own index C).before args s = true) (hover : va_AO C s) (hK : va_K D vwCl (tyl cs) s) (hP : va_P D vwCl (mw N (adr B) g) H) (hS : va_S (fun q => B ≤ q) s.heap H locs) (hBs : B ≤ s.heap.size) (hB : s.heap.size + cells = B + N) (hn : ¬ n < 0) (hN : n.toNatClampNeg = n') (hbytes : n' * 4 ≤ 536870912) (hcells : cells + 1 ≤ R.cells) (hslots : slots + n' ≤ R.slots) (hdg : decode cc pc = .ok (.anewarray index, 3))
    (kk : ∀ H1 : Heap, va_P D vwCl (mw (N + 1) (adr B) (va_up g N (.inl (cs t0, n', .inr (.inr (.inr (.inr (fun _ => none)))))))) H1 → va_S (fun q => B ≤ q) s.heap H1 locs → W p l e R s m args below meth c H1 locs (cells + 1) (slots + n') Q (F0 m (pc + 3) ls (.ref (adr B N) :: rest))) : W p l e R s m args below meth c H locs cells slots Q (F0 m pc ls (.int n :: rest)) := by
  refine va_newq hx hb hown hclink hover hK hP nD hS (fun q h => Nat.le_trans hBs h) hn hN hbytes hcells hslots hdg (fun q cA H1 hK2 hP1 hD1 hS1 => ?_)
  obtain ⟨_, _, -, -, -, h1⟩ := (hK2.2 4 (cA, .object C) rfl).2
  obtain ⟨_, _, -, -, -, h2⟩ := (hK.2 t0 (cs t0, .object C) ht).2
  have hc : cA = cs t0 := Option.some.inj (h1.symm.trans h2)
  subst hc
  refine n_sized (fun hz => ?_)
  obtain ⟨rfl, hP2⟩ := n_det hP1 hD1 (by omega)
  exact kk H1 hP2 hS1
theorem n_newo {own C : String} {T : u_T} {F ci index : Nat} {fs : List Value} (hx : p.tables.exec = Jvm.exec) (hb : c.code = cc) (hts : ∀ w ∈ gtbl, w.before args s = true) (hin : ∀ w ∈ u_ws C T F, w ∈ gtbl) (ty : Nat → FieldType) (hty : ∀ k, k < F → parseFieldDescriptor (T k).2.2.1 = some (ty k)) (hown : s.vm.findClass own = some m.cls) (hcl : (Cond.classLink own index C).before args s = true) (hinst : (Cond.instantiable C F).before args s = true) (hini : (Cond.initialized C).before args s = true) (hK : va_K D vwCl (tyl cs) s) (hP : va_P D vwCl (mw N (adr B) g) H) (hS : va_S (fun q => B ≤ q) s.heap H locs) (hBs : B ≤ s.heap.size) (hB : s.heap.size + cells = B + N) (hc : vwCl[ci]? = some (C, T, F)) (hfs : ∀ j, j < F → defaultValue (ty j) = vp_V fs j) (hcells : cells + 1 ≤ R.cells) (hslots : slots + F ≤ R.slots) (hdg : decode cc pc = .ok (.new index, 3))
    (kk : ∀ H1 : Heap, va_P D vwCl (mw (N + 1) (adr B) (va_up g N (.inr (ci, fs)))) H1 → va_S (fun q => B ≤ q) s.heap H1 locs → W p l e R s m args below meth c H1 locs (cells + 1) (slots + F) Q (F0 m (pc + 3) ls (.ref (adr B N) :: rest))) : W p l e R s m args below meth c H locs cells slots Q (F0 m pc ls rest) := by
  refine va_new hx hb hts hin ty hty hown hcl hinst hini hK hP nD hS (fun q h => Nat.le_trans hBs h) hc hfs hcells hslots hdg (fun q H1 hP1 hD1 hS1 => ?_)
  refine n_sized (fun hz => ?_)
  obtain ⟨rfl, hP2⟩ := n_det hP1 hD1 (by omega)
  exact kk H1 hP2 hS1
theorem n_ret (hx : p.tables.exec = Jvm.exec) (hb : c.code = cc) (hr : meth.sig.returnType = none) (hlocks : meth.locks = false) (hdg : decode cc pc = .ok (.return_, 1)) (hP : va_P D vwCl (mw N (adr B) g) H) (hS : va_S (fun q => B ≤ q) s.heap H locs) : W p l e R s m args below meth c H locs cells slots (MQ below (nQ D B N g) args s cells slots (fun q => B ≤ q)) (F0 m pc ls []) :=
  W.vret hx hb hr (fun t ht _ => ⟨⟨rfl, by rw [ht]; exact hP⟩, hS.F ht⟩) hS.2.2 hdg hlocks
theorem n_call {mc ms : Nat} (hr : va_Run p l e R s m args below meth c H locs cells slots mc ms (F0 m pc ls st0) rest (nQ D B N' g' a) (fun q => B ≤ q)) (hS : va_S (fun q => B ≤ q) s.heap H locs)
    (kk : ∀ (H1 : Heap) (locs1 : List Loc), va_P D vwCl (mw N' (adr B) g') H1 → va_S (fun q => B ≤ q) s.heap H1 locs1 → W p l e R s m args below meth c H1 locs1 (cells + mc) (slots + ms) Q (F0 m (pc + 3) ls rest)) : W p l e R s m args below meth c H locs cells slots Q (F0 m pc ls st0) := by
  intro T hT X
  obtain ⟨w, st₀, t, T', L, h0, X', hL, e1, e2, ⟨⟨hv, hp⟩, hz, hk⟩, st⟩ := hr T hT X
  cases hv
  rw [h0] at hz hk
  obtain ⟨t2, a1, b1⟩ := kk T'.heap (locs ++ L) (by rw [e1]; exact hp)
    ⟨Nat.le_trans hS.1 (by rw [e1]; exact hz), fun q h1 h2 => by rw [e1, hk q (Nat.lt_of_lt_of_le h1 hS.1) h2]; exact hS.2.1 q h1 h2, fun q hq => by
      rcases List.mem_append.mp hq with h | h
      · exact hS.2.2 q h
      · exact hL q h⟩ T' rfl X'
  exact ⟨t2, st t2 a1, b1⟩
theorem n_pre {av : List Value} (hz : H.size = B + N) (hK : va_K D vwCl (tyl cs) s) (hX : nX s) (hP : va_P D vwCl (mw N (adr B) g) H) : PreS s H (va_Pc av (nP D cs B N g)) av :=
  ⟨fun a U g mk q => by obtain ⟨q0, qz, qP, qK, qX⟩ := q; exact ⟨q0, qz, qP, va_K.moved (u := U) (U := U.calling g mk a) (Vm.Alike.refl U.vm) qK, qX.call⟩, fun U hU hW => ⟨rfl, by rw [hU]; exact hz, by rw [hU]; exact hP, va_K.moved hW.alike hK, hX.warm hW⟩⟩
end NW
def w_S_1 (cs : Nat → ClassId) (B k : Nat) (g : Nat → va_E) : Nat → va_E := va_up g (k + 1) (.inl (cs 0, 4, .inl (fun _ => 0)))
theorem w_S_1_keep {cs : Nat → ClassId} {B k j : Nat} {g : Nat → va_E} (h : j < k) : w_S_1 cs B k g j = g j := (va_up_ne _ _ (by omega)).trans rfl
def w_S_2 (cs : Nat → ClassId) (B k : Nat) (g : Nat → va_E) : Nat → va_E := va_up (w_S_1 cs B k g) k (.inr (3, [.ref (adr B (k + 1)), .null, .int 0, .int 0, .int 0, .int 0]))
theorem w_S_2_keep {cs : Nat → ClassId} {B k j : Nat} {g : Nat → va_E} (h : j < k) : w_S_2 cs B k g j = g j := (va_up_ne _ _ (by omega)).trans (w_S_1_keep (cs := cs) (B := B) (g := g) h)
def w_S_3 (cs : Nat → ClassId) (B k : Nat) (g : Nat → va_E) : Nat → va_E := va_up (w_S_2 cs B k g) (k + 2) (.inl (cs 0, 3, .inl (fun _ => 0)))
theorem w_S_3_keep {cs : Nat → ClassId} {B k j : Nat} {g : Nat → va_E} (h : j < k) : w_S_3 cs B k g j = g j := (va_up_ne _ _ (by omega)).trans (w_S_2_keep (cs := cs) (B := B) (g := g) h)
def w_S_4 (cs : Nat → ClassId) (B k : Nat) (g : Nat → va_E) : Nat → va_E := va_up (w_S_3 cs B k g) k (.inr (3, [.ref (adr B (k + 1)), .ref (adr B (k + 2)), .int 0, .int 0, .int 0, .int 0]))
theorem w_S_4_keep {cs : Nat → ClassId} {B k j : Nat} {g : Nat → va_E} (h : j < k) : w_S_4 cs B k g j = g j := (va_up_ne _ _ (by omega)).trans (w_S_3_keep (cs := cs) (B := B) (g := g) h)
set_option maxHeartbeats 4000000 in
set_option maxRecDepth 100000 in
theorem n_S (l : Launch) (D : va_G) (cs : Nat → ClassId) (B k : Nat) (g : Nat → va_E) (f_own : g k = .inr (3, [.null, .null, .int 0, .int 0, .int 0, .int 0])) : NC l yX3_init wX3_init { frames := 1, cells := 2, slots := 7, locals := 24 } D cs B [.ref (adr B k)] ((k + 1)) g ((k + 3)) (w_S_4 cs B k g) 2 7 := by
  refine n_enter (cc := cX3_init) (maxL := 1) (by decide +kernel) rfl (Nat.le_of_ble_eq_true rfl) ?_
  intro p e s m below meth c ls hx hb hr hml hown hts hlocks hin hz0 hK hX hP hS hl
  have hown : s.vm.findClass RX3 = some m.cls := hown
  have hin : meth.name = "<init>" := hin
  have hts : ∀ w ∈ gtbl, w.before _ s = true := fun w h => hts w (List.mem_cons_of_mem _ h)
  have hl : lv_has ls 1 [(0, .ref (adr B k))] := hl
  have hBs : B ≤ s.heap.size := by omega
  have hB : s.heap.size + 0 = B + (k + 1) := hz0
  refine lv_aload_n hx hb dX3_init_0 rfl (lv_at hl 0 rfl) ?_
  refine W.objInit hx hb hown (hts _ k_43) (hts _ k_15) (hts _ k_16) rfl (by rw [hml]; exact hl.1) rfl dX3_init_1 (Nat.le_of_ble_eq_true rfl) (Nat.le_of_ble_eq_true rfl) ?_
  refine W.eq (g2 := F0 m 4 ls []) rfl ?_
  refine lv_aload_n hx hb dX3_init_4 rfl (lv_at hl 0 rfl) ?_
  refine lv_iconst (v := 4) hx hb dX3_init_5 (by decide) ?_
  refine n_newi (n' := 4) hx hb (hts _ k_38) hK hP hS hBs hB (by decide) (by decide) (by decide) (Nat.le_of_ble_eq_true rfl) (Nat.le_of_ble_eq_true rfl) dX3_init_6 (fun H hP hS => ?_)
  have hP : va_P D vwCl (mw (k + 2) (adr B) (w_S_1 cs B k g)) H := hP
  have f_own : (w_S_1 cs B k g) k = .inr (3, [.null, .null, .int 0, .int 0, .int 0, .int 0]) := (va_up_ne _ _ (by omega)).trans f_own
  have f_k1 : (w_S_1 cs B k g) (k + 1) = .inl (cs 0, 4, .inl (fun _ => 0)) := va_up_self _ _ _
  refine W.widen (k := 1) (n := 4) (Nat.le_of_ble_eq_true rfl) (Nat.le_of_ble_eq_true rfl) ?_
  have hB : s.heap.size + 1 = B + (k + 2) := by omega
  refine va_putF (D := D) (ci := 3) (v := .ref (adr B (k + 1))) (ty := .array .int) (C := RX3) (T := TX3) (N := 6) hx hb hts inX3 tyX3 tyX3_ok nmX3 hown hK hP nD hS k (n_at (by omega) f_own) rfl 0 (by decide) (hts _ k_44) (fun _ h9 => h9) rfl hin rfl (by decide +kernel) rfl rfl (Nat.le_of_ble_eq_true rfl) dX3_init_8 (fun H locs hP _ hS => ?_)
  have hP := n_put (by omega) hP
  have hP : va_P D vwCl (mw (k + 2) (adr B) (w_S_2 cs B k g)) H := hP
  have f_k1 : (w_S_2 cs B k g) (k + 1) = .inl (cs 0, 4, .inl (fun _ => 0)) := (va_up_ne _ _ (by omega)).trans f_k1
  have f_k : (w_S_2 cs B k g) k = .inr (3, [.ref (adr B (k + 1)), .null, .int 0, .int 0, .int 0, .int 0]) := va_up_self _ _ _
  refine lv_aload_n hx hb dX3_init_11 rfl (lv_at hl 0 rfl) ?_
  refine lv_iconst (v := 3) hx hb dX3_init_12 (by decide) ?_
  refine n_newi (n' := 3) hx hb (hts _ k_38) hK hP hS hBs hB (by decide) (by decide) (by decide) (Nat.le_of_ble_eq_true rfl) (Nat.le_of_ble_eq_true rfl) dX3_init_13 (fun H hP hS => ?_)
  have hP : va_P D vwCl (mw (k + 3) (adr B) (w_S_3 cs B k g)) H := hP
  have f_k : (w_S_3 cs B k g) k = .inr (3, [.ref (adr B (k + 1)), .null, .int 0, .int 0, .int 0, .int 0]) := (va_up_ne _ _ (by omega)).trans f_k
  have f_k1 : (w_S_3 cs B k g) (k + 1) = .inl (cs 0, 4, .inl (fun _ => 0)) := (va_up_ne _ _ (by omega)).trans f_k1
  have f_k2 : (w_S_3 cs B k g) (k + 2) = .inl (cs 0, 3, .inl (fun _ => 0)) := va_up_self _ _ _
  refine W.widen (k := 2) (n := 7) (Nat.le_of_ble_eq_true rfl) (Nat.le_of_ble_eq_true rfl) ?_
  have hB : s.heap.size + 2 = B + (k + 3) := by omega
  refine va_putF (D := D) (ci := 3) (v := .ref (adr B (k + 2))) (ty := .array .int) (C := RX3) (T := TX3) (N := 6) hx hb hts inX3 tyX3 tyX3_ok nmX3 hown hK hP nD hS k (n_at (by omega) f_k) rfl 1 (by decide) (hts _ k_46) (fun _ h9 => h9) rfl hin rfl (by decide +kernel) rfl rfl (Nat.le_of_ble_eq_true rfl) dX3_init_15 (fun H locs hP _ hS => ?_)
  have hP := n_put (by omega) hP
  have hP : va_P D vwCl (mw (k + 3) (adr B) (w_S_4 cs B k g)) H := hP
  have f_k1 : (w_S_4 cs B k g) (k + 1) = .inl (cs 0, 4, .inl (fun _ => 0)) := (va_up_ne _ _ (by omega)).trans f_k1
  have f_k2 : (w_S_4 cs B k g) (k + 2) = .inl (cs 0, 3, .inl (fun _ => 0)) := (va_up_ne _ _ (by omega)).trans f_k2
  have f_k : (w_S_4 cs B k g) k = .inr (3, [.ref (adr B (k + 1)), .ref (adr B (k + 2)), .int 0, .int 0, .int 0, .int 0]) := va_up_self _ _ _
  exact n_ret hx hb hr hlocks dX3_init_18 hP hS
theorem n_S_own (cs : Nat → ClassId) (B k : Nat) (g : Nat → va_E) : w_S_4 cs B k g k = .inr (3, [.ref (adr B (k + 1)), .ref (adr B (k + 2)), .int 0, .int 0, .int 0, .int 0]) := va_up_self _ _ _
def w_P_1 (cs : Nat → ClassId) (B k : Nat) (g : Nat → va_E) : Nat → va_E := va_up g (k + 1) (.inl (cs 0, 16, .inl (fun _ => 0)))
theorem w_P_1_keep {cs : Nat → ClassId} {B k j : Nat} {g : Nat → va_E} (h : j < k) : w_P_1 cs B k g j = g j := (va_up_ne _ _ (by omega)).trans rfl
def w_P_2 (cs : Nat → ClassId) (B k : Nat) (g : Nat → va_E) : Nat → va_E := va_up (w_P_1 cs B k g) k (.inr (2, [.ref (adr B (k + 1)), .null, .null, .int 0]))
theorem w_P_2_keep {cs : Nat → ClassId} {B k j : Nat} {g : Nat → va_E} (h : j < k) : w_P_2 cs B k g j = g j := (va_up_ne _ _ (by omega)).trans (w_P_1_keep (cs := cs) (B := B) (g := g) h)
def w_P_3 (cs : Nat → ClassId) (B k : Nat) (g : Nat → va_E) : Nat → va_E := va_up (w_P_2 cs B k g) (k + 2) (.inl (cs 0, 16, .inl (fun _ => 0)))
theorem w_P_3_keep {cs : Nat → ClassId} {B k j : Nat} {g : Nat → va_E} (h : j < k) : w_P_3 cs B k g j = g j := (va_up_ne _ _ (by omega)).trans (w_P_2_keep (cs := cs) (B := B) (g := g) h)
def w_P_4 (cs : Nat → ClassId) (B k : Nat) (g : Nat → va_E) : Nat → va_E := va_up (w_P_3 cs B k g) k (.inr (2, [.ref (adr B (k + 1)), .ref (adr B (k + 2)), .null, .int 0]))
theorem w_P_4_keep {cs : Nat → ClassId} {B k j : Nat} {g : Nat → va_E} (h : j < k) : w_P_4 cs B k g j = g j := (va_up_ne _ _ (by omega)).trans (w_P_3_keep (cs := cs) (B := B) (g := g) h)
def w_P_5 (cs : Nat → ClassId) (B k : Nat) (g : Nat → va_E) : Nat → va_E := va_up (w_P_4 cs B k g) (k + 3) (.inl (cs 0, 16, .inl (fun _ => 0)))
theorem w_P_5_keep {cs : Nat → ClassId} {B k j : Nat} {g : Nat → va_E} (h : j < k) : w_P_5 cs B k g j = g j := (va_up_ne _ _ (by omega)).trans (w_P_4_keep (cs := cs) (B := B) (g := g) h)
def w_P_6 (cs : Nat → ClassId) (B k : Nat) (g : Nat → va_E) : Nat → va_E := va_up (w_P_5 cs B k g) k (.inr (2, [.ref (adr B (k + 1)), .ref (adr B (k + 2)), .ref (adr B (k + 3)), .int 0]))
theorem w_P_6_keep {cs : Nat → ClassId} {B k j : Nat} {g : Nat → va_E} (h : j < k) : w_P_6 cs B k g j = g j := (va_up_ne _ _ (by omega)).trans (w_P_5_keep (cs := cs) (B := B) (g := g) h)
set_option maxHeartbeats 4000000 in
set_option maxRecDepth 100000 in
theorem n_P (l : Launch) (D : va_G) (cs : Nat → ClassId) (B k : Nat) (g : Nat → va_E) (f_own : g k = .inr (2, [.null, .null, .null, .int 0])) : NC l yX2_init wX2_init { frames := 1, cells := 3, slots := 48, locals := 24 } D cs B [.ref (adr B k)] ((k + 1)) g ((k + 4)) (w_P_6 cs B k g) 3 48 := by
  refine n_enter (cc := cX2_init) (maxL := 1) (by decide +kernel) rfl (Nat.le_of_ble_eq_true rfl) ?_
  intro p e s m below meth c ls hx hb hr hml hown hts hlocks hin hz0 hK hX hP hS hl
  have hown : s.vm.findClass RX2 = some m.cls := hown
  have hin : meth.name = "<init>" := hin
  have hts : ∀ w ∈ gtbl, w.before _ s = true := fun w h => hts w (List.mem_cons_of_mem _ h)
  have hl : lv_has ls 1 [(0, .ref (adr B k))] := hl
  have hBs : B ≤ s.heap.size := by omega
  have hB : s.heap.size + 0 = B + (k + 1) := hz0
  refine lv_aload_n hx hb dX2_init_0 rfl (lv_at hl 0 rfl) ?_
  refine W.objInit hx hb hown (hts _ k_26) (hts _ k_15) (hts _ k_16) rfl (by rw [hml]; exact hl.1) rfl dX2_init_1 (Nat.le_of_ble_eq_true rfl) (Nat.le_of_ble_eq_true rfl) ?_
  refine W.eq (g2 := F0 m 4 ls []) rfl ?_
  refine lv_aload_n hx hb dX2_init_4 rfl (lv_at hl 0 rfl) ?_
  refine lv_bipush (v := 16) hx hb dX2_init_5 (by decide) ?_
  refine n_newi (n' := 16) hx hb (hts _ k_38) hK hP hS hBs hB (by decide) (by decide) (by decide) (Nat.le_of_ble_eq_true rfl) (Nat.le_of_ble_eq_true rfl) dX2_init_7 (fun H hP hS => ?_)
  have hP : va_P D vwCl (mw (k + 2) (adr B) (w_P_1 cs B k g)) H := hP
  have f_own : (w_P_1 cs B k g) k = .inr (2, [.null, .null, .null, .int 0]) := (va_up_ne _ _ (by omega)).trans f_own
  have f_k1 : (w_P_1 cs B k g) (k + 1) = .inl (cs 0, 16, .inl (fun _ => 0)) := va_up_self _ _ _
  refine W.widen (k := 1) (n := 16) (Nat.le_of_ble_eq_true rfl) (Nat.le_of_ble_eq_true rfl) ?_
  have hB : s.heap.size + 1 = B + (k + 2) := by omega
  refine va_putF (D := D) (ci := 2) (v := .ref (adr B (k + 1))) (ty := .array .int) (C := RX2) (T := TX2) (N := 4) hx hb hts inX2 tyX2 tyX2_ok nmX2 hown hK hP nD hS k (n_at (by omega) f_own) rfl 0 (by decide) (hts _ k_27) (fun _ h9 => h9) rfl hin rfl (by decide +kernel) rfl rfl (Nat.le_of_ble_eq_true rfl) dX2_init_9 (fun H locs hP _ hS => ?_)
  have hP := n_put (by omega) hP
  have hP : va_P D vwCl (mw (k + 2) (adr B) (w_P_2 cs B k g)) H := hP
  have f_k1 : (w_P_2 cs B k g) (k + 1) = .inl (cs 0, 16, .inl (fun _ => 0)) := (va_up_ne _ _ (by omega)).trans f_k1
  have f_k : (w_P_2 cs B k g) k = .inr (2, [.ref (adr B (k + 1)), .null, .null, .int 0]) := va_up_self _ _ _
  refine lv_aload_n hx hb dX2_init_12 rfl (lv_at hl 0 rfl) ?_
  refine lv_bipush (v := 16) hx hb dX2_init_13 (by decide) ?_
  refine n_newi (n' := 16) hx hb (hts _ k_38) hK hP hS hBs hB (by decide) (by decide) (by decide) (Nat.le_of_ble_eq_true rfl) (Nat.le_of_ble_eq_true rfl) dX2_init_15 (fun H hP hS => ?_)
  have hP : va_P D vwCl (mw (k + 3) (adr B) (w_P_3 cs B k g)) H := hP
  have f_k : (w_P_3 cs B k g) k = .inr (2, [.ref (adr B (k + 1)), .null, .null, .int 0]) := (va_up_ne _ _ (by omega)).trans f_k
  have f_k1 : (w_P_3 cs B k g) (k + 1) = .inl (cs 0, 16, .inl (fun _ => 0)) := (va_up_ne _ _ (by omega)).trans f_k1
  have f_k2 : (w_P_3 cs B k g) (k + 2) = .inl (cs 0, 16, .inl (fun _ => 0)) := va_up_self _ _ _
  refine W.widen (k := 2) (n := 32) (Nat.le_of_ble_eq_true rfl) (Nat.le_of_ble_eq_true rfl) ?_
  have hB : s.heap.size + 2 = B + (k + 3) := by omega
  refine va_putF (D := D) (ci := 2) (v := .ref (adr B (k + 2))) (ty := .array .int) (C := RX2) (T := TX2) (N := 4) hx hb hts inX2 tyX2 tyX2_ok nmX2 hown hK hP nD hS k (n_at (by omega) f_k) rfl 1 (by decide) (hts _ k_29) (fun _ h9 => h9) rfl hin rfl (by decide +kernel) rfl rfl (Nat.le_of_ble_eq_true rfl) dX2_init_17 (fun H locs hP _ hS => ?_)
  have hP := n_put (by omega) hP
  have hP : va_P D vwCl (mw (k + 3) (adr B) (w_P_4 cs B k g)) H := hP
  have f_k1 : (w_P_4 cs B k g) (k + 1) = .inl (cs 0, 16, .inl (fun _ => 0)) := (va_up_ne _ _ (by omega)).trans f_k1
  have f_k2 : (w_P_4 cs B k g) (k + 2) = .inl (cs 0, 16, .inl (fun _ => 0)) := (va_up_ne _ _ (by omega)).trans f_k2
  have f_k : (w_P_4 cs B k g) k = .inr (2, [.ref (adr B (k + 1)), .ref (adr B (k + 2)), .null, .int 0]) := va_up_self _ _ _
  refine lv_aload_n hx hb dX2_init_20 rfl (lv_at hl 0 rfl) ?_
  refine lv_bipush (v := 16) hx hb dX2_init_21 (by decide) ?_
  refine n_newi (n' := 16) hx hb (hts _ k_38) hK hP hS hBs hB (by decide) (by decide) (by decide) (Nat.le_of_ble_eq_true rfl) (Nat.le_of_ble_eq_true rfl) dX2_init_23 (fun H hP hS => ?_)
  have hP : va_P D vwCl (mw (k + 4) (adr B) (w_P_5 cs B k g)) H := hP
  have f_k : (w_P_5 cs B k g) k = .inr (2, [.ref (adr B (k + 1)), .ref (adr B (k + 2)), .null, .int 0]) := (va_up_ne _ _ (by omega)).trans f_k
  have f_k1 : (w_P_5 cs B k g) (k + 1) = .inl (cs 0, 16, .inl (fun _ => 0)) := (va_up_ne _ _ (by omega)).trans f_k1
  have f_k2 : (w_P_5 cs B k g) (k + 2) = .inl (cs 0, 16, .inl (fun _ => 0)) := (va_up_ne _ _ (by omega)).trans f_k2
  have f_k3 : (w_P_5 cs B k g) (k + 3) = .inl (cs 0, 16, .inl (fun _ => 0)) := va_up_self _ _ _
  refine W.widen (k := 3) (n := 48) (Nat.le_of_ble_eq_true rfl) (Nat.le_of_ble_eq_true rfl) ?_
  have hB : s.heap.size + 3 = B + (k + 4) := by omega
  refine va_putF (D := D) (ci := 2) (v := .ref (adr B (k + 3))) (ty := .array .int) (C := RX2) (T := TX2) (N := 4) hx hb hts inX2 tyX2 tyX2_ok nmX2 hown hK hP nD hS k (n_at (by omega) f_k) rfl 2 (by decide) (hts _ k_31) (fun _ h9 => h9) rfl hin rfl (by decide +kernel) rfl rfl (Nat.le_of_ble_eq_true rfl) dX2_init_25 (fun H locs hP _ hS => ?_)
  have hP := n_put (by omega) hP
  have hP : va_P D vwCl (mw (k + 4) (adr B) (w_P_6 cs B k g)) H := hP
  have f_k1 : (w_P_6 cs B k g) (k + 1) = .inl (cs 0, 16, .inl (fun _ => 0)) := (va_up_ne _ _ (by omega)).trans f_k1
  have f_k2 : (w_P_6 cs B k g) (k + 2) = .inl (cs 0, 16, .inl (fun _ => 0)) := (va_up_ne _ _ (by omega)).trans f_k2
  have f_k3 : (w_P_6 cs B k g) (k + 3) = .inl (cs 0, 16, .inl (fun _ => 0)) := (va_up_ne _ _ (by omega)).trans f_k3
  have f_k : (w_P_6 cs B k g) k = .inr (2, [.ref (adr B (k + 1)), .ref (adr B (k + 2)), .ref (adr B (k + 3)), .int 0]) := va_up_self _ _ _
  exact n_ret hx hb hr hlocks dX2_init_28 hP hS
theorem n_P_own (cs : Nat → ClassId) (B k : Nat) (g : Nat → va_E) : w_P_6 cs B k g k = .inr (2, [.ref (adr B (k + 1)), .ref (adr B (k + 2)), .ref (adr B (k + 3)), .int 0]) := va_up_self _ _ _
def w_R8_1 (cs : Nat → ClassId) (B k : Nat) (g : Nat → va_E) : Nat → va_E := va_up g (k + 1) (.inl (cs 0, 8, .inl (fun _ => 0)))
theorem w_R8_1_keep {cs : Nat → ClassId} {B k j : Nat} {g : Nat → va_E} (h : j < k) : w_R8_1 cs B k g j = g j := (va_up_ne _ _ (by omega)).trans rfl
def w_R8_2 (cs : Nat → ClassId) (B k : Nat) (g : Nat → va_E) : Nat → va_E := va_up (w_R8_1 cs B k g) k (.inr (1, [.ref (adr B (k + 1)), .null, .int 0, .int 0]))
theorem w_R8_2_keep {cs : Nat → ClassId} {B k j : Nat} {g : Nat → va_E} (h : j < k) : w_R8_2 cs B k g j = g j := (va_up_ne _ _ (by omega)).trans (w_R8_1_keep (cs := cs) (B := B) (g := g) h)
def w_R8_3 (cs : Nat → ClassId) (B k : Nat) (g : Nat → va_E) : Nat → va_E := va_up (w_R8_2 cs B k g) (k + 2) (.inl (cs 0, 8, .inl (fun _ => 0)))
theorem w_R8_3_keep {cs : Nat → ClassId} {B k j : Nat} {g : Nat → va_E} (h : j < k) : w_R8_3 cs B k g j = g j := (va_up_ne _ _ (by omega)).trans (w_R8_2_keep (cs := cs) (B := B) (g := g) h)
def w_R8_4 (cs : Nat → ClassId) (B k : Nat) (g : Nat → va_E) : Nat → va_E := va_up (w_R8_3 cs B k g) k (.inr (1, [.ref (adr B (k + 1)), .ref (adr B (k + 2)), .int 0, .int 0]))
theorem w_R8_4_keep {cs : Nat → ClassId} {B k j : Nat} {g : Nat → va_E} (h : j < k) : w_R8_4 cs B k g j = g j := (va_up_ne _ _ (by omega)).trans (w_R8_3_keep (cs := cs) (B := B) (g := g) h)
set_option maxHeartbeats 4000000 in
set_option maxRecDepth 100000 in
theorem n_R8 (l : Launch) (D : va_G) (cs : Nat → ClassId) (B k : Nat) (g : Nat → va_E) (f_own : g k = .inr (1, [.null, .null, .int 0, .int 0])) : NC l yX1_init wX1_init { frames := 1, cells := 2, slots := 16, locals := 24 } D cs B [.ref (adr B k), .int 8] ((k + 1)) g ((k + 3)) (w_R8_4 cs B k g) 2 16 := by
  refine n_enter (cc := cX1_init) (maxL := 2) (by decide +kernel) rfl (Nat.le_of_ble_eq_true rfl) ?_
  intro p e s m below meth c ls hx hb hr hml hown hts hlocks hin hz0 hK hX hP hS hl
  have hown : s.vm.findClass RX1 = some m.cls := hown
  have hin : meth.name = "<init>" := hin
  have hts : ∀ w ∈ gtbl, w.before _ s = true := fun w h => hts w (List.mem_cons_of_mem _ h)
  have hl : lv_has ls 2 [(0, .ref (adr B k)), (1, .int 8)] := hl
  have hBs : B ≤ s.heap.size := by omega
  have hB : s.heap.size + 0 = B + (k + 1) := hz0
  refine lv_aload_n hx hb dX1_init_0 rfl (lv_at hl 0 rfl) ?_
  refine W.objInit hx hb hown (hts _ k_67) (hts _ k_15) (hts _ k_16) rfl (by rw [hml]; exact hl.1) rfl dX1_init_1 (Nat.le_of_ble_eq_true rfl) (Nat.le_of_ble_eq_true rfl) ?_
  refine W.eq (g2 := F0 m 4 ls []) rfl ?_
  refine lv_aload_n hx hb dX1_init_4 rfl (lv_at hl 0 rfl) ?_
  refine lv_iload_n hx hb dX1_init_5 rfl (lv_at hl 1 rfl) ?_
  refine n_newi (n' := 8) hx hb (hts _ k_38) hK hP hS hBs hB (by decide) (by decide) (by decide) (Nat.le_of_ble_eq_true rfl) (Nat.le_of_ble_eq_true rfl) dX1_init_6 (fun H hP hS => ?_)
  have hP : va_P D vwCl (mw (k + 2) (adr B) (w_R8_1 cs B k g)) H := hP
  have f_own : (w_R8_1 cs B k g) k = .inr (1, [.null, .null, .int 0, .int 0]) := (va_up_ne _ _ (by omega)).trans f_own
  have f_k1 : (w_R8_1 cs B k g) (k + 1) = .inl (cs 0, 8, .inl (fun _ => 0)) := va_up_self _ _ _
  refine W.widen (k := 1) (n := 8) (Nat.le_of_ble_eq_true rfl) (Nat.le_of_ble_eq_true rfl) ?_
  have hB : s.heap.size + 1 = B + (k + 2) := by omega
  refine va_putF (D := D) (ci := 1) (v := .ref (adr B (k + 1))) (ty := .array .int) (C := RX1) (T := TX1) (N := 4) hx hb hts inX1 tyX1 tyX1_ok nmX1 hown hK hP nD hS k (n_at (by omega) f_own) rfl 0 (by decide) (hts _ k_68) (fun _ h9 => h9) rfl hin rfl (by decide +kernel) rfl rfl (Nat.le_of_ble_eq_true rfl) dX1_init_8 (fun H locs hP _ hS => ?_)
  have hP := n_put (by omega) hP
  have hP : va_P D vwCl (mw (k + 2) (adr B) (w_R8_2 cs B k g)) H := hP
  have f_k1 : (w_R8_2 cs B k g) (k + 1) = .inl (cs 0, 8, .inl (fun _ => 0)) := (va_up_ne _ _ (by omega)).trans f_k1
  have f_k : (w_R8_2 cs B k g) k = .inr (1, [.ref (adr B (k + 1)), .null, .int 0, .int 0]) := va_up_self _ _ _
  refine lv_aload_n hx hb dX1_init_11 rfl (lv_at hl 0 rfl) ?_
  refine lv_iload_n hx hb dX1_init_12 rfl (lv_at hl 1 rfl) ?_
  refine n_newi (n' := 8) hx hb (hts _ k_38) hK hP hS hBs hB (by decide) (by decide) (by decide) (Nat.le_of_ble_eq_true rfl) (Nat.le_of_ble_eq_true rfl) dX1_init_13 (fun H hP hS => ?_)
  have hP : va_P D vwCl (mw (k + 3) (adr B) (w_R8_3 cs B k g)) H := hP
  have f_k : (w_R8_3 cs B k g) k = .inr (1, [.ref (adr B (k + 1)), .null, .int 0, .int 0]) := (va_up_ne _ _ (by omega)).trans f_k
  have f_k1 : (w_R8_3 cs B k g) (k + 1) = .inl (cs 0, 8, .inl (fun _ => 0)) := (va_up_ne _ _ (by omega)).trans f_k1
  have f_k2 : (w_R8_3 cs B k g) (k + 2) = .inl (cs 0, 8, .inl (fun _ => 0)) := va_up_self _ _ _
  refine W.widen (k := 2) (n := 16) (Nat.le_of_ble_eq_true rfl) (Nat.le_of_ble_eq_true rfl) ?_
  have hB : s.heap.size + 2 = B + (k + 3) := by omega
  refine va_putF (D := D) (ci := 1) (v := .ref (adr B (k + 2))) (ty := .array .int) (C := RX1) (T := TX1) (N := 4) hx hb hts inX1 tyX1 tyX1_ok nmX1 hown hK hP nD hS k (n_at (by omega) f_k) rfl 1 (by decide) (hts _ k_69) (fun _ h9 => h9) rfl hin rfl (by decide +kernel) rfl rfl (Nat.le_of_ble_eq_true rfl) dX1_init_15 (fun H locs hP _ hS => ?_)
  have hP := n_put (by omega) hP
  have hP : va_P D vwCl (mw (k + 3) (adr B) (w_R8_4 cs B k g)) H := hP
  have f_k1 : (w_R8_4 cs B k g) (k + 1) = .inl (cs 0, 8, .inl (fun _ => 0)) := (va_up_ne _ _ (by omega)).trans f_k1
  have f_k2 : (w_R8_4 cs B k g) (k + 2) = .inl (cs 0, 8, .inl (fun _ => 0)) := (va_up_ne _ _ (by omega)).trans f_k2
  have f_k : (w_R8_4 cs B k g) k = .inr (1, [.ref (adr B (k + 1)), .ref (adr B (k + 2)), .int 0, .int 0]) := va_up_self _ _ _
  exact n_ret hx hb hr hlocks dX1_init_18 hP hS
theorem n_R8_own (cs : Nat → ClassId) (B k : Nat) (g : Nat → va_E) : w_R8_4 cs B k g k = .inr (1, [.ref (adr B (k + 1)), .ref (adr B (k + 2)), .int 0, .int 0]) := va_up_self _ _ _
def w_R20_1 (cs : Nat → ClassId) (B k : Nat) (g : Nat → va_E) : Nat → va_E := va_up g (k + 1) (.inl (cs 0, 20, .inl (fun _ => 0)))
theorem w_R20_1_keep {cs : Nat → ClassId} {B k j : Nat} {g : Nat → va_E} (h : j < k) : w_R20_1 cs B k g j = g j := (va_up_ne _ _ (by omega)).trans rfl
def w_R20_2 (cs : Nat → ClassId) (B k : Nat) (g : Nat → va_E) : Nat → va_E := va_up (w_R20_1 cs B k g) k (.inr (1, [.ref (adr B (k + 1)), .null, .int 0, .int 0]))
theorem w_R20_2_keep {cs : Nat → ClassId} {B k j : Nat} {g : Nat → va_E} (h : j < k) : w_R20_2 cs B k g j = g j := (va_up_ne _ _ (by omega)).trans (w_R20_1_keep (cs := cs) (B := B) (g := g) h)
def w_R20_3 (cs : Nat → ClassId) (B k : Nat) (g : Nat → va_E) : Nat → va_E := va_up (w_R20_2 cs B k g) (k + 2) (.inl (cs 0, 20, .inl (fun _ => 0)))
theorem w_R20_3_keep {cs : Nat → ClassId} {B k j : Nat} {g : Nat → va_E} (h : j < k) : w_R20_3 cs B k g j = g j := (va_up_ne _ _ (by omega)).trans (w_R20_2_keep (cs := cs) (B := B) (g := g) h)
def w_R20_4 (cs : Nat → ClassId) (B k : Nat) (g : Nat → va_E) : Nat → va_E := va_up (w_R20_3 cs B k g) k (.inr (1, [.ref (adr B (k + 1)), .ref (adr B (k + 2)), .int 0, .int 0]))
theorem w_R20_4_keep {cs : Nat → ClassId} {B k j : Nat} {g : Nat → va_E} (h : j < k) : w_R20_4 cs B k g j = g j := (va_up_ne _ _ (by omega)).trans (w_R20_3_keep (cs := cs) (B := B) (g := g) h)
set_option maxHeartbeats 4000000 in
set_option maxRecDepth 100000 in
theorem n_R20 (l : Launch) (D : va_G) (cs : Nat → ClassId) (B k : Nat) (g : Nat → va_E) (f_own : g k = .inr (1, [.null, .null, .int 0, .int 0])) : NC l yX1_init wX1_init { frames := 1, cells := 2, slots := 40, locals := 24 } D cs B [.ref (adr B k), .int 20] ((k + 1)) g ((k + 3)) (w_R20_4 cs B k g) 2 40 := by
  refine n_enter (cc := cX1_init) (maxL := 2) (by decide +kernel) rfl (Nat.le_of_ble_eq_true rfl) ?_
  intro p e s m below meth c ls hx hb hr hml hown hts hlocks hin hz0 hK hX hP hS hl
  have hown : s.vm.findClass RX1 = some m.cls := hown
  have hin : meth.name = "<init>" := hin
  have hts : ∀ w ∈ gtbl, w.before _ s = true := fun w h => hts w (List.mem_cons_of_mem _ h)
  have hl : lv_has ls 2 [(0, .ref (adr B k)), (1, .int 20)] := hl
  have hBs : B ≤ s.heap.size := by omega
  have hB : s.heap.size + 0 = B + (k + 1) := hz0
  refine lv_aload_n hx hb dX1_init_0 rfl (lv_at hl 0 rfl) ?_
  refine W.objInit hx hb hown (hts _ k_67) (hts _ k_15) (hts _ k_16) rfl (by rw [hml]; exact hl.1) rfl dX1_init_1 (Nat.le_of_ble_eq_true rfl) (Nat.le_of_ble_eq_true rfl) ?_
  refine W.eq (g2 := F0 m 4 ls []) rfl ?_
  refine lv_aload_n hx hb dX1_init_4 rfl (lv_at hl 0 rfl) ?_
  refine lv_iload_n hx hb dX1_init_5 rfl (lv_at hl 1 rfl) ?_
  refine n_newi (n' := 20) hx hb (hts _ k_38) hK hP hS hBs hB (by decide) (by decide) (by decide) (Nat.le_of_ble_eq_true rfl) (Nat.le_of_ble_eq_true rfl) dX1_init_6 (fun H hP hS => ?_)
  have hP : va_P D vwCl (mw (k + 2) (adr B) (w_R20_1 cs B k g)) H := hP
  have f_own : (w_R20_1 cs B k g) k = .inr (1, [.null, .null, .int 0, .int 0]) := (va_up_ne _ _ (by omega)).trans f_own
  have f_k1 : (w_R20_1 cs B k g) (k + 1) = .inl (cs 0, 20, .inl (fun _ => 0)) := va_up_self _ _ _
  refine W.widen (k := 1) (n := 20) (Nat.le_of_ble_eq_true rfl) (Nat.le_of_ble_eq_true rfl) ?_
  have hB : s.heap.size + 1 = B + (k + 2) := by omega
  refine va_putF (D := D) (ci := 1) (v := .ref (adr B (k + 1))) (ty := .array .int) (C := RX1) (T := TX1) (N := 4) hx hb hts inX1 tyX1 tyX1_ok nmX1 hown hK hP nD hS k (n_at (by omega) f_own) rfl 0 (by decide) (hts _ k_68) (fun _ h9 => h9) rfl hin rfl (by decide +kernel) rfl rfl (Nat.le_of_ble_eq_true rfl) dX1_init_8 (fun H locs hP _ hS => ?_)
  have hP := n_put (by omega) hP
  have hP : va_P D vwCl (mw (k + 2) (adr B) (w_R20_2 cs B k g)) H := hP
  have f_k1 : (w_R20_2 cs B k g) (k + 1) = .inl (cs 0, 20, .inl (fun _ => 0)) := (va_up_ne _ _ (by omega)).trans f_k1
  have f_k : (w_R20_2 cs B k g) k = .inr (1, [.ref (adr B (k + 1)), .null, .int 0, .int 0]) := va_up_self _ _ _
  refine lv_aload_n hx hb dX1_init_11 rfl (lv_at hl 0 rfl) ?_
  refine lv_iload_n hx hb dX1_init_12 rfl (lv_at hl 1 rfl) ?_
  refine n_newi (n' := 20) hx hb (hts _ k_38) hK hP hS hBs hB (by decide) (by decide) (by decide) (Nat.le_of_ble_eq_true rfl) (Nat.le_of_ble_eq_true rfl) dX1_init_13 (fun H hP hS => ?_)
  have hP : va_P D vwCl (mw (k + 3) (adr B) (w_R20_3 cs B k g)) H := hP
  have f_k : (w_R20_3 cs B k g) k = .inr (1, [.ref (adr B (k + 1)), .null, .int 0, .int 0]) := (va_up_ne _ _ (by omega)).trans f_k
  have f_k1 : (w_R20_3 cs B k g) (k + 1) = .inl (cs 0, 20, .inl (fun _ => 0)) := (va_up_ne _ _ (by omega)).trans f_k1
  have f_k2 : (w_R20_3 cs B k g) (k + 2) = .inl (cs 0, 20, .inl (fun _ => 0)) := va_up_self _ _ _
  refine W.widen (k := 2) (n := 40) (Nat.le_of_ble_eq_true rfl) (Nat.le_of_ble_eq_true rfl) ?_
  have hB : s.heap.size + 2 = B + (k + 3) := by omega
  refine va_putF (D := D) (ci := 1) (v := .ref (adr B (k + 2))) (ty := .array .int) (C := RX1) (T := TX1) (N := 4) hx hb hts inX1 tyX1 tyX1_ok nmX1 hown hK hP nD hS k (n_at (by omega) f_k) rfl 1 (by decide) (hts _ k_69) (fun _ h9 => h9) rfl hin rfl (by decide +kernel) rfl rfl (Nat.le_of_ble_eq_true rfl) dX1_init_15 (fun H locs hP _ hS => ?_)
  have hP := n_put (by omega) hP
  have hP : va_P D vwCl (mw (k + 3) (adr B) (w_R20_4 cs B k g)) H := hP
  have f_k1 : (w_R20_4 cs B k g) (k + 1) = .inl (cs 0, 20, .inl (fun _ => 0)) := (va_up_ne _ _ (by omega)).trans f_k1
  have f_k2 : (w_R20_4 cs B k g) (k + 2) = .inl (cs 0, 20, .inl (fun _ => 0)) := (va_up_ne _ _ (by omega)).trans f_k2
  have f_k : (w_R20_4 cs B k g) k = .inr (1, [.ref (adr B (k + 1)), .ref (adr B (k + 2)), .int 0, .int 0]) := va_up_self _ _ _
  exact n_ret hx hb hr hlocks dX1_init_18 hP hS
theorem n_R20_own (cs : Nat → ClassId) (B k : Nat) (g : Nat → va_E) : w_R20_4 cs B k g k = .inr (1, [.ref (adr B (k + 1)), .ref (adr B (k + 2)), .int 0, .int 0]) := va_up_self _ _ _
def w_R60_1 (cs : Nat → ClassId) (B k : Nat) (g : Nat → va_E) : Nat → va_E := va_up g (k + 1) (.inl (cs 0, 60, .inl (fun _ => 0)))
theorem w_R60_1_keep {cs : Nat → ClassId} {B k j : Nat} {g : Nat → va_E} (h : j < k) : w_R60_1 cs B k g j = g j := (va_up_ne _ _ (by omega)).trans rfl
def w_R60_2 (cs : Nat → ClassId) (B k : Nat) (g : Nat → va_E) : Nat → va_E := va_up (w_R60_1 cs B k g) k (.inr (1, [.ref (adr B (k + 1)), .null, .int 0, .int 0]))
theorem w_R60_2_keep {cs : Nat → ClassId} {B k j : Nat} {g : Nat → va_E} (h : j < k) : w_R60_2 cs B k g j = g j := (va_up_ne _ _ (by omega)).trans (w_R60_1_keep (cs := cs) (B := B) (g := g) h)
def w_R60_3 (cs : Nat → ClassId) (B k : Nat) (g : Nat → va_E) : Nat → va_E := va_up (w_R60_2 cs B k g) (k + 2) (.inl (cs 0, 60, .inl (fun _ => 0)))
theorem w_R60_3_keep {cs : Nat → ClassId} {B k j : Nat} {g : Nat → va_E} (h : j < k) : w_R60_3 cs B k g j = g j := (va_up_ne _ _ (by omega)).trans (w_R60_2_keep (cs := cs) (B := B) (g := g) h)
def w_R60_4 (cs : Nat → ClassId) (B k : Nat) (g : Nat → va_E) : Nat → va_E := va_up (w_R60_3 cs B k g) k (.inr (1, [.ref (adr B (k + 1)), .ref (adr B (k + 2)), .int 0, .int 0]))
theorem w_R60_4_keep {cs : Nat → ClassId} {B k j : Nat} {g : Nat → va_E} (h : j < k) : w_R60_4 cs B k g j = g j := (va_up_ne _ _ (by omega)).trans (w_R60_3_keep (cs := cs) (B := B) (g := g) h)
set_option maxHeartbeats 4000000 in
set_option maxRecDepth 100000 in
theorem n_R60 (l : Launch) (D : va_G) (cs : Nat → ClassId) (B k : Nat) (g : Nat → va_E) (f_own : g k = .inr (1, [.null, .null, .int 0, .int 0])) : NC l yX1_init wX1_init { frames := 1, cells := 2, slots := 120, locals := 24 } D cs B [.ref (adr B k), .int 60] ((k + 1)) g ((k + 3)) (w_R60_4 cs B k g) 2 120 := by
  refine n_enter (cc := cX1_init) (maxL := 2) (by decide +kernel) rfl (Nat.le_of_ble_eq_true rfl) ?_
  intro p e s m below meth c ls hx hb hr hml hown hts hlocks hin hz0 hK hX hP hS hl
  have hown : s.vm.findClass RX1 = some m.cls := hown
  have hin : meth.name = "<init>" := hin
  have hts : ∀ w ∈ gtbl, w.before _ s = true := fun w h => hts w (List.mem_cons_of_mem _ h)
  have hl : lv_has ls 2 [(0, .ref (adr B k)), (1, .int 60)] := hl
  have hBs : B ≤ s.heap.size := by omega
  have hB : s.heap.size + 0 = B + (k + 1) := hz0
  refine lv_aload_n hx hb dX1_init_0 rfl (lv_at hl 0 rfl) ?_
  refine W.objInit hx hb hown (hts _ k_67) (hts _ k_15) (hts _ k_16) rfl (by rw [hml]; exact hl.1) rfl dX1_init_1 (Nat.le_of_ble_eq_true rfl) (Nat.le_of_ble_eq_true rfl) ?_
  refine W.eq (g2 := F0 m 4 ls []) rfl ?_
  refine lv_aload_n hx hb dX1_init_4 rfl (lv_at hl 0 rfl) ?_
  refine lv_iload_n hx hb dX1_init_5 rfl (lv_at hl 1 rfl) ?_
  refine n_newi (n' := 60) hx hb (hts _ k_38) hK hP hS hBs hB (by decide) (by decide) (by decide) (Nat.le_of_ble_eq_true rfl) (Nat.le_of_ble_eq_true rfl) dX1_init_6 (fun H hP hS => ?_)
  have hP : va_P D vwCl (mw (k + 2) (adr B) (w_R60_1 cs B k g)) H := hP
  have f_own : (w_R60_1 cs B k g) k = .inr (1, [.null, .null, .int 0, .int 0]) := (va_up_ne _ _ (by omega)).trans f_own
  have f_k1 : (w_R60_1 cs B k g) (k + 1) = .inl (cs 0, 60, .inl (fun _ => 0)) := va_up_self _ _ _
  refine W.widen (k := 1) (n := 60) (Nat.le_of_ble_eq_true rfl) (Nat.le_of_ble_eq_true rfl) ?_
  have hB : s.heap.size + 1 = B + (k + 2) := by omega
  refine va_putF (D := D) (ci := 1) (v := .ref (adr B (k + 1))) (ty := .array .int) (C := RX1) (T := TX1) (N := 4) hx hb hts inX1 tyX1 tyX1_ok nmX1 hown hK hP nD hS k (n_at (by omega) f_own) rfl 0 (by decide) (hts _ k_68) (fun _ h9 => h9) rfl hin rfl (by decide +kernel) rfl rfl (Nat.le_of_ble_eq_true rfl) dX1_init_8 (fun H locs hP _ hS => ?_)
  have hP := n_put (by omega) hP
  have hP : va_P D vwCl (mw (k + 2) (adr B) (w_R60_2 cs B k g)) H := hP
  have f_k1 : (w_R60_2 cs B k g) (k + 1) = .inl (cs 0, 60, .inl (fun _ => 0)) := (va_up_ne _ _ (by omega)).trans f_k1
  have f_k : (w_R60_2 cs B k g) k = .inr (1, [.ref (adr B (k + 1)), .null, .int 0, .int 0]) := va_up_self _ _ _
  refine lv_aload_n hx hb dX1_init_11 rfl (lv_at hl 0 rfl) ?_
  refine lv_iload_n hx hb dX1_init_12 rfl (lv_at hl 1 rfl) ?_
  refine n_newi (n' := 60) hx hb (hts _ k_38) hK hP hS hBs hB (by decide) (by decide) (by decide) (Nat.le_of_ble_eq_true rfl) (Nat.le_of_ble_eq_true rfl) dX1_init_13 (fun H hP hS => ?_)
  have hP : va_P D vwCl (mw (k + 3) (adr B) (w_R60_3 cs B k g)) H := hP
  have f_k : (w_R60_3 cs B k g) k = .inr (1, [.ref (adr B (k + 1)), .null, .int 0, .int 0]) := (va_up_ne _ _ (by omega)).trans f_k
  have f_k1 : (w_R60_3 cs B k g) (k + 1) = .inl (cs 0, 60, .inl (fun _ => 0)) := (va_up_ne _ _ (by omega)).trans f_k1
  have f_k2 : (w_R60_3 cs B k g) (k + 2) = .inl (cs 0, 60, .inl (fun _ => 0)) := va_up_self _ _ _
  refine W.widen (k := 2) (n := 120) (Nat.le_of_ble_eq_true rfl) (Nat.le_of_ble_eq_true rfl) ?_
  have hB : s.heap.size + 2 = B + (k + 3) := by omega
  refine va_putF (D := D) (ci := 1) (v := .ref (adr B (k + 2))) (ty := .array .int) (C := RX1) (T := TX1) (N := 4) hx hb hts inX1 tyX1 tyX1_ok nmX1 hown hK hP nD hS k (n_at (by omega) f_k) rfl 1 (by decide) (hts _ k_69) (fun _ h9 => h9) rfl hin rfl (by decide +kernel) rfl rfl (Nat.le_of_ble_eq_true rfl) dX1_init_15 (fun H locs hP _ hS => ?_)
  have hP := n_put (by omega) hP
  have hP : va_P D vwCl (mw (k + 3) (adr B) (w_R60_4 cs B k g)) H := hP
  have f_k1 : (w_R60_4 cs B k g) (k + 1) = .inl (cs 0, 60, .inl (fun _ => 0)) := (va_up_ne _ _ (by omega)).trans f_k1
  have f_k2 : (w_R60_4 cs B k g) (k + 2) = .inl (cs 0, 60, .inl (fun _ => 0)) := (va_up_ne _ _ (by omega)).trans f_k2
  have f_k : (w_R60_4 cs B k g) k = .inr (1, [.ref (adr B (k + 1)), .ref (adr B (k + 2)), .int 0, .int 0]) := va_up_self _ _ _
  exact n_ret hx hb hr hlocks dX1_init_18 hP hS
theorem n_R60_own (cs : Nat → ClassId) (B k : Nat) (g : Nat → va_E) : w_R60_4 cs B k g k = .inr (1, [.ref (adr B (k + 1)), .ref (adr B (k + 2)), .int 0, .int 0]) := va_up_self _ _ _
def w_M_1 (cs : Nat → ClassId) (B k : Nat) (g : Nat → va_E) : Nat → va_E := va_up g (k + 1) (.inr (2, [.null, .null, .null, .int 0]))
theorem w_M_1_keep {cs : Nat → ClassId} {B k j : Nat} {g : Nat → va_E} (h : j < k) : w_M_1 cs B k g j = g j := (va_up_ne _ _ (by omega)).trans rfl
def w_M_2 (cs : Nat → ClassId) (B k : Nat) (g : Nat → va_E) : Nat → va_E := w_P_6 cs B (k + 1) (w_M_1 cs B k g)
theorem w_M_2_keep {cs : Nat → ClassId} {B k j : Nat} {g : Nat → va_E} (h : j < k) : w_M_2 cs B k g j = g j := (w_P_6_keep (by omega)).trans (w_M_1_keep (cs := cs) (B := B) (g := g) h)
def w_M_3 (cs : Nat → ClassId) (B k : Nat) (g : Nat → va_E) : Nat → va_E := va_up (w_M_2 cs B k g) k (.inr (0, [.ref (adr B (k + 1)), .null, .null, .null, .int 0, .int 0, .int 0, .int 0]))
theorem w_M_3_keep {cs : Nat → ClassId} {B k j : Nat} {g : Nat → va_E} (h : j < k) : w_M_3 cs B k g j = g j := (va_up_ne _ _ (by omega)).trans (w_M_2_keep (cs := cs) (B := B) (g := g) h)
def w_M_4 (cs : Nat → ClassId) (B k : Nat) (g : Nat → va_E) : Nat → va_E := va_up (w_M_3 cs B k g) (k + 5) (.inr (3, [.null, .null, .int 0, .int 0, .int 0, .int 0]))
theorem w_M_4_keep {cs : Nat → ClassId} {B k j : Nat} {g : Nat → va_E} (h : j < k) : w_M_4 cs B k g j = g j := (va_up_ne _ _ (by omega)).trans (w_M_3_keep (cs := cs) (B := B) (g := g) h)
def w_M_5 (cs : Nat → ClassId) (B k : Nat) (g : Nat → va_E) : Nat → va_E := w_S_4 cs B (k + 5) (w_M_4 cs B k g)
theorem w_M_5_keep {cs : Nat → ClassId} {B k j : Nat} {g : Nat → va_E} (h : j < k) : w_M_5 cs B k g j = g j := (w_S_4_keep (by omega)).trans (w_M_4_keep (cs := cs) (B := B) (g := g) h)
def w_M_6 (cs : Nat → ClassId) (B k : Nat) (g : Nat → va_E) : Nat → va_E := va_up (w_M_5 cs B k g) k (.inr (0, [.ref (adr B (k + 1)), .ref (adr B (k + 5)), .null, .null, .int 0, .int 0, .int 0, .int 0]))
theorem w_M_6_keep {cs : Nat → ClassId} {B k j : Nat} {g : Nat → va_E} (h : j < k) : w_M_6 cs B k g j = g j := (va_up_ne _ _ (by omega)).trans (w_M_5_keep (cs := cs) (B := B) (g := g) h)
def w_M_7 (cs : Nat → ClassId) (B k : Nat) (g : Nat → va_E) : Nat → va_E := va_up (w_M_6 cs B k g) (k + 8) (.inr (3, [.null, .null, .int 0, .int 0, .int 0, .int 0]))
theorem w_M_7_keep {cs : Nat → ClassId} {B k j : Nat} {g : Nat → va_E} (h : j < k) : w_M_7 cs B k g j = g j := (va_up_ne _ _ (by omega)).trans (w_M_6_keep (cs := cs) (B := B) (g := g) h)
def w_M_8 (cs : Nat → ClassId) (B k : Nat) (g : Nat → va_E) : Nat → va_E := w_S_4 cs B (k + 8) (w_M_7 cs B k g)
theorem w_M_8_keep {cs : Nat → ClassId} {B k j : Nat} {g : Nat → va_E} (h : j < k) : w_M_8 cs B k g j = g j := (w_S_4_keep (by omega)).trans (w_M_7_keep (cs := cs) (B := B) (g := g) h)
def w_M_9 (cs : Nat → ClassId) (B k : Nat) (g : Nat → va_E) : Nat → va_E := va_up (w_M_8 cs B k g) k (.inr (0, [.ref (adr B (k + 1)), .ref (adr B (k + 5)), .ref (adr B (k + 8)), .null, .int 0, .int 0, .int 0, .int 0]))
theorem w_M_9_keep {cs : Nat → ClassId} {B k j : Nat} {g : Nat → va_E} (h : j < k) : w_M_9 cs B k g j = g j := (va_up_ne _ _ (by omega)).trans (w_M_8_keep (cs := cs) (B := B) (g := g) h)
def w_M_10 (cs : Nat → ClassId) (B k : Nat) (g : Nat → va_E) : Nat → va_E := va_up (w_M_9 cs B k g) (k + 11) (.inr (1, [.null, .null, .int 0, .int 0]))
theorem w_M_10_keep {cs : Nat → ClassId} {B k j : Nat} {g : Nat → va_E} (h : j < k) : w_M_10 cs B k g j = g j := (va_up_ne _ _ (by omega)).trans (w_M_9_keep (cs := cs) (B := B) (g := g) h)
def w_M_11 (cs : Nat → ClassId) (B k : Nat) (g : Nat → va_E) : Nat → va_E := w_R20_4 cs B (k + 11) (w_M_10 cs B k g)
theorem w_M_11_keep {cs : Nat → ClassId} {B k j : Nat} {g : Nat → va_E} (h : j < k) : w_M_11 cs B k g j = g j := (w_R20_4_keep (by omega)).trans (w_M_10_keep (cs := cs) (B := B) (g := g) h)
def w_M_12 (cs : Nat → ClassId) (B k : Nat) (g : Nat → va_E) : Nat → va_E := va_up (w_M_11 cs B k g) k (.inr (0, [.ref (adr B (k + 1)), .ref (adr B (k + 5)), .ref (adr B (k + 8)), .ref (adr B (k + 11)), .int 0, .int 0, .int 0, .int 0]))
theorem w_M_12_keep {cs : Nat → ClassId} {B k j : Nat} {g : Nat → va_E} (h : j < k) : w_M_12 cs B k g j = g j := (va_up_ne _ _ (by omega)).trans (w_M_11_keep (cs := cs) (B := B) (g := g) h)
def w_M_13 (cs : Nat → ClassId) (B k : Nat) (g : Nat → va_E) : Nat → va_E := va_up (w_M_12 cs B k g) k (.inr (0, [.ref (adr B (k + 1)), .ref (adr B (k + 5)), .ref (adr B (k + 8)), .ref (adr B (k + 11)), .int 1, .int 0, .int 0, .int 0]))
theorem w_M_13_keep {cs : Nat → ClassId} {B k j : Nat} {g : Nat → va_E} (h : j < k) : w_M_13 cs B k g j = g j := (va_up_ne _ _ (by omega)).trans (w_M_12_keep (cs := cs) (B := B) (g := g) h)
set_option maxHeartbeats 4000000 in
set_option maxRecDepth 100000 in
theorem n_M (l : Launch) (D : va_G) (cs : Nat → ClassId) (B k : Nat) (g : Nat → va_E) (f_own : g k = .inr (0, [.null, .null, .null, .null, .int 0, .int 0, .int 0, .int 0])) : NC l yX0_init wX0_init { frames := 2, cells := 13, slots := 122, locals := 45 } D cs B [.ref (adr B k)] ((k + 1)) g ((k + 14)) (w_M_13 cs B k g) 13 122 := by
  refine n_enter (cc := cX0_init) (maxL := 1) (by decide +kernel) rfl (Nat.le_of_ble_eq_true rfl) ?_
  intro p e s m below meth c ls hx hb hr hml hown hts hlocks hin hz0 hK hX hP hS hl
  have hown : s.vm.findClass RX0 = some m.cls := hown
  have hin : meth.name = "<init>" := hin
  have hts : ∀ w ∈ gtbl, w.before _ s = true := fun w h => hts w (List.mem_cons_of_mem _ h)
  have hl : lv_has ls 1 [(0, .ref (adr B k))] := hl
  have hBs : B ≤ s.heap.size := by omega
  have hB : s.heap.size + 0 = B + (k + 1) := hz0
  refine lv_aload_n hx hb dX0_init_0 rfl (lv_at hl 0 rfl) ?_
  refine W.objInit hx hb hown (hts _ k_21) (hts _ k_15) (hts _ k_16) rfl (by rw [hml]; exact hl.1) rfl dX0_init_1 (Nat.le_of_ble_eq_true rfl) (Nat.le_of_ble_eq_true rfl) ?_
  refine W.eq (g2 := F0 m 4 ls []) rfl ?_
  refine lv_aload_n hx hb dX0_init_4 rfl (lv_at hl 0 rfl) ?_
  refine n_newo (ci := 2) (fs := [.null, .null, .null, .int 0]) (C := RX2) (T := TX2) (F := 4) hx hb hts inX2 tyX2 tyX2_ok hown (hts _ k_22) (hts _ k_23) (hts _ k_3) hK hP hS hBs hB rfl (fun j hj => by rcases (show j = 0 ∨ j = 1 ∨ j = 2 ∨ j = 3 by omega) with rfl | rfl | rfl | rfl <;> rfl) (Nat.le_of_ble_eq_true rfl) (Nat.le_of_ble_eq_true rfl) dX0_init_5 (fun H hP hS => ?_)
  have hP : va_P D vwCl (mw (k + 2) (adr B) (w_M_1 cs B k g)) H := hP
  have f_own : (w_M_1 cs B k g) k = .inr (0, [.null, .null, .null, .null, .int 0, .int 0, .int 0, .int 0]) := (va_up_ne _ _ (by omega)).trans f_own
  have f_k1 : (w_M_1 cs B k g) (k + 1) = .inr (2, [.null, .null, .null, .int 0]) := va_up_self _ _ _
  refine W.widen (k := 1) (n := 4) (Nat.le_of_ble_eq_true rfl) (Nat.le_of_ble_eq_true rfl) ?_
  have hB : s.heap.size + 1 = B + (k + 2) := by omega
  refine lv_dup hx hb dX0_init_8 rfl ?_
  refine n_sized (fun hz => ?_)
  have hsz := n_size (N := (k + 1)) hP (by omega)
  refine n_call (va_runIN (As := []) (rest := [.ref (adr B (k + 1)), .ref (adr B k)]) ⟨hx, hb, hml, hown, hts⟩ (n_P l D cs B (k + 1) (w_M_1 cs B k g) f_k1) ⟨va_cnB 0 hts (gC k_25) rfl rfl rfl hX.2.1 (hts _ k_3) (by decide +kernel) ⟨Nat.le_of_ble_eq_true rfl, Nat.le_of_ble_eq_true rfl⟩, rfl, hts _ k_24⟩ (n_pre hsz hK hX hP) rfl rfl hl.1 rfl (lv_room (Nat.le_of_ble_eq_true rfl)) dX0_init_9 ⟨Nat.le_of_ble_eq_true rfl, Nat.le_of_ble_eq_true rfl⟩) hS (fun H locs hP hS => ?_)
  have hP : va_P D vwCl (mw (k + 5) (adr B) (w_M_2 cs B k g)) H := hP
  have f_own : (w_M_2 cs B k g) k = .inr (0, [.null, .null, .null, .null, .int 0, .int 0, .int 0, .int 0]) := (w_P_6_keep (by omega)).trans f_own
  have f_k1 : (w_M_2 cs B k g) (k + 1) = .inr (2, [.ref (adr B ((k + 1) + 1)), .ref (adr B ((k + 1) + 2)), .ref (adr B ((k + 1) + 3)), .int 0]) := n_P_own _ _ _ _
  refine W.widen (k := 4) (n := 52) (Nat.le_of_ble_eq_true rfl) (Nat.le_of_ble_eq_true rfl) ?_
  have hB : s.heap.size + 4 = B + (k + 5) := by omega
  refine va_putF (D := D) (ci := 0) (v := .ref (adr B (k + 1))) (ty := .object "ReplayGroup$Program") (C := RX0) (T := TX0) (N := 8) hx hb hts inX0 tyX0 tyX0_ok nmX0 hown hK hP nD hS k (n_at (by omega) f_own) rfl 0 (by decide) (hts _ k_78) (fun _ h9 => h9) rfl hin rfl (by decide +kernel) rfl rfl (Nat.le_of_ble_eq_true rfl) dX0_init_12 (fun H locs hP _ hS => ?_)
  have hP := n_put (by omega) hP
  have hP : va_P D vwCl (mw (k + 5) (adr B) (w_M_3 cs B k g)) H := hP
  have f_k1 : (w_M_3 cs B k g) (k + 1) = .inr (2, [.ref (adr B ((k + 1) + 1)), .ref (adr B ((k + 1) + 2)), .ref (adr B ((k + 1) + 3)), .int 0]) := (va_up_ne _ _ (by omega)).trans f_k1
  have f_k : (w_M_3 cs B k g) k = .inr (0, [.ref (adr B (k + 1)), .null, .null, .null, .int 0, .int 0, .int 0, .int 0]) := va_up_self _ _ _
  refine lv_aload_n hx hb dX0_init_15 rfl (lv_at hl 0 rfl) ?_
  refine n_newo (ci := 3) (fs := [.null, .null, .int 0, .int 0, .int 0, .int 0]) (C := RX3) (T := TX3) (F := 6) hx hb hts inX3 tyX3 tyX3_ok hown (hts _ k_39) (hts _ k_40) (hts _ k_4) hK hP hS hBs hB rfl (fun j hj => by rcases (show j = 0 ∨ j = 1 ∨ j = 2 ∨ j = 3 ∨ j = 4 ∨ j = 5 by omega) with rfl | rfl | rfl | rfl | rfl | rfl <;> rfl) (Nat.le_of_ble_eq_true rfl) (Nat.le_of_ble_eq_true rfl) dX0_init_16 (fun H hP hS => ?_)
  have hP : va_P D vwCl (mw (k + 6) (adr B) (w_M_4 cs B k g)) H := hP
  have f_k : (w_M_4 cs B k g) k = .inr (0, [.ref (adr B (k + 1)), .null, .null, .null, .int 0, .int 0, .int 0, .int 0]) := (va_up_ne _ _ (by omega)).trans f_k
  have f_k1 : (w_M_4 cs B k g) (k + 1) = .inr (2, [.ref (adr B ((k + 1) + 1)), .ref (adr B ((k + 1) + 2)), .ref (adr B ((k + 1) + 3)), .int 0]) := (va_up_ne _ _ (by omega)).trans f_k1
  have f_k5 : (w_M_4 cs B k g) (k + 5) = .inr (3, [.null, .null, .int 0, .int 0, .int 0, .int 0]) := va_up_self _ _ _
  refine W.widen (k := 5) (n := 58) (Nat.le_of_ble_eq_true rfl) (Nat.le_of_ble_eq_true rfl) ?_
  have hB : s.heap.size + 5 = B + (k + 6) := by omega
  refine lv_dup hx hb dX0_init_19 rfl ?_
  refine n_sized (fun hz => ?_)
  have hsz := n_size (N := (k + 5)) hP (by omega)
  refine n_call (va_runIN (As := []) (rest := [.ref (adr B (k + 5)), .ref (adr B k)]) ⟨hx, hb, hml, hown, hts⟩ (n_S l D cs B (k + 5) (w_M_4 cs B k g) f_k5) ⟨va_cnB 0 hts (gC k_42) rfl rfl rfl hX.2.2.1 (hts _ k_4) (by decide +kernel) ⟨Nat.le_of_ble_eq_true rfl, Nat.le_of_ble_eq_true rfl⟩, rfl, hts _ k_41⟩ (n_pre hsz hK hX hP) rfl rfl hl.1 rfl (lv_room (Nat.le_of_ble_eq_true rfl)) dX0_init_20 ⟨Nat.le_of_ble_eq_true rfl, Nat.le_of_ble_eq_true rfl⟩) hS (fun H locs hP hS => ?_)
  have hP : va_P D vwCl (mw (k + 8) (adr B) (w_M_5 cs B k g)) H := hP
  have f_k : (w_M_5 cs B k g) k = .inr (0, [.ref (adr B (k + 1)), .null, .null, .null, .int 0, .int 0, .int 0, .int 0]) := (w_S_4_keep (by omega)).trans f_k
  have f_k1 : (w_M_5 cs B k g) (k + 1) = .inr (2, [.ref (adr B ((k + 1) + 1)), .ref (adr B ((k + 1) + 2)), .ref (adr B ((k + 1) + 3)), .int 0]) := (w_S_4_keep (by omega)).trans f_k1
  have f_k5 : (w_M_5 cs B k g) (k + 5) = .inr (3, [.ref (adr B ((k + 5) + 1)), .ref (adr B ((k + 5) + 2)), .int 0, .int 0, .int 0, .int 0]) := n_S_own _ _ _ _
  refine W.widen (k := 7) (n := 65) (Nat.le_of_ble_eq_true rfl) (Nat.le_of_ble_eq_true rfl) ?_
  have hB : s.heap.size + 7 = B + (k + 8) := by omega
  refine va_putF (D := D) (ci := 0) (v := .ref (adr B (k + 5))) (ty := .object "ReplayGroup$State") (C := RX0) (T := TX0) (N := 8) hx hb hts inX0 tyX0 tyX0_ok nmX0 hown hK hP nD hS k (n_at (by omega) f_k) rfl 1 (by decide) (hts _ k_80) (fun _ h9 => h9) rfl hin rfl (by decide +kernel) rfl rfl (Nat.le_of_ble_eq_true rfl) dX0_init_23 (fun H locs hP _ hS => ?_)
  have hP := n_put (by omega) hP
  have hP : va_P D vwCl (mw (k + 8) (adr B) (w_M_6 cs B k g)) H := hP
  have f_k1 : (w_M_6 cs B k g) (k + 1) = .inr (2, [.ref (adr B ((k + 1) + 1)), .ref (adr B ((k + 1) + 2)), .ref (adr B ((k + 1) + 3)), .int 0]) := (va_up_ne _ _ (by omega)).trans f_k1
  have f_k5 : (w_M_6 cs B k g) (k + 5) = .inr (3, [.ref (adr B ((k + 5) + 1)), .ref (adr B ((k + 5) + 2)), .int 0, .int 0, .int 0, .int 0]) := (va_up_ne _ _ (by omega)).trans f_k5
  have f_k : (w_M_6 cs B k g) k = .inr (0, [.ref (adr B (k + 1)), .ref (adr B (k + 5)), .null, .null, .int 0, .int 0, .int 0, .int 0]) := va_up_self _ _ _
  refine lv_aload_n hx hb dX0_init_26 rfl (lv_at hl 0 rfl) ?_
  refine n_newo (ci := 3) (fs := [.null, .null, .int 0, .int 0, .int 0, .int 0]) (C := RX3) (T := TX3) (F := 6) hx hb hts inX3 tyX3 tyX3_ok hown (hts _ k_39) (hts _ k_40) (hts _ k_4) hK hP hS hBs hB rfl (fun j hj => by rcases (show j = 0 ∨ j = 1 ∨ j = 2 ∨ j = 3 ∨ j = 4 ∨ j = 5 by omega) with rfl | rfl | rfl | rfl | rfl | rfl <;> rfl) (Nat.le_of_ble_eq_true rfl) (Nat.le_of_ble_eq_true rfl) dX0_init_27 (fun H hP hS => ?_)
  have hP : va_P D vwCl (mw (k + 9) (adr B) (w_M_7 cs B k g)) H := hP
  have f_k : (w_M_7 cs B k g) k = .inr (0, [.ref (adr B (k + 1)), .ref (adr B (k + 5)), .null, .null, .int 0, .int 0, .int 0, .int 0]) := (va_up_ne _ _ (by omega)).trans f_k
  have f_k1 : (w_M_7 cs B k g) (k + 1) = .inr (2, [.ref (adr B ((k + 1) + 1)), .ref (adr B ((k + 1) + 2)), .ref (adr B ((k + 1) + 3)), .int 0]) := (va_up_ne _ _ (by omega)).trans f_k1
  have f_k5 : (w_M_7 cs B k g) (k + 5) = .inr (3, [.ref (adr B ((k + 5) + 1)), .ref (adr B ((k + 5) + 2)), .int 0, .int 0, .int 0, .int 0]) := (va_up_ne _ _ (by omega)).trans f_k5
  have f_k8 : (w_M_7 cs B k g) (k + 8) = .inr (3, [.null, .null, .int 0, .int 0, .int 0, .int 0]) := va_up_self _ _ _
  refine W.widen (k := 8) (n := 71) (Nat.le_of_ble_eq_true rfl) (Nat.le_of_ble_eq_true rfl) ?_
  have hB : s.heap.size + 8 = B + (k + 9) := by omega
  refine lv_dup hx hb dX0_init_30 rfl ?_
  refine n_sized (fun hz => ?_)
  have hsz := n_size (N := (k + 8)) hP (by omega)
  refine n_call (va_runIN (As := []) (rest := [.ref (adr B (k + 8)), .ref (adr B k)]) ⟨hx, hb, hml, hown, hts⟩ (n_S l D cs B (k + 8) (w_M_7 cs B k g) f_k8) ⟨va_cnB 0 hts (gC k_42) rfl rfl rfl hX.2.2.1 (hts _ k_4) (by decide +kernel) ⟨Nat.le_of_ble_eq_true rfl, Nat.le_of_ble_eq_true rfl⟩, rfl, hts _ k_41⟩ (n_pre hsz hK hX hP) rfl rfl hl.1 rfl (lv_room (Nat.le_of_ble_eq_true rfl)) dX0_init_31 ⟨Nat.le_of_ble_eq_true rfl, Nat.le_of_ble_eq_true rfl⟩) hS (fun H locs hP hS => ?_)
  have hP : va_P D vwCl (mw (k + 11) (adr B) (w_M_8 cs B k g)) H := hP
  have f_k : (w_M_8 cs B k g) k = .inr (0, [.ref (adr B (k + 1)), .ref (adr B (k + 5)), .null, .null, .int 0, .int 0, .int 0, .int 0]) := (w_S_4_keep (by omega)).trans f_k
  have f_k1 : (w_M_8 cs B k g) (k + 1) = .inr (2, [.ref (adr B ((k + 1) + 1)), .ref (adr B ((k + 1) + 2)), .ref (adr B ((k + 1) + 3)), .int 0]) := (w_S_4_keep (by omega)).trans f_k1
  have f_k5 : (w_M_8 cs B k g) (k + 5) = .inr (3, [.ref (adr B ((k + 5) + 1)), .ref (adr B ((k + 5) + 2)), .int 0, .int 0, .int 0, .int 0]) := (w_S_4_keep (by omega)).trans f_k5
  have f_k8 : (w_M_8 cs B k g) (k + 8) = .inr (3, [.ref (adr B ((k + 8) + 1)), .ref (adr B ((k + 8) + 2)), .int 0, .int 0, .int 0, .int 0]) := n_S_own _ _ _ _
  refine W.widen (k := 10) (n := 78) (Nat.le_of_ble_eq_true rfl) (Nat.le_of_ble_eq_true rfl) ?_
  have hB : s.heap.size + 10 = B + (k + 11) := by omega
  refine va_putF (D := D) (ci := 0) (v := .ref (adr B (k + 8))) (ty := .object "ReplayGroup$State") (C := RX0) (T := TX0) (N := 8) hx hb hts inX0 tyX0 tyX0_ok nmX0 hown hK hP nD hS k (n_at (by omega) f_k) rfl 2 (by decide) (hts _ k_82) (fun _ h9 => h9) rfl hin rfl (by decide +kernel) rfl rfl (Nat.le_of_ble_eq_true rfl) dX0_init_34 (fun H locs hP _ hS => ?_)
  have hP := n_put (by omega) hP
  have hP : va_P D vwCl (mw (k + 11) (adr B) (w_M_9 cs B k g)) H := hP
  have f_k1 : (w_M_9 cs B k g) (k + 1) = .inr (2, [.ref (adr B ((k + 1) + 1)), .ref (adr B ((k + 1) + 2)), .ref (adr B ((k + 1) + 3)), .int 0]) := (va_up_ne _ _ (by omega)).trans f_k1
  have f_k5 : (w_M_9 cs B k g) (k + 5) = .inr (3, [.ref (adr B ((k + 5) + 1)), .ref (adr B ((k + 5) + 2)), .int 0, .int 0, .int 0, .int 0]) := (va_up_ne _ _ (by omega)).trans f_k5
  have f_k8 : (w_M_9 cs B k g) (k + 8) = .inr (3, [.ref (adr B ((k + 8) + 1)), .ref (adr B ((k + 8) + 2)), .int 0, .int 0, .int 0, .int 0]) := (va_up_ne _ _ (by omega)).trans f_k8
  have f_k : (w_M_9 cs B k g) k = .inr (0, [.ref (adr B (k + 1)), .ref (adr B (k + 5)), .ref (adr B (k + 8)), .null, .int 0, .int 0, .int 0, .int 0]) := va_up_self _ _ _
  refine lv_aload_n hx hb dX0_init_37 rfl (lv_at hl 0 rfl) ?_
  refine n_newo (ci := 1) (fs := [.null, .null, .int 0, .int 0]) (C := RX1) (T := TX1) (F := 4) hx hb hts inX1 tyX1 tyX1_ok hown (hts _ k_62) (hts _ k_63) (hts _ k_5) hK hP hS hBs hB rfl (fun j hj => by rcases (show j = 0 ∨ j = 1 ∨ j = 2 ∨ j = 3 by omega) with rfl | rfl | rfl | rfl <;> rfl) (Nat.le_of_ble_eq_true rfl) (Nat.le_of_ble_eq_true rfl) dX0_init_38 (fun H hP hS => ?_)
  have hP : va_P D vwCl (mw (k + 12) (adr B) (w_M_10 cs B k g)) H := hP
  have f_k : (w_M_10 cs B k g) k = .inr (0, [.ref (adr B (k + 1)), .ref (adr B (k + 5)), .ref (adr B (k + 8)), .null, .int 0, .int 0, .int 0, .int 0]) := (va_up_ne _ _ (by omega)).trans f_k
  have f_k1 : (w_M_10 cs B k g) (k + 1) = .inr (2, [.ref (adr B ((k + 1) + 1)), .ref (adr B ((k + 1) + 2)), .ref (adr B ((k + 1) + 3)), .int 0]) := (va_up_ne _ _ (by omega)).trans f_k1
  have f_k5 : (w_M_10 cs B k g) (k + 5) = .inr (3, [.ref (adr B ((k + 5) + 1)), .ref (adr B ((k + 5) + 2)), .int 0, .int 0, .int 0, .int 0]) := (va_up_ne _ _ (by omega)).trans f_k5
  have f_k8 : (w_M_10 cs B k g) (k + 8) = .inr (3, [.ref (adr B ((k + 8) + 1)), .ref (adr B ((k + 8) + 2)), .int 0, .int 0, .int 0, .int 0]) := (va_up_ne _ _ (by omega)).trans f_k8
  have f_k11 : (w_M_10 cs B k g) (k + 11) = .inr (1, [.null, .null, .int 0, .int 0]) := va_up_self _ _ _
  refine W.widen (k := 11) (n := 82) (Nat.le_of_ble_eq_true rfl) (Nat.le_of_ble_eq_true rfl) ?_
  have hB : s.heap.size + 11 = B + (k + 12) := by omega
  refine lv_dup hx hb dX0_init_41 rfl ?_
  refine lv_bipush (v := 20) hx hb dX0_init_42 (by decide) ?_
  refine n_sized (fun hz => ?_)
  have hsz := n_size (N := (k + 11)) hP (by omega)
  refine n_call (va_runI (As := [.int 20]) (rest := [.ref (adr B (k + 11)), .ref (adr B k)]) ⟨hx, hb, hml, hown, hts⟩ (n_R20 l D cs B (k + 11) (w_M_10 cs B k g) f_k11) (cwI 1 hts (gC k_66) rfl rfl rfl (hts _ k_5) (hts _ k_64) (hts _ k_65) rfl (by decide +kernel) ⟨Nat.le_of_ble_eq_true rfl, Nat.le_of_ble_eq_true rfl⟩) (n_pre hsz hK hX hP) rfl rfl hl.1 rfl (lv_room (Nat.le_of_ble_eq_true rfl)) dX0_init_44 ⟨Nat.le_of_ble_eq_true rfl, Nat.le_of_ble_eq_true rfl⟩) hS (fun H locs hP hS => ?_)
  have hP : va_P D vwCl (mw (k + 14) (adr B) (w_M_11 cs B k g)) H := hP
  have f_k : (w_M_11 cs B k g) k = .inr (0, [.ref (adr B (k + 1)), .ref (adr B (k + 5)), .ref (adr B (k + 8)), .null, .int 0, .int 0, .int 0, .int 0]) := (w_R20_4_keep (by omega)).trans f_k
  have f_k1 : (w_M_11 cs B k g) (k + 1) = .inr (2, [.ref (adr B ((k + 1) + 1)), .ref (adr B ((k + 1) + 2)), .ref (adr B ((k + 1) + 3)), .int 0]) := (w_R20_4_keep (by omega)).trans f_k1
  have f_k5 : (w_M_11 cs B k g) (k + 5) = .inr (3, [.ref (adr B ((k + 5) + 1)), .ref (adr B ((k + 5) + 2)), .int 0, .int 0, .int 0, .int 0]) := (w_R20_4_keep (by omega)).trans f_k5
  have f_k8 : (w_M_11 cs B k g) (k + 8) = .inr (3, [.ref (adr B ((k + 8) + 1)), .ref (adr B ((k + 8) + 2)), .int 0, .int 0, .int 0, .int 0]) := (w_R20_4_keep (by omega)).trans f_k8
  have f_k11 : (w_M_11 cs B k g) (k + 11) = .inr (1, [.ref (adr B ((k + 11) + 1)), .ref (adr B ((k + 11) + 2)), .int 0, .int 0]) := n_R20_own _ _ _ _
  refine W.widen (k := 13) (n := 122) (Nat.le_of_ble_eq_true rfl) (Nat.le_of_ble_eq_true rfl) ?_
  have hB : s.heap.size + 13 = B + (k + 14) := by omega
  refine va_putF (D := D) (ci := 0) (v := .ref (adr B (k + 11))) (ty := .object "ReplayGroup$NumberedRow") (C := RX0) (T := TX0) (N := 8) hx hb hts inX0 tyX0 tyX0_ok nmX0 hown hK hP nD hS k (n_at (by omega) f_k) rfl 3 (by decide) (hts _ k_84) (fun _ h9 => h9) rfl hin rfl (by decide +kernel) rfl rfl (Nat.le_of_ble_eq_true rfl) dX0_init_47 (fun H locs hP _ hS => ?_)
  have hP := n_put (by omega) hP
  have hP : va_P D vwCl (mw (k + 14) (adr B) (w_M_12 cs B k g)) H := hP
  have f_k1 : (w_M_12 cs B k g) (k + 1) = .inr (2, [.ref (adr B ((k + 1) + 1)), .ref (adr B ((k + 1) + 2)), .ref (adr B ((k + 1) + 3)), .int 0]) := (va_up_ne _ _ (by omega)).trans f_k1
  have f_k5 : (w_M_12 cs B k g) (k + 5) = .inr (3, [.ref (adr B ((k + 5) + 1)), .ref (adr B ((k + 5) + 2)), .int 0, .int 0, .int 0, .int 0]) := (va_up_ne _ _ (by omega)).trans f_k5
  have f_k8 : (w_M_12 cs B k g) (k + 8) = .inr (3, [.ref (adr B ((k + 8) + 1)), .ref (adr B ((k + 8) + 2)), .int 0, .int 0, .int 0, .int 0]) := (va_up_ne _ _ (by omega)).trans f_k8
  have f_k11 : (w_M_12 cs B k g) (k + 11) = .inr (1, [.ref (adr B ((k + 11) + 1)), .ref (adr B ((k + 11) + 2)), .int 0, .int 0]) := (va_up_ne _ _ (by omega)).trans f_k11
  have f_k : (w_M_12 cs B k g) k = .inr (0, [.ref (adr B (k + 1)), .ref (adr B (k + 5)), .ref (adr B (k + 8)), .ref (adr B (k + 11)), .int 0, .int 0, .int 0, .int 0]) := va_up_self _ _ _
  refine lv_aload_n hx hb dX0_init_50 rfl (lv_at hl 0 rfl) ?_
  refine lv_iconst (v := 1) hx hb dX0_init_51 (by decide) ?_
  refine va_put (D := D) (ci := 0) (v := .int 1) (ty := .boolean) (C := RX0) (T := TX0) (N := 8) hx hb hts inX0 tyX0 tyX0_ok nmX0 hown hK hP nD hS k (n_at (by omega) f_k) rfl 4 (by decide) (hts _ k_86) (fun _ h9 => h9) rfl (by decide +kernel) rfl rfl (Nat.le_of_ble_eq_true rfl) dX0_init_52 (fun H locs hP _ hS => ?_)
  have hP := n_put (by omega) hP
  have hP : va_P D vwCl (mw (k + 14) (adr B) (w_M_13 cs B k g)) H := hP
  have f_k1 : (w_M_13 cs B k g) (k + 1) = .inr (2, [.ref (adr B ((k + 1) + 1)), .ref (adr B ((k + 1) + 2)), .ref (adr B ((k + 1) + 3)), .int 0]) := (va_up_ne _ _ (by omega)).trans f_k1
  have f_k5 : (w_M_13 cs B k g) (k + 5) = .inr (3, [.ref (adr B ((k + 5) + 1)), .ref (adr B ((k + 5) + 2)), .int 0, .int 0, .int 0, .int 0]) := (va_up_ne _ _ (by omega)).trans f_k5
  have f_k8 : (w_M_13 cs B k g) (k + 8) = .inr (3, [.ref (adr B ((k + 8) + 1)), .ref (adr B ((k + 8) + 2)), .int 0, .int 0, .int 0, .int 0]) := (va_up_ne _ _ (by omega)).trans f_k8
  have f_k11 : (w_M_13 cs B k g) (k + 11) = .inr (1, [.ref (adr B ((k + 11) + 1)), .ref (adr B ((k + 11) + 2)), .int 0, .int 0]) := (va_up_ne _ _ (by omega)).trans f_k11
  have f_k : (w_M_13 cs B k g) k = .inr (0, [.ref (adr B (k + 1)), .ref (adr B (k + 5)), .ref (adr B (k + 8)), .ref (adr B (k + 11)), .int 1, .int 0, .int 0, .int 0]) := va_up_self _ _ _
  exact n_ret hx hb hr hlocks dX0_init_55 hP hS
theorem n_M_own (cs : Nat → ClassId) (B k : Nat) (g : Nat → va_E) : w_M_13 cs B k g k = .inr (0, [.ref (adr B (k + 1)), .ref (adr B (k + 5)), .ref (adr B (k + 8)), .ref (adr B (k + 11)), .int 1, .int 0, .int 0, .int 0]) := va_up_self _ _ _
end
