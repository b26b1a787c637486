section
-- ===== PART A: goes FIRST, ahead of the names: the tables' words, and 'selects' of the private methods out of them =====
/-- a private method of a class that the tables say can be made, by its rows of tables_1 -/
def lw_okq (q : MethodName × Nat) : Prop := (q.1.cls ≠ "java/lang/invoke/MethodHandle" ∧ q.1.cls ≠ "java/lang/invoke/VarHandle") ∧ Cond.instantiable q.1.cls q.2 ∈ tables_1 ∧ Cond.privateMethod q.1 ∈ tables_1 ∧ Cond.instanceMethod q.1 ∈ tables_1
theorem lw_p0 : lw_okq (⟨"PacketStore", "makeRoom", "(I)I"⟩, 12) := ⟨⟨by decide +kernel, by decide +kernel⟩, List.mem_of_getElem? (i := 6) (by decide +kernel), List.mem_of_getElem? (i := 102) (by decide +kernel), List.mem_of_getElem? (i := 103) (by decide +kernel)⟩
theorem lw_p1 : lw_okq (⟨"PacketStore", "dropOldest", "()V"⟩, 12) := ⟨⟨by decide +kernel, by decide +kernel⟩, List.mem_of_getElem? (i := 6) (by decide +kernel), List.mem_of_getElem? (i := 114) (by decide +kernel), List.mem_of_getElem? (i := 115) (by decide +kernel)⟩
theorem lw_p2 : lw_okq (⟨"PacketStore$Ring", "startOf", "(I)I"⟩, 8) := ⟨⟨by decide +kernel, by decide +kernel⟩, List.mem_of_getElem? (i := 14) (by decide +kernel), List.mem_of_getElem? (i := 126) (by decide +kernel), List.mem_of_getElem? (i := 127) (by decide +kernel)⟩
theorem lw_p3 : lw_okq (⟨"PacketStore$Ring", "wrapped", "(I)I"⟩, 8) := ⟨⟨by decide +kernel, by decide +kernel⟩, List.mem_of_getElem? (i := 14) (by decide +kernel), List.mem_of_getElem? (i := 130) (by decide +kernel), List.mem_of_getElem? (i := 131) (by decide +kernel)⟩
theorem lw_p4 : lw_okq (⟨"PacketStore", "passUnwanted", "()V"⟩, 12) := ⟨⟨by decide +kernel, by decide +kernel⟩, List.mem_of_getElem? (i := 6) (by decide +kernel), List.mem_of_getElem? (i := 158) (by decide +kernel), List.mem_of_getElem? (i := 159) (by decide +kernel)⟩
theorem lw_p5 : lw_okq (⟨"PacketStore", "isWanted", "(I)Z"⟩, 12) := ⟨⟨by decide +kernel, by decide +kernel⟩, List.mem_of_getElem? (i := 6) (by decide +kernel), List.mem_of_getElem? (i := 162) (by decide +kernel), List.mem_of_getElem? (i := 163) (by decide +kernel)⟩
theorem lw_p6 : lw_okq (⟨"PacketStoreModel", "goes", "()V"⟩, 18) := ⟨⟨by decide +kernel, by decide +kernel⟩, List.mem_of_getElem? (i := 199) (by decide +kernel), List.mem_of_getElem? (i := 268) (by decide +kernel), List.mem_of_getElem? (i := 269) (by decide +kernel)⟩
theorem lw_p7 : lw_okq (⟨"PacketStoreModel", "start", "(I)I"⟩, 18) := ⟨⟨by decide +kernel, by decide +kernel⟩, List.mem_of_getElem? (i := 199) (by decide +kernel), List.mem_of_getElem? (i := 288) (by decide +kernel), List.mem_of_getElem? (i := 289) (by decide +kernel)⟩
def lw_privs_1 : List (MethodName × Nat) := [(⟨"PacketStore", "makeRoom", "(I)I"⟩, 12), (⟨"PacketStore", "dropOldest", "()V"⟩, 12), (⟨"PacketStore$Ring", "startOf", "(I)I"⟩, 8), (⟨"PacketStore$Ring", "wrapped", "(I)I"⟩, 8), (⟨"PacketStore", "passUnwanted", "()V"⟩, 12), (⟨"PacketStore", "isWanted", "(I)Z"⟩, 12), (⟨"PacketStoreModel", "goes", "()V"⟩, 18), (⟨"PacketStoreModel", "start", "(I)I"⟩, 18)]
theorem lw_r1 : ∀ q ∈ lw_privs_1, lw_okq q := List.forall_mem_cons.mpr ⟨lw_p0, List.forall_mem_cons.mpr ⟨lw_p1, List.forall_mem_cons.mpr ⟨lw_p2, List.forall_mem_cons.mpr ⟨lw_p3, List.forall_mem_cons.mpr ⟨lw_p4, List.forall_mem_cons.mpr ⟨lw_p5, List.forall_mem_cons.mpr ⟨lw_p6, List.forall_mem_cons.mpr ⟨lw_p7, fun _ h => absurd h List.not_mem_nil⟩⟩⟩⟩⟩⟩⟩⟩
def lw_privs : List (MethodName × Nat) := lw_privs_1
def lw_tbl : List Cond := k2_sels lw_privs ++ tables_1
theorem lw_privs_ok : ∀ q ∈ lw_privs, lw_okq q := lw_r1
end
section
theorem goodIn_r {big : List Cond} (ws : List Cond) (ps : List Nat) (hp : ws = ps.filterMap (fun i => big[i]?)) (h : ws.all goodWord = true) : GoodIn big ws := by
  intro w hw
  have h1 := List.all_eq_true.mp h w hw
  rw [hp] at hw
  obtain ⟨i, -, hi⟩ := List.mem_filterMap.mp hw
  have hm : w ∈ big := by first | exact List.mem_of_getElem? hi | exact List.getElem?_mem hi
  exact ⟨hm, good_of_word h1⟩
theorem goodIn_app {big a b : List Cond} (ha : GoodIn big a) (hb : GoodIn big b) : GoodIn big (a ++ b) := fun w h => (List.mem_append.mp h).elim (ha w) (hb w)
theorem goodIn_ca {big a b : List Cond} {c : Cond} (ha : GoodIn big (c :: a)) (hb : GoodIn big b) : GoodIn big (c :: (a ++ b)) := fun w h => (List.mem_cons.mp h).elim (fun e => ha w (List.mem_cons.mpr (Or.inl e))) (fun h => (List.mem_append.mp h).elim (fun h => ha w (List.mem_cons.mpr (Or.inr h))) (hb w))
theorem goodIn_sub {big ws : List Cond} (hm : ∀ w ∈ ws, w ∈ big) (h : ws.all goodWord = true) : GoodIn big ws := fun w hw => ⟨hm w hw, good_of_word (List.all_eq_true.mp h w hw)⟩
def RX0 : String := "PacketStore$Ring"
def TX0 : u_T := fun k => match k with
  | 0 => ("PacketStore$Ring", "room", "I", true)
  | 1 => ("PacketStore$Ring", "bytes", "[B", true)
  | 2 => ("PacketStore$Ring", "starts", "[I", true)
  | 3 => ("PacketStore$Ring", "times", "[I", true)
  | 4 => ("PacketStore$Ring", "oldest", "I", false)
  | 5 => ("PacketStore$Ring", "packets", "I", false)
  | 6 => ("PacketStore$Ring", "end", "I", false)
  | _ => ("PacketStore$Ring", "used", "I", false)
def tyX0 : Nat → FieldType := fun k => match k with
  | 0 => .int
  | 1 => .array .byte
  | 2 => .array .int
  | 3 => .array .int
  | 4 => .int
  | 5 => .int
  | 6 => .int
  | _ => .int
abbrev wsX00 : List Cond := u_ws RX0 TX0 8
theorem nmX0 : ∀ a, a < 8 → ∀ b, b < 8 → a ≠ b → (TX0 a).2.1 ≠ (TX0 b).2.1 := by decide +kernel
theorem tyX0_ok : ∀ k, k < 8 → parseFieldDescriptor (TX0 k).2.2.1 = some (tyX0 k) := by decide +kernel
abbrev cX0_init : ByteArray := prog_2_method_1_code
def yX0_init : MethodName := ⟨RX0, "<init>", "(I)V"⟩
abbrev cX0_room : ByteArray := prog_2_method_2_code
def yX0_room : MethodName := ⟨RX0, "room", "()I"⟩
abbrev cX0_packets : ByteArray := prog_2_method_3_code
def yX0_packets : MethodName := ⟨RX0, "packets", "()I"⟩
abbrev cX0_used : ByteArray := prog_2_method_4_code
def yX0_used : MethodName := ⟨RX0, "used", "()I"⟩
abbrev cX0_has : ByteArray := prog_2_method_5_code
def yX0_has : MethodName := ⟨RX0, "has", "(I)Z"⟩
abbrev cX0_timeOf : ByteArray := prog_2_method_6_code
def yX0_timeOf : MethodName := ⟨RX0, "timeOf", "(I)I"⟩
abbrev cX0_sizeOf : ByteArray := prog_2_method_7_code
def yX0_sizeOf : MethodName := ⟨RX0, "sizeOf", "(I)I"⟩
abbrev cX0_byteOf : ByteArray := prog_2_method_8_code
def yX0_byteOf : MethodName := ⟨RX0, "byteOf", "(II)B"⟩
abbrev cX0_copy : ByteArray := prog_2_method_9_code
def yX0_copy : MethodName := ⟨RX0, "copy", "(II[B)V"⟩
abbrev cX0_add : ByteArray := prog_2_method_10_code
def yX0_add : MethodName := ⟨RX0, "add", "([BII)V"⟩
abbrev cX0_dropOldest : ByteArray := prog_2_method_11_code
def yX0_dropOldest : MethodName := ⟨RX0, "dropOldest", "()V"⟩
abbrev cX0_startOf : ByteArray := prog_2_method_12_code
def yX0_startOf : MethodName := ⟨RX0, "startOf", "(I)I"⟩
abbrev cX0_wrapped : ByteArray := prog_2_method_13_code
def yX0_wrapped : MethodName := ⟨RX0, "wrapped", "(I)I"⟩
def RX1 : String := "PacketStore"
def TX1 : u_T := fun k => match k with
  | 0 => ("PacketStore", "ring", "LPacketStore$Ring;", true)
  | 1 => ("PacketStore", "text", "[B", true)
  | 2 => ("PacketStore", "textSize", "I", false)
  | 3 => ("PacketStore", "output", "[B", true)
  | 4 => ("PacketStore", "outputSize", "I", false)
  | 5 => ("PacketStore", "underWay", "Z", false)
  | 6 => ("PacketStore", "from", "I", false)
  | 7 => ("PacketStore", "to", "I", false)
  | 8 => ("PacketStore", "passed", "I", false)
  | 9 => ("PacketStore", "come", "I", false)
  | 10 => ("PacketStore", "drivenOut", "I", false)
  | _ => ("PacketStore", "deleted", "I", false)
def tyX1 : Nat → FieldType := fun k => match k with
  | 0 => .object "PacketStore$Ring"
  | 1 => .array .byte
  | 2 => .int
  | 3 => .array .byte
  | 4 => .int
  | 5 => .boolean
  | 6 => .int
  | 7 => .int
  | 8 => .int
  | 9 => .int
  | 10 => .int
  | _ => .int
abbrev wsX10 : List Cond := u_ws RX1 TX1 12
theorem nmX1 : ∀ a, a < 12 → ∀ b, b < 12 → a ≠ b → (TX1 a).2.1 ≠ (TX1 b).2.1 := by decide +kernel
theorem tyX1_ok : ∀ k, k < 12 → parseFieldDescriptor (TX1 k).2.2.1 = some (tyX1 k) := by decide +kernel
abbrev cX1_init : ByteArray := prog_1_method_1_code
def yX1_init : MethodName := ⟨RX1, "<init>", "(I)V"⟩
abbrev cX1_put : ByteArray := prog_1_method_2_code
def yX1_put : MethodName := ⟨RX1, "put", "(I)I"⟩
abbrev cX1_keep : ByteArray := prog_1_method_3_code
def yX1_keep : MethodName := ⟨RX1, "keep", "(I)I"⟩
abbrev cX1_delete : ByteArray := prog_1_method_4_code
def yX1_delete : MethodName := ⟨RX1, "delete", "(I)I"⟩
abbrev cX1_begin : ByteArray := prog_1_method_5_code
def yX1_begin : MethodName := ⟨RX1, "begin", "(II)Z"⟩
abbrev cX1_stop : ByteArray := prog_1_method_6_code
def yX1_stop : MethodName := ⟨RX1, "stop", "()Z"⟩
abbrev cX1_next : ByteArray := prog_1_method_7_code
def yX1_next : MethodName := ⟨RX1, "next", "(I)I"⟩
abbrev cX1_out : ByteArray := prog_1_method_8_code
def yX1_out : MethodName := ⟨RX1, "out", "(I)I"⟩
abbrev cX1_count : ByteArray := prog_1_method_9_code
def yX1_count : MethodName := ⟨RX1, "count", "(I)I"⟩
abbrev cX1_about : ByteArray := prog_1_method_10_code
def yX1_about : MethodName := ⟨RX1, "about", "(II)I"⟩
abbrev cX1_byteAt : ByteArray := prog_1_method_11_code
def yX1_byteAt : MethodName := ⟨RX1, "byteAt", "(II)I"⟩
abbrev cX1_makeRoom : ByteArray := prog_1_method_12_code
def yX1_makeRoom : MethodName := ⟨RX1, "makeRoom", "(I)I"⟩
abbrev cX1_dropOldest : ByteArray := prog_1_method_13_code
def yX1_dropOldest : MethodName := ⟨RX1, "dropOldest", "()V"⟩
abbrev cX1_passUnwanted : ByteArray := prog_1_method_14_code
def yX1_passUnwanted : MethodName := ⟨RX1, "passUnwanted", "()V"⟩
abbrev cX1_isWanted : ByteArray := prog_1_method_15_code
def yX1_isWanted : MethodName := ⟨RX1, "isWanted", "(I)Z"⟩
def RL : String := "PacketStoreLaw"
abbrev cL_cell : ByteArray := method_2_code
def yL_cell : MethodName := ⟨RL, "cell", "([II)I"⟩
abbrev cL_law : ByteArray := code
def yL_law : MethodName := ⟨RL, "law", "([I)Z"⟩
def wsX0_init : List Cond := .code yX0_init cX0_init 2 none :: ([.methodLink RX0 1 objectInit, .instanceMethod objectInit, .code objectInit ⟨#[0xb1]⟩ 1 none, .fieldLink RX0 7 "PacketStore$Ring" "room" "I", .arrayClass .byte, .fieldLink RX0 13 "PacketStore$Ring" "bytes" "[B", .arrayClass .int, .fieldLink RX0 17 "PacketStore$Ring" "starts" "[I", .fieldLink RX0 21 "PacketStore$Ring" "times" "[I"] ++ wsX00)
def wsX0_room : List Cond := .code yX0_room cX0_room 1 (some .int) :: ([.fieldLink RX0 7 "PacketStore$Ring" "room" "I"] ++ wsX00)
def wsX0_packets : List Cond := .code yX0_packets cX0_packets 1 (some .int) :: ([.fieldLink RX0 24 "PacketStore$Ring" "packets" "I"] ++ wsX00)
def wsX0_used : List Cond := .code yX0_used cX0_used 1 (some .int) :: ([.fieldLink RX0 27 "PacketStore$Ring" "used" "I"] ++ wsX00)
def wsX0_has : List Cond := .code yX0_has cX0_has 2 (some .boolean) :: ([.fieldLink RX0 24 "PacketStore$Ring" "packets" "I"] ++ wsX00)
def wsX0_wrapped : List Cond := .code yX0_wrapped cX0_wrapped 2 (some .int) :: ([.fieldLink RX0 7 "PacketStore$Ring" "room" "I"] ++ wsX00)
def wsX0_timeOf : List Cond := .code yX0_timeOf cX0_timeOf 2 (some .int) :: ([.fieldLink RX0 21 "PacketStore$Ring" "times" "[I", .fieldLink RX0 30 "PacketStore$Ring" "oldest" "I", .methodLink RX0 33 yX0_wrapped, .instanceMethod yX0_wrapped, .selects RX0 yX0_wrapped yX0_wrapped, .initialized RX0, .code yX0_wrapped cX0_wrapped 2 (some .int), .fieldLink RX0 7 "PacketStore$Ring" "room" "I"] ++ wsX00)
def wsX0_startOf : List Cond := .code yX0_startOf cX0_startOf 2 (some .int) :: ([.fieldLink RX0 17 "PacketStore$Ring" "starts" "[I", .fieldLink RX0 30 "PacketStore$Ring" "oldest" "I", .methodLink RX0 33 yX0_wrapped, .instanceMethod yX0_wrapped, .selects RX0 yX0_wrapped yX0_wrapped, .initialized RX0, .code yX0_wrapped cX0_wrapped 2 (some .int), .fieldLink RX0 7 "PacketStore$Ring" "room" "I"] ++ wsX00)
def wsX0_sizeOf : List Cond := .code yX0_sizeOf cX0_sizeOf 4 (some .int) :: ([.fieldLink RX0 24 "PacketStore$Ring" "packets" "I", .fieldLink RX0 40 "PacketStore$Ring" "end" "I", .fieldLink RX0 7 "PacketStore$Ring" "room" "I", .methodLink RX0 37 yX0_startOf, .instanceMethod yX0_startOf, .selects RX0 yX0_startOf yX0_startOf, .initialized RX0, .code yX0_startOf cX0_startOf 2 (some .int), .fieldLink RX0 17 "PacketStore$Ring" "starts" "[I", .fieldLink RX0 30 "PacketStore$Ring" "oldest" "I", .methodLink RX0 33 yX0_wrapped, .instanceMethod yX0_wrapped, .selects RX0 yX0_wrapped yX0_wrapped, .code yX0_wrapped cX0_wrapped 2 (some .int)] ++ wsX00)
def wsX0_byteOf : List Cond := .code yX0_byteOf cX0_byteOf 3 (some .byte) :: ([.fieldLink RX0 13 "PacketStore$Ring" "bytes" "[B", .methodLink RX0 37 yX0_startOf, .instanceMethod yX0_startOf, .selects RX0 yX0_startOf yX0_startOf, .initialized RX0, .code yX0_startOf cX0_startOf 2 (some .int), .fieldLink RX0 17 "PacketStore$Ring" "starts" "[I", .fieldLink RX0 30 "PacketStore$Ring" "oldest" "I", .methodLink RX0 33 yX0_wrapped, .instanceMethod yX0_wrapped, .selects RX0 yX0_wrapped yX0_wrapped, .code yX0_wrapped cX0_wrapped 2 (some .int), .fieldLink RX0 7 "PacketStore$Ring" "room" "I"] ++ wsX00)
def wsX0_copy : List Cond := .code yX0_copy cX0_copy 5 none :: ([.methodLink RX0 43 yX0_byteOf, .instanceMethod yX0_byteOf, .selects RX0 yX0_byteOf yX0_byteOf, .initialized RX0, .code yX0_byteOf cX0_byteOf 3 (some .byte), .fieldLink RX0 13 "PacketStore$Ring" "bytes" "[B", .methodLink RX0 37 yX0_startOf, .instanceMethod yX0_startOf, .selects RX0 yX0_startOf yX0_startOf, .code yX0_startOf cX0_startOf 2 (some .int), .fieldLink RX0 17 "PacketStore$Ring" "starts" "[I", .fieldLink RX0 30 "PacketStore$Ring" "oldest" "I", .methodLink RX0 33 yX0_wrapped, .instanceMethod yX0_wrapped, .selects RX0 yX0_wrapped yX0_wrapped, .code yX0_wrapped cX0_wrapped 2 (some .int), .fieldLink RX0 7 "PacketStore$Ring" "room" "I"] ++ wsX00)
def wsX0_add : List Cond := .code yX0_add cX0_add 6 none :: ([.fieldLink RX0 30 "PacketStore$Ring" "oldest" "I", .fieldLink RX0 24 "PacketStore$Ring" "packets" "I", .fieldLink RX0 17 "PacketStore$Ring" "starts" "[I", .fieldLink RX0 40 "PacketStore$Ring" "end" "I", .fieldLink RX0 21 "PacketStore$Ring" "times" "[I", .fieldLink RX0 13 "PacketStore$Ring" "bytes" "[B", .fieldLink RX0 27 "PacketStore$Ring" "used" "I", .methodLink RX0 33 yX0_wrapped, .instanceMethod yX0_wrapped, .selects RX0 yX0_wrapped yX0_wrapped, .initialized RX0, .code yX0_wrapped cX0_wrapped 2 (some .int), .fieldLink RX0 7 "PacketStore$Ring" "room" "I"] ++ wsX00)
def wsX0_dropOldest : List Cond := .code yX0_dropOldest cX0_dropOldest 1 none :: ([.fieldLink RX0 27 "PacketStore$Ring" "used" "I", .fieldLink RX0 30 "PacketStore$Ring" "oldest" "I", .fieldLink RX0 24 "PacketStore$Ring" "packets" "I", .methodLink RX0 47 yX0_sizeOf, .instanceMethod yX0_sizeOf, .selects RX0 yX0_sizeOf yX0_sizeOf, .initialized RX0, .code yX0_sizeOf cX0_sizeOf 4 (some .int), .fieldLink RX0 40 "PacketStore$Ring" "end" "I", .fieldLink RX0 7 "PacketStore$Ring" "room" "I", .methodLink RX0 37 yX0_startOf, .instanceMethod yX0_startOf, .selects RX0 yX0_startOf yX0_startOf, .code yX0_startOf cX0_startOf 2 (some .int), .fieldLink RX0 17 "PacketStore$Ring" "starts" "[I", .methodLink RX0 33 yX0_wrapped, .instanceMethod yX0_wrapped, .selects RX0 yX0_wrapped yX0_wrapped, .code yX0_wrapped cX0_wrapped 2 (some .int)] ++ wsX00)
def wsX1_init_r1 : List Cond := [Cond.methodLink RX1 1 objectInit, Cond.instanceMethod objectInit, Cond.code objectInit ⟨#[0xb1]⟩ 1 none, Cond.classLink RX1 7 RX0, Cond.instantiable RX0 8, Cond.initialized RX0, Cond.methodLink RX1 11 Lib.Math.min.name, Cond.static Lib.Math.min.name, Cond.initialized "java/lang/Math", Cond.code Lib.Math.min.name Lib.Math.min.code 2 (some .int), Cond.methodLink RX1 17 Lib.Math.max.name, Cond.static Lib.Math.max.name, Cond.code Lib.Math.max.name Lib.Math.max.code 2 (some .int), Cond.fieldLink RX1 23 "PacketStore" "ring" "LPacketStore$Ring;", Cond.arrayClass .byte, Cond.fieldLink RX1 27 "PacketStore" "text" "[B", Cond.fieldLink RX1 31 "PacketStore" "output" "[B", Cond.methodLink RX1 20 yX0_init, Cond.instanceMethod yX0_init, Cond.code yX0_init cX0_init 2 none, Cond.methodLink RX0 1 objectInit, Cond.fieldLink RX0 7 "PacketStore$Ring" "room" "I", Cond.fieldLink RX0 13 "PacketStore$Ring" "bytes" "[B", Cond.arrayClass .int]
def wsX1_init_r2 : List Cond := [Cond.fieldLink RX0 17 "PacketStore$Ring" "starts" "[I", Cond.fieldLink RX0 21 "PacketStore$Ring" "times" "[I"]
def wsX1_init : List Cond := .code yX1_init cX1_init 2 none :: ((wsX1_init_r1 ++ wsX1_init_r2) ++ wsX00 ++ wsX10)
def wsX1_put : List Cond := .code yX1_put cX1_put 2 (some .int) :: ([.fieldLink RX1 34 "PacketStore" "textSize" "I", .fieldLink RX1 27 "PacketStore" "text" "[B"] ++ wsX10)
def wsX1_dropOldest_r1 : List Cond := [Cond.fieldLink RX1 23 "PacketStore" "ring" "LPacketStore$Ring;", Cond.fieldLink RX1 78 "PacketStore" "passed" "I", Cond.methodLink RX1 105 yX0_dropOldest, Cond.instanceMethod yX0_dropOldest, Cond.selects RX0 yX0_dropOldest yX0_dropOldest, Cond.initialized RX0, Cond.code yX0_dropOldest cX0_dropOldest 1 none, Cond.fieldLink RX0 27 "PacketStore$Ring" "used" "I", Cond.fieldLink RX0 30 "PacketStore$Ring" "oldest" "I", Cond.fieldLink RX0 24 "PacketStore$Ring" "packets" "I", Cond.methodLink RX0 47 yX0_sizeOf, Cond.instanceMethod yX0_sizeOf, Cond.selects RX0 yX0_sizeOf yX0_sizeOf, Cond.code yX0_sizeOf cX0_sizeOf 4 (some .int), Cond.fieldLink RX0 40 "PacketStore$Ring" "end" "I", Cond.fieldLink RX0 7 "PacketStore$Ring" "room" "I", Cond.methodLink RX0 37 yX0_startOf, Cond.instanceMethod yX0_startOf, Cond.selects RX0 yX0_startOf yX0_startOf, Cond.code yX0_startOf cX0_startOf 2 (some .int), Cond.fieldLink RX0 17 "PacketStore$Ring" "starts" "[I", Cond.methodLink RX0 33 yX0_wrapped, Cond.instanceMethod yX0_wrapped, Cond.selects RX0 yX0_wrapped yX0_wrapped]
def wsX1_dropOldest_r2 : List Cond := [Cond.code yX0_wrapped cX0_wrapped 2 (some .int)]
def wsX1_dropOldest : List Cond := .code yX1_dropOldest cX1_dropOldest 1 none :: ((wsX1_dropOldest_r1 ++ wsX1_dropOldest_r2) ++ wsX10 ++ wsX00)
def wsX1_makeRoom_r1 : List Cond := [Cond.fieldLink RX1 23 "PacketStore" "ring" "LPacketStore$Ring;", Cond.methodLink RX1 56 yX0_packets, Cond.instanceMethod yX0_packets, Cond.selects RX0 yX0_packets yX0_packets, Cond.initialized RX0, Cond.code yX0_packets cX0_packets 1 (some .int), Cond.fieldLink RX0 24 "PacketStore$Ring" "packets" "I", Cond.methodLink RX1 94 yX0_used, Cond.instanceMethod yX0_used, Cond.selects RX0 yX0_used yX0_used, Cond.code yX0_used cX0_used 1 (some .int), Cond.fieldLink RX0 27 "PacketStore$Ring" "used" "I", Cond.methodLink RX1 38 yX0_room, Cond.instanceMethod yX0_room, Cond.selects RX0 yX0_room yX0_room, Cond.code yX0_room cX0_room 1 (some .int), Cond.fieldLink RX0 7 "PacketStore$Ring" "room" "I", Cond.methodLink RX1 62 yX1_dropOldest, Cond.instanceMethod yX1_dropOldest, Cond.selects RX1 yX1_dropOldest yX1_dropOldest, Cond.initialized RX1, Cond.code yX1_dropOldest cX1_dropOldest 1 none, Cond.fieldLink RX1 78 "PacketStore" "passed" "I", Cond.methodLink RX1 105 yX0_dropOldest]
def wsX1_makeRoom_r2 : List Cond := [Cond.instanceMethod yX0_dropOldest, Cond.selects RX0 yX0_dropOldest yX0_dropOldest, Cond.code yX0_dropOldest cX0_dropOldest 1 none, Cond.fieldLink RX0 30 "PacketStore$Ring" "oldest" "I", Cond.methodLink RX0 47 yX0_sizeOf, Cond.instanceMethod yX0_sizeOf, Cond.selects RX0 yX0_sizeOf yX0_sizeOf, Cond.code yX0_sizeOf cX0_sizeOf 4 (some .int), Cond.fieldLink RX0 40 "PacketStore$Ring" "end" "I", Cond.methodLink RX0 37 yX0_startOf, Cond.instanceMethod yX0_startOf, Cond.selects RX0 yX0_startOf yX0_startOf, Cond.code yX0_startOf cX0_startOf 2 (some .int), Cond.fieldLink RX0 17 "PacketStore$Ring" "starts" "[I", Cond.methodLink RX0 33 yX0_wrapped, Cond.instanceMethod yX0_wrapped, Cond.selects RX0 yX0_wrapped yX0_wrapped, Cond.code yX0_wrapped cX0_wrapped 2 (some .int)]
def wsX1_makeRoom : List Cond := .code yX1_makeRoom cX1_makeRoom 4 (some .int) :: ((wsX1_makeRoom_r1 ++ wsX1_makeRoom_r2) ++ wsX10 ++ wsX00)
def wsX1_keep_r1 : List Cond := [Cond.fieldLink RX1 34 "PacketStore" "textSize" "I", Cond.fieldLink RX1 23 "PacketStore" "ring" "LPacketStore$Ring;", Cond.fieldLink RX1 27 "PacketStore" "text" "[B", Cond.fieldLink RX1 50 "PacketStore" "drivenOut" "I", Cond.fieldLink RX1 53 "PacketStore" "come" "I", Cond.methodLink RX1 38 yX0_room, Cond.instanceMethod yX0_room, Cond.selects RX0 yX0_room yX0_room, Cond.initialized RX0, Cond.code yX0_room cX0_room 1 (some .int), Cond.fieldLink RX0 7 "PacketStore$Ring" "room" "I", Cond.methodLink RX1 42 yX1_makeRoom, Cond.instanceMethod yX1_makeRoom, Cond.selects RX1 yX1_makeRoom yX1_makeRoom, Cond.initialized RX1, Cond.code yX1_makeRoom cX1_makeRoom 4 (some .int), Cond.methodLink RX1 56 yX0_packets, Cond.instanceMethod yX0_packets, Cond.selects RX0 yX0_packets yX0_packets, Cond.code yX0_packets cX0_packets 1 (some .int), Cond.fieldLink RX0 24 "PacketStore$Ring" "packets" "I", Cond.methodLink RX1 94 yX0_used, Cond.instanceMethod yX0_used, Cond.selects RX0 yX0_used yX0_used]
def wsX1_keep_r2 : List Cond := [Cond.code yX0_used cX0_used 1 (some .int), Cond.fieldLink RX0 27 "PacketStore$Ring" "used" "I", Cond.methodLink RX1 62 yX1_dropOldest, Cond.instanceMethod yX1_dropOldest, Cond.selects RX1 yX1_dropOldest yX1_dropOldest, Cond.code yX1_dropOldest cX1_dropOldest 1 none, Cond.fieldLink RX1 78 "PacketStore" "passed" "I", Cond.methodLink RX1 105 yX0_dropOldest, Cond.instanceMethod yX0_dropOldest, Cond.selects RX0 yX0_dropOldest yX0_dropOldest, Cond.code yX0_dropOldest cX0_dropOldest 1 none, Cond.fieldLink RX0 30 "PacketStore$Ring" "oldest" "I", Cond.methodLink RX0 47 yX0_sizeOf, Cond.instanceMethod yX0_sizeOf, Cond.selects RX0 yX0_sizeOf yX0_sizeOf, Cond.code yX0_sizeOf cX0_sizeOf 4 (some .int), Cond.fieldLink RX0 40 "PacketStore$Ring" "end" "I", Cond.methodLink RX0 37 yX0_startOf, Cond.instanceMethod yX0_startOf, Cond.selects RX0 yX0_startOf yX0_startOf, Cond.code yX0_startOf cX0_startOf 2 (some .int), Cond.fieldLink RX0 17 "PacketStore$Ring" "starts" "[I", Cond.methodLink RX0 33 yX0_wrapped, Cond.instanceMethod yX0_wrapped]
def wsX1_keep_r3 : List Cond := [Cond.selects RX0 yX0_wrapped yX0_wrapped, Cond.code yX0_wrapped cX0_wrapped 2 (some .int), Cond.methodLink RX1 46 yX0_add, Cond.instanceMethod yX0_add, Cond.selects RX0 yX0_add yX0_add, Cond.code yX0_add cX0_add 6 none, Cond.fieldLink RX0 21 "PacketStore$Ring" "times" "[I", Cond.fieldLink RX0 13 "PacketStore$Ring" "bytes" "[B"]
def wsX1_keep : List Cond := .code yX1_keep cX1_keep 4 (some .int) :: ((wsX1_keep_r1 ++ (wsX1_keep_r2 ++ wsX1_keep_r3)) ++ wsX10 ++ wsX00)
def wsX1_delete_r1 : List Cond := [Cond.fieldLink RX1 23 "PacketStore" "ring" "LPacketStore$Ring;", Cond.fieldLink RX1 65 "PacketStore" "deleted" "I", Cond.methodLink RX1 56 yX0_packets, Cond.instanceMethod yX0_packets, Cond.selects RX0 yX0_packets yX0_packets, Cond.initialized RX0, Cond.code yX0_packets cX0_packets 1 (some .int), Cond.fieldLink RX0 24 "PacketStore$Ring" "packets" "I", Cond.methodLink RX1 59 yX0_timeOf, Cond.instanceMethod yX0_timeOf, Cond.selects RX0 yX0_timeOf yX0_timeOf, Cond.code yX0_timeOf cX0_timeOf 2 (some .int), Cond.fieldLink RX0 21 "PacketStore$Ring" "times" "[I", Cond.fieldLink RX0 30 "PacketStore$Ring" "oldest" "I", Cond.methodLink RX0 33 yX0_wrapped, Cond.instanceMethod yX0_wrapped, Cond.selects RX0 yX0_wrapped yX0_wrapped, Cond.code yX0_wrapped cX0_wrapped 2 (some .int), Cond.fieldLink RX0 7 "PacketStore$Ring" "room" "I", Cond.methodLink RX1 62 yX1_dropOldest, Cond.instanceMethod yX1_dropOldest, Cond.selects RX1 yX1_dropOldest yX1_dropOldest, Cond.initialized RX1, Cond.code yX1_dropOldest cX1_dropOldest 1 none]
def wsX1_delete_r2 : List Cond := [Cond.fieldLink RX1 78 "PacketStore" "passed" "I", Cond.methodLink RX1 105 yX0_dropOldest, Cond.instanceMethod yX0_dropOldest, Cond.selects RX0 yX0_dropOldest yX0_dropOldest, Cond.code yX0_dropOldest cX0_dropOldest 1 none, Cond.fieldLink RX0 27 "PacketStore$Ring" "used" "I", Cond.methodLink RX0 47 yX0_sizeOf, Cond.instanceMethod yX0_sizeOf, Cond.selects RX0 yX0_sizeOf yX0_sizeOf, Cond.code yX0_sizeOf cX0_sizeOf 4 (some .int), Cond.fieldLink RX0 40 "PacketStore$Ring" "end" "I", Cond.methodLink RX0 37 yX0_startOf, Cond.instanceMethod yX0_startOf, Cond.selects RX0 yX0_startOf yX0_startOf, Cond.code yX0_startOf cX0_startOf 2 (some .int), Cond.fieldLink RX0 17 "PacketStore$Ring" "starts" "[I"]
def wsX1_delete : List Cond := .code yX1_delete cX1_delete 4 (some .int) :: ((wsX1_delete_r1 ++ wsX1_delete_r2) ++ wsX10 ++ wsX00)
def wsX1_begin : List Cond := .code yX1_begin cX1_begin 3 (some .boolean) :: ([.fieldLink RX1 68 "PacketStore" "underWay" "Z", .fieldLink RX1 72 "PacketStore" "from" "I", .fieldLink RX1 75 "PacketStore" "to" "I", .fieldLink RX1 78 "PacketStore" "passed" "I"] ++ wsX10)
def wsX1_stop : List Cond := .code yX1_stop cX1_stop 2 (some .boolean) :: ([.fieldLink RX1 68 "PacketStore" "underWay" "Z"] ++ wsX10)
def wsX1_isWanted : List Cond := .code yX1_isWanted cX1_isWanted 2 (some .boolean) :: ([.fieldLink RX1 72 "PacketStore" "from" "I", .fieldLink RX1 75 "PacketStore" "to" "I"] ++ wsX10)
def wsX1_passUnwanted_r1 : List Cond := [Cond.fieldLink RX1 78 "PacketStore" "passed" "I", Cond.fieldLink RX1 23 "PacketStore" "ring" "LPacketStore$Ring;", Cond.methodLink RX1 56 yX0_packets, Cond.instanceMethod yX0_packets, Cond.selects RX0 yX0_packets yX0_packets, Cond.initialized RX0, Cond.code yX0_packets cX0_packets 1 (some .int), Cond.fieldLink RX0 24 "PacketStore$Ring" "packets" "I", Cond.methodLink RX1 59 yX0_timeOf, Cond.instanceMethod yX0_timeOf, Cond.selects RX0 yX0_timeOf yX0_timeOf, Cond.code yX0_timeOf cX0_timeOf 2 (some .int), Cond.fieldLink RX0 21 "PacketStore$Ring" "times" "[I", Cond.fieldLink RX0 30 "PacketStore$Ring" "oldest" "I", Cond.methodLink RX0 33 yX0_wrapped, Cond.instanceMethod yX0_wrapped, Cond.selects RX0 yX0_wrapped yX0_wrapped, Cond.code yX0_wrapped cX0_wrapped 2 (some .int), Cond.fieldLink RX0 7 "PacketStore$Ring" "room" "I", Cond.methodLink RX1 106 yX1_isWanted, Cond.instanceMethod yX1_isWanted, Cond.selects RX1 yX1_isWanted yX1_isWanted, Cond.initialized RX1, Cond.code yX1_isWanted cX1_isWanted 2 (some .boolean)]
def wsX1_passUnwanted_r2 : List Cond := [Cond.fieldLink RX1 72 "PacketStore" "from" "I", Cond.fieldLink RX1 75 "PacketStore" "to" "I"]
def wsX1_passUnwanted : List Cond := .code yX1_passUnwanted cX1_passUnwanted 1 none :: ((wsX1_passUnwanted_r1 ++ wsX1_passUnwanted_r2) ++ wsX10 ++ wsX00)
def wsX1_next_r1 : List Cond := [Cond.fieldLink RX1 68 "PacketStore" "underWay" "Z", Cond.fieldLink RX1 78 "PacketStore" "passed" "I", Cond.fieldLink RX1 23 "PacketStore" "ring" "LPacketStore$Ring;", Cond.fieldLink RX1 31 "PacketStore" "output" "[B", Cond.fieldLink RX1 91 "PacketStore" "outputSize" "I", Cond.methodLink RX1 81 yX1_passUnwanted, Cond.instanceMethod yX1_passUnwanted, Cond.selects RX1 yX1_passUnwanted yX1_passUnwanted, Cond.initialized RX1, Cond.code yX1_passUnwanted cX1_passUnwanted 1 none, Cond.methodLink RX1 56 yX0_packets, Cond.instanceMethod yX0_packets, Cond.selects RX0 yX0_packets yX0_packets, Cond.initialized RX0, Cond.code yX0_packets cX0_packets 1 (some .int), Cond.fieldLink RX0 24 "PacketStore$Ring" "packets" "I", Cond.methodLink RX1 59 yX0_timeOf, Cond.instanceMethod yX0_timeOf, Cond.selects RX0 yX0_timeOf yX0_timeOf, Cond.code yX0_timeOf cX0_timeOf 2 (some .int), Cond.fieldLink RX0 21 "PacketStore$Ring" "times" "[I", Cond.fieldLink RX0 30 "PacketStore$Ring" "oldest" "I", Cond.methodLink RX0 33 yX0_wrapped, Cond.instanceMethod yX0_wrapped]
def wsX1_next_r2 : List Cond := [Cond.selects RX0 yX0_wrapped yX0_wrapped, Cond.code yX0_wrapped cX0_wrapped 2 (some .int), Cond.fieldLink RX0 7 "PacketStore$Ring" "room" "I", Cond.methodLink RX1 106 yX1_isWanted, Cond.instanceMethod yX1_isWanted, Cond.selects RX1 yX1_isWanted yX1_isWanted, Cond.code yX1_isWanted cX1_isWanted 2 (some .boolean), Cond.fieldLink RX1 72 "PacketStore" "from" "I", Cond.fieldLink RX1 75 "PacketStore" "to" "I", Cond.methodLink RX1 84 yX0_sizeOf, Cond.instanceMethod yX0_sizeOf, Cond.selects RX0 yX0_sizeOf yX0_sizeOf, Cond.code yX0_sizeOf cX0_sizeOf 4 (some .int), Cond.fieldLink RX0 40 "PacketStore$Ring" "end" "I", Cond.methodLink RX0 37 yX0_startOf, Cond.instanceMethod yX0_startOf, Cond.selects RX0 yX0_startOf yX0_startOf, Cond.code yX0_startOf cX0_startOf 2 (some .int), Cond.fieldLink RX0 17 "PacketStore$Ring" "starts" "[I", Cond.methodLink RX1 87 yX0_copy, Cond.instanceMethod yX0_copy, Cond.selects RX0 yX0_copy yX0_copy, Cond.code yX0_copy cX0_copy 5 none, Cond.methodLink RX0 43 yX0_byteOf]
def wsX1_next_r3 : List Cond := [Cond.instanceMethod yX0_byteOf, Cond.selects RX0 yX0_byteOf yX0_byteOf, Cond.code yX0_byteOf cX0_byteOf 3 (some .byte), Cond.fieldLink RX0 13 "PacketStore$Ring" "bytes" "[B"]
def wsX1_next : List Cond := .code yX1_next cX1_next 3 (some .int) :: ((wsX1_next_r1 ++ (wsX1_next_r2 ++ wsX1_next_r3)) ++ wsX10 ++ wsX00)
def wsX1_out : List Cond := .code yX1_out cX1_out 2 (some .int) :: ([.fieldLink RX1 91 "PacketStore" "outputSize" "I", .fieldLink RX1 31 "PacketStore" "output" "[B"] ++ wsX10)
def wsX1_count : List Cond := .code yX1_count cX1_count 2 (some .int) :: ([.fieldLink RX1 23 "PacketStore" "ring" "LPacketStore$Ring;", .fieldLink RX1 53 "PacketStore" "come" "I", .fieldLink RX1 50 "PacketStore" "drivenOut" "I", .fieldLink RX1 65 "PacketStore" "deleted" "I", .fieldLink RX1 68 "PacketStore" "underWay" "Z", .fieldLink RX1 91 "PacketStore" "outputSize" "I", .methodLink RX1 56 yX0_packets, .instanceMethod yX0_packets, .selects RX0 yX0_packets yX0_packets, .initialized RX0, .code yX0_packets cX0_packets 1 (some .int), .fieldLink RX0 24 "PacketStore$Ring" "packets" "I", .methodLink RX1 94 yX0_used, .instanceMethod yX0_used, .selects RX0 yX0_used yX0_used, .code yX0_used cX0_used 1 (some .int), .fieldLink RX0 27 "PacketStore$Ring" "used" "I", .methodLink RX1 38 yX0_room, .instanceMethod yX0_room, .selects RX0 yX0_room yX0_room, .code yX0_room cX0_room 1 (some .int), .fieldLink RX0 7 "PacketStore$Ring" "room" "I"] ++ wsX10 ++ wsX00)
def wsX1_about_r1 : List Cond := [Cond.fieldLink RX1 23 "PacketStore" "ring" "LPacketStore$Ring;", Cond.methodLink RX1 97 yX0_has, Cond.instanceMethod yX0_has, Cond.selects RX0 yX0_has yX0_has, Cond.initialized RX0, Cond.code yX0_has cX0_has 2 (some .boolean), Cond.fieldLink RX0 24 "PacketStore$Ring" "packets" "I", Cond.methodLink RX1 59 yX0_timeOf, Cond.instanceMethod yX0_timeOf, Cond.selects RX0 yX0_timeOf yX0_timeOf, Cond.code yX0_timeOf cX0_timeOf 2 (some .int), Cond.fieldLink RX0 21 "PacketStore$Ring" "times" "[I", Cond.fieldLink RX0 30 "PacketStore$Ring" "oldest" "I", Cond.methodLink RX0 33 yX0_wrapped, Cond.instanceMethod yX0_wrapped, Cond.selects RX0 yX0_wrapped yX0_wrapped, Cond.code yX0_wrapped cX0_wrapped 2 (some .int), Cond.fieldLink RX0 7 "PacketStore$Ring" "room" "I", Cond.methodLink RX1 84 yX0_sizeOf, Cond.instanceMethod yX0_sizeOf, Cond.selects RX0 yX0_sizeOf yX0_sizeOf, Cond.code yX0_sizeOf cX0_sizeOf 4 (some .int), Cond.fieldLink RX0 40 "PacketStore$Ring" "end" "I", Cond.methodLink RX0 37 yX0_startOf]
def wsX1_about_r2 : List Cond := [Cond.instanceMethod yX0_startOf, Cond.selects RX0 yX0_startOf yX0_startOf, Cond.code yX0_startOf cX0_startOf 2 (some .int), Cond.fieldLink RX0 17 "PacketStore$Ring" "starts" "[I"]
def wsX1_about : List Cond := .code yX1_about cX1_about 3 (some .int) :: ((wsX1_about_r1 ++ wsX1_about_r2) ++ wsX10 ++ wsX00)
def wsX1_byteAt_r1 : List Cond := [Cond.fieldLink RX1 23 "PacketStore" "ring" "LPacketStore$Ring;", Cond.methodLink RX1 97 yX0_has, Cond.instanceMethod yX0_has, Cond.selects RX0 yX0_has yX0_has, Cond.initialized RX0, Cond.code yX0_has cX0_has 2 (some .boolean), Cond.fieldLink RX0 24 "PacketStore$Ring" "packets" "I", Cond.methodLink RX1 84 yX0_sizeOf, Cond.instanceMethod yX0_sizeOf, Cond.selects RX0 yX0_sizeOf yX0_sizeOf, Cond.code yX0_sizeOf cX0_sizeOf 4 (some .int), Cond.fieldLink RX0 40 "PacketStore$Ring" "end" "I", Cond.fieldLink RX0 7 "PacketStore$Ring" "room" "I", Cond.methodLink RX0 37 yX0_startOf, Cond.instanceMethod yX0_startOf, Cond.selects RX0 yX0_startOf yX0_startOf, Cond.code yX0_startOf cX0_startOf 2 (some .int), Cond.fieldLink RX0 17 "PacketStore$Ring" "starts" "[I", Cond.fieldLink RX0 30 "PacketStore$Ring" "oldest" "I", Cond.methodLink RX0 33 yX0_wrapped, Cond.instanceMethod yX0_wrapped, Cond.selects RX0 yX0_wrapped yX0_wrapped, Cond.code yX0_wrapped cX0_wrapped 2 (some .int), Cond.methodLink RX1 101 yX0_byteOf]
def wsX1_byteAt_r2 : List Cond := [Cond.instanceMethod yX0_byteOf, Cond.selects RX0 yX0_byteOf yX0_byteOf, Cond.code yX0_byteOf cX0_byteOf 3 (some .byte), Cond.fieldLink RX0 13 "PacketStore$Ring" "bytes" "[B"]
def wsX1_byteAt : List Cond := .code yX1_byteAt cX1_byteAt 3 (some .int) :: ((wsX1_byteAt_r1 ++ wsX1_byteAt_r2) ++ wsX10 ++ wsX00)
def wsL_cell : List Cond := .code yL_cell cL_cell 2 (some .int) :: ([])
set_option maxRecDepth 20000 in
theorem ggX0_timeOf_X0_wrapped : GoodIn wsX0_timeOf wsX0_wrapped := goodIn_r _ [7, 8, 9, 10, 11, 12, 13, 14, 15, 16] (by decide +kernel) (by decide +kernel)
set_option maxRecDepth 20000 in
theorem gX0_timeOf_X0_wrapped : GoodIn wsX0_timeOf (wsV RX0 33 RX0 yX0_wrapped wsX0_wrapped) := goodIn_app (goodIn_of _ (by decide +kernel)) ggX0_timeOf_X0_wrapped
set_option maxRecDepth 20000 in
theorem ggX0_sizeOf_X0_startOf : GoodIn wsX0_sizeOf wsX0_startOf := goodIn_r _ [8, 9, 10, 11, 12, 13, 7, 14, 3, 15, 16, 17, 18, 19, 20, 21, 22] (by decide +kernel) (by decide +kernel)
set_option maxRecDepth 20000 in
theorem gX0_sizeOf_X0_startOf : GoodIn wsX0_sizeOf (wsV RX0 37 RX0 yX0_startOf wsX0_startOf) := goodIn_app (goodIn_of _ (by decide +kernel)) ggX0_sizeOf_X0_startOf
set_option maxRecDepth 20000 in
theorem ggX0_byteOf_X0_startOf : GoodIn wsX0_byteOf wsX0_startOf := goodIn_r _ [6, 7, 8, 9, 10, 11, 5, 12, 13, 14, 15, 16, 17, 18, 19, 20, 21] (by decide +kernel) (by decide +kernel)
set_option maxRecDepth 20000 in
theorem gX0_byteOf_X0_startOf : GoodIn wsX0_byteOf (wsV RX0 37 RX0 yX0_startOf wsX0_startOf) := goodIn_app (goodIn_of _ (by decide +kernel)) ggX0_byteOf_X0_startOf
set_option maxRecDepth 20000 in
theorem ggX0_byteOf_X0_wrapped : GoodIn wsX0_byteOf wsX0_wrapped := goodIn_r _ [12, 13, 14, 15, 16, 17, 18, 19, 20, 21] (by decide +kernel) (by decide +kernel)
set_option maxRecDepth 20000 in
theorem gX0_byteOf_X0_wrapped : GoodIn wsX0_byteOf (wsV RX0 33 RX0 yX0_wrapped wsX0_wrapped) := goodIn_app (goodIn_of _ (by decide +kernel)) ggX0_byteOf_X0_wrapped
set_option maxRecDepth 20000 in
theorem ggX0_copy_X0_byteOf : GoodIn wsX0_copy wsX0_byteOf := goodIn_r _ [5, 6, 7, 8, 9, 4, 10, 11, 12, 13, 14, 15, 16, 17, 18, 19, 20, 21, 22, 23, 24, 25] (by decide +kernel) (by decide +kernel)
set_option maxRecDepth 20000 in
theorem gX0_copy_X0_byteOf : GoodIn wsX0_copy (wsV RX0 43 RX0 yX0_byteOf wsX0_byteOf) := goodIn_app (goodIn_of _ (by decide +kernel)) ggX0_copy_X0_byteOf
set_option maxRecDepth 20000 in
theorem ggX0_add_X0_wrapped : GoodIn wsX0_add wsX0_wrapped := goodIn_r _ [12, 13, 14, 15, 16, 17, 18, 19, 20, 21] (by decide +kernel) (by decide +kernel)
set_option maxRecDepth 20000 in
theorem gX0_add_X0_wrapped : GoodIn wsX0_add (wsV RX0 33 RX0 yX0_wrapped wsX0_wrapped) := goodIn_app (goodIn_of _ (by decide +kernel)) ggX0_add_X0_wrapped
set_option maxRecDepth 20000 in
theorem ggX0_dropOldest_X0_sizeOf : GoodIn wsX0_dropOldest wsX0_sizeOf := goodIn_r _ [8, 3, 9, 10, 11, 12, 13, 7, 14, 15, 2, 16, 17, 18, 19, 20, 21, 22, 23, 24, 25, 26, 27] (by decide +kernel) (by decide +kernel)
set_option maxRecDepth 20000 in
theorem gX0_dropOldest_X0_sizeOf : GoodIn wsX0_dropOldest (wsV RX0 47 RX0 yX0_sizeOf wsX0_sizeOf) := goodIn_app (goodIn_of _ (by decide +kernel)) ggX0_dropOldest_X0_sizeOf
set_option maxRecDepth 20000 in
theorem ggX0_dropOldest_X0_wrapped : GoodIn wsX0_dropOldest wsX0_wrapped := goodIn_r _ [19, 10, 20, 21, 22, 23, 24, 25, 26, 27] (by decide +kernel) (by decide +kernel)
set_option maxRecDepth 20000 in
theorem gX0_dropOldest_X0_wrapped : GoodIn wsX0_dropOldest (wsV RX0 33 RX0 yX0_wrapped wsX0_wrapped) := goodIn_app (goodIn_of _ (by decide +kernel)) ggX0_dropOldest_X0_wrapped
set_option maxRecDepth 20000 in
theorem ggX0_startOf_X0_wrapped : GoodIn wsX0_startOf wsX0_wrapped := goodIn_r _ [7, 8, 9, 10, 11, 12, 13, 14, 15, 16] (by decide +kernel) (by decide +kernel)
set_option maxRecDepth 20000 in
theorem gX0_startOf_X0_wrapped : GoodIn wsX0_startOf (wsV RX0 33 RX0 yX0_wrapped wsX0_wrapped) := goodIn_app (goodIn_of _ (by decide +kernel)) ggX0_startOf_X0_wrapped
set_option maxRecDepth 20000 in
theorem ggX1_init_X0_init : GoodIn wsX1_init wsX0_init := goodIn_r _ [20, 21, 2, 3, 22, 15, 23, 24, 25, 26, 27, 28, 29, 30, 31, 32, 33, 34] (by decide +kernel) (by decide +kernel)
set_option maxRecDepth 20000 in
theorem gX1_init_X0_init : GoodIn wsX1_init (wsX0_init) := ggX1_init_X0_init
set_option maxRecDepth 20000 in
theorem ggX1_keep_X0_room : GoodIn wsX1_keep wsX0_room := goodIn_r _ [10, 11, 69, 70, 71, 72, 73, 74, 75, 76] (by decide +kernel) (by decide +kernel)
set_option maxRecDepth 20000 in
theorem gX1_keep_X0_room : GoodIn wsX1_keep (wsV RX1 38 RX0 yX0_room wsX0_room) := goodIn_app (goodIn_of _ (by decide +kernel)) ggX1_keep_X0_room
set_option maxRecDepth 20000 in
theorem ggX1_keep_X1_makeRoom : GoodIn wsX1_keep wsX1_makeRoom := goodIn_r _ [16, 2, 17, 18, 19, 9, 20, 21, 22, 23, 24, 25, 26, 6, 7, 8, 10, 11, 27, 28, 29, 15, 30, 31, 32, 33, 34, 35, 36, 37, 38, 39, 40, 41, 42, 43, 44, 45, 46, 47, 48, 49, 50, 57, 58, 59, 60, 61, 62, 63, 64, 65, 66, 67, 68, 69, 70, 71, 72, 73, 74, 75, 76] (by decide +kernel) (by decide +kernel)
set_option maxRecDepth 20000 in
theorem gX1_keep_X1_makeRoom : GoodIn wsX1_keep (wsV RX1 42 RX1 yX1_makeRoom wsX1_makeRoom) := goodIn_app (goodIn_of _ (by decide +kernel)) ggX1_keep_X1_makeRoom
set_option maxRecDepth 20000 in
theorem ggX1_keep_X0_add : GoodIn wsX1_keep wsX0_add := goodIn_r _ [54, 36, 21, 46, 41, 55, 56, 26, 47, 48, 49, 9, 50, 11, 69, 70, 71, 72, 73, 74, 75, 76] (by decide +kernel) (by decide +kernel)
set_option maxRecDepth 20000 in
theorem gX1_keep_X0_add : GoodIn wsX1_keep (wsV RX1 46 RX0 yX0_add wsX0_add) := goodIn_app (goodIn_of _ (by decide +kernel)) ggX1_keep_X0_add
set_option maxRecDepth 20000 in
theorem ggX1_delete_X0_packets : GoodIn wsX1_delete wsX0_packets := goodIn_r _ [7, 8, 53, 54, 55, 56, 57, 58, 59, 60] (by decide +kernel) (by decide +kernel)
set_option maxRecDepth 20000 in
theorem gX1_delete_X0_packets : GoodIn wsX1_delete (wsV RX1 56 RX0 yX0_packets wsX0_packets) := goodIn_app (goodIn_of _ (by decide +kernel)) ggX1_delete_X0_packets
set_option maxRecDepth 20000 in
theorem ggX1_delete_X0_timeOf : GoodIn wsX1_delete wsX0_timeOf := goodIn_r _ [12, 13, 14, 15, 16, 17, 6, 18, 19, 53, 54, 55, 56, 57, 58, 59, 60] (by decide +kernel) (by decide +kernel)
set_option maxRecDepth 20000 in
theorem gX1_delete_X0_timeOf : GoodIn wsX1_delete (wsV RX1 59 RX0 yX0_timeOf wsX0_timeOf) := goodIn_app (goodIn_of _ (by decide +kernel)) ggX1_delete_X0_timeOf
set_option maxRecDepth 20000 in
theorem ggX1_delete_X1_dropOldest : GoodIn wsX1_delete wsX1_dropOldest := goodIn_r _ [24, 1, 25, 26, 27, 28, 6, 29, 30, 14, 8, 31, 32, 33, 34, 35, 19, 36, 37, 38, 39, 40, 15, 16, 17, 18, 41, 42, 43, 44, 45, 46, 47, 48, 49, 50, 51, 52, 53, 54, 55, 56, 57, 58, 59, 60] (by decide +kernel) (by decide +kernel)
set_option maxRecDepth 20000 in
theorem gX1_delete_X1_dropOldest : GoodIn wsX1_delete (wsV RX1 62 RX1 yX1_dropOldest wsX1_dropOldest) := goodIn_app (goodIn_of _ (by decide +kernel)) ggX1_delete_X1_dropOldest
set_option maxRecDepth 20000 in
theorem ggX1_next_X1_passUnwanted : GoodIn wsX1_next wsX1_passUnwanted := goodIn_r _ [10, 2, 3, 11, 12, 13, 14, 15, 16, 17, 18, 19, 20, 21, 22, 23, 24, 25, 26, 27, 28, 29, 30, 9, 31, 32, 33, 53, 54, 55, 56, 57, 58, 59, 60, 61, 62, 63, 64, 65, 66, 67, 68, 69, 70, 71, 72] (by decide +kernel) (by decide +kernel)
set_option maxRecDepth 20000 in
theorem gX1_next_X1_passUnwanted : GoodIn wsX1_next (wsV RX1 81 RX1 yX1_passUnwanted wsX1_passUnwanted) := goodIn_app (goodIn_of _ (by decide +kernel)) ggX1_next_X1_passUnwanted
set_option maxRecDepth 20000 in
theorem ggX1_next_X0_packets : GoodIn wsX1_next wsX0_packets := goodIn_r _ [15, 16, 65, 66, 67, 68, 69, 70, 71, 72] (by decide +kernel) (by decide +kernel)
set_option maxRecDepth 20000 in
theorem gX1_next_X0_packets : GoodIn wsX1_next (wsV RX1 56 RX0 yX0_packets wsX0_packets) := goodIn_app (goodIn_of _ (by decide +kernel)) ggX1_next_X0_packets
set_option maxRecDepth 20000 in
theorem ggX1_next_X0_sizeOf : GoodIn wsX1_next wsX0_sizeOf := goodIn_r _ [37, 16, 38, 27, 39, 40, 41, 14, 42, 43, 22, 23, 24, 25, 26, 65, 66, 67, 68, 69, 70, 71, 72] (by decide +kernel) (by decide +kernel)
set_option maxRecDepth 20000 in
theorem gX1_next_X0_sizeOf : GoodIn wsX1_next (wsV RX1 84 RX0 yX0_sizeOf wsX0_sizeOf) := goodIn_app (goodIn_of _ (by decide +kernel)) ggX1_next_X0_sizeOf
set_option maxRecDepth 20000 in
theorem ggX1_next_X0_copy : GoodIn wsX1_next wsX0_copy := goodIn_r _ [47, 48, 49, 50, 14, 51, 52, 39, 40, 41, 42, 43, 22, 23, 24, 25, 26, 27, 65, 66, 67, 68, 69, 70, 71, 72] (by decide +kernel) (by decide +kernel)
set_option maxRecDepth 20000 in
theorem gX1_next_X0_copy : GoodIn wsX1_next (wsV RX1 87 RX0 yX0_copy wsX0_copy) := goodIn_app (goodIn_of _ (by decide +kernel)) ggX1_next_X0_copy
set_option maxRecDepth 20000 in
theorem ggX1_count_X0_packets : GoodIn wsX1_count wsX0_packets := goodIn_r _ [11, 12, 35, 36, 37, 38, 39, 40, 41, 42] (by decide +kernel) (by decide +kernel)
set_option maxRecDepth 20000 in
theorem gX1_count_X0_packets : GoodIn wsX1_count (wsV RX1 56 RX0 yX0_packets wsX0_packets) := goodIn_app (goodIn_of _ (by decide +kernel)) ggX1_count_X0_packets
set_option maxRecDepth 20000 in
theorem ggX1_count_X0_used : GoodIn wsX1_count wsX0_used := goodIn_r _ [16, 17, 35, 36, 37, 38, 39, 40, 41, 42] (by decide +kernel) (by decide +kernel)
set_option maxRecDepth 20000 in
theorem gX1_count_X0_used : GoodIn wsX1_count (wsV RX1 94 RX0 yX0_used wsX0_used) := goodIn_app (goodIn_of _ (by decide +kernel)) ggX1_count_X0_used
set_option maxRecDepth 20000 in
theorem ggX1_count_X0_room : GoodIn wsX1_count wsX0_room := goodIn_r _ [21, 22, 35, 36, 37, 38, 39, 40, 41, 42] (by decide +kernel) (by decide +kernel)
set_option maxRecDepth 20000 in
theorem gX1_count_X0_room : GoodIn wsX1_count (wsV RX1 38 RX0 yX0_room wsX0_room) := goodIn_app (goodIn_of _ (by decide +kernel)) ggX1_count_X0_room
set_option maxRecDepth 20000 in
theorem ggX1_about_X0_has : GoodIn wsX1_about wsX0_has := goodIn_r _ [6, 7, 41, 42, 43, 44, 45, 46, 47, 48] (by decide +kernel) (by decide +kernel)
set_option maxRecDepth 20000 in
theorem gX1_about_X0_has : GoodIn wsX1_about (wsV RX1 97 RX0 yX0_has wsX0_has) := goodIn_app (goodIn_of _ (by decide +kernel)) ggX1_about_X0_has
set_option maxRecDepth 20000 in
theorem ggX1_about_X0_timeOf : GoodIn wsX1_about wsX0_timeOf := goodIn_r _ [11, 12, 13, 14, 15, 16, 5, 17, 18, 41, 42, 43, 44, 45, 46, 47, 48] (by decide +kernel) (by decide +kernel)
set_option maxRecDepth 20000 in
theorem gX1_about_X0_timeOf : GoodIn wsX1_about (wsV RX1 59 RX0 yX0_timeOf wsX0_timeOf) := goodIn_app (goodIn_of _ (by decide +kernel)) ggX1_about_X0_timeOf
set_option maxRecDepth 20000 in
theorem ggX1_about_X0_sizeOf : GoodIn wsX1_about wsX0_sizeOf := goodIn_r _ [22, 7, 23, 18, 24, 25, 26, 5, 27, 28, 13, 14, 15, 16, 17, 41, 42, 43, 44, 45, 46, 47, 48] (by decide +kernel) (by decide +kernel)
set_option maxRecDepth 20000 in
theorem gX1_about_X0_sizeOf : GoodIn wsX1_about (wsV RX1 84 RX0 yX0_sizeOf wsX0_sizeOf) := goodIn_app (goodIn_of _ (by decide +kernel)) ggX1_about_X0_sizeOf
set_option maxRecDepth 20000 in
theorem ggX1_byteAt_X0_has : GoodIn wsX1_byteAt wsX0_has := goodIn_r _ [6, 7, 41, 42, 43, 44, 45, 46, 47, 48] (by decide +kernel) (by decide +kernel)
set_option maxRecDepth 20000 in
theorem gX1_byteAt_X0_has : GoodIn wsX1_byteAt (wsV RX1 97 RX0 yX0_has wsX0_has) := goodIn_app (goodIn_of _ (by decide +kernel)) ggX1_byteAt_X0_has
set_option maxRecDepth 20000 in
theorem ggX1_byteAt_X0_sizeOf : GoodIn wsX1_byteAt wsX0_sizeOf := goodIn_r _ [11, 7, 12, 13, 14, 15, 16, 5, 17, 18, 19, 20, 21, 22, 23, 41, 42, 43, 44, 45, 46, 47, 48] (by decide +kernel) (by decide +kernel)
set_option maxRecDepth 20000 in
theorem gX1_byteAt_X0_sizeOf : GoodIn wsX1_byteAt (wsV RX1 84 RX0 yX0_sizeOf wsX0_sizeOf) := goodIn_app (goodIn_of _ (by decide +kernel)) ggX1_byteAt_X0_sizeOf
set_option maxRecDepth 20000 in
theorem ggX1_byteAt_X0_byteOf : GoodIn wsX1_byteAt wsX0_byteOf := goodIn_r _ [27, 28, 14, 15, 16, 5, 17, 18, 19, 20, 21, 22, 23, 13, 41, 42, 43, 44, 45, 46, 47, 48] (by decide +kernel) (by decide +kernel)
set_option maxRecDepth 20000 in
theorem gX1_byteAt_X0_byteOf : GoodIn wsX1_byteAt (wsV RX1 101 RX0 yX0_byteOf wsX0_byteOf) := goodIn_app (goodIn_of _ (by decide +kernel)) ggX1_byteAt_X0_byteOf
set_option maxRecDepth 20000 in
theorem ggX1_makeRoom_X0_packets : GoodIn wsX1_makeRoom wsX0_packets := goodIn_r _ [6, 7, 55, 56, 57, 58, 59, 60, 61, 62] (by decide +kernel) (by decide +kernel)
set_option maxRecDepth 20000 in
theorem gX1_makeRoom_X0_packets : GoodIn wsX1_makeRoom (wsV RX1 56 RX0 yX0_packets wsX0_packets) := goodIn_app (goodIn_of _ (by decide +kernel)) ggX1_makeRoom_X0_packets
set_option maxRecDepth 20000 in
theorem ggX1_makeRoom_X0_used : GoodIn wsX1_makeRoom wsX0_used := goodIn_r _ [11, 12, 55, 56, 57, 58, 59, 60, 61, 62] (by decide +kernel) (by decide +kernel)
set_option maxRecDepth 20000 in
theorem gX1_makeRoom_X0_used : GoodIn wsX1_makeRoom (wsV RX1 94 RX0 yX0_used wsX0_used) := goodIn_app (goodIn_of _ (by decide +kernel)) ggX1_makeRoom_X0_used
set_option maxRecDepth 20000 in
theorem ggX1_makeRoom_X0_room : GoodIn wsX1_makeRoom wsX0_room := goodIn_r _ [16, 17, 55, 56, 57, 58, 59, 60, 61, 62] (by decide +kernel) (by decide +kernel)
set_option maxRecDepth 20000 in
theorem gX1_makeRoom_X0_room : GoodIn wsX1_makeRoom (wsV RX1 38 RX0 yX0_room wsX0_room) := goodIn_app (goodIn_of _ (by decide +kernel)) ggX1_makeRoom_X0_room
set_option maxRecDepth 20000 in
theorem ggX1_makeRoom_X1_dropOldest : GoodIn wsX1_makeRoom wsX1_dropOldest := goodIn_r _ [22, 1, 23, 24, 25, 26, 5, 27, 12, 28, 7, 29, 30, 31, 32, 33, 17, 34, 35, 36, 37, 38, 39, 40, 41, 42, 43, 44, 45, 46, 47, 48, 49, 50, 51, 52, 53, 54, 55, 56, 57, 58, 59, 60, 61, 62] (by decide +kernel) (by decide +kernel)
set_option maxRecDepth 20000 in
theorem gX1_makeRoom_X1_dropOldest : GoodIn wsX1_makeRoom (wsV RX1 62 RX1 yX1_dropOldest wsX1_dropOldest) := goodIn_app (goodIn_of _ (by decide +kernel)) ggX1_makeRoom_X1_dropOldest
set_option maxRecDepth 20000 in
theorem ggX1_dropOldest_X0_dropOldest : GoodIn wsX1_dropOldest wsX0_dropOldest := goodIn_r _ [7, 8, 9, 10, 11, 12, 13, 6, 14, 15, 16, 17, 18, 19, 20, 21, 22, 23, 24, 25, 38, 39, 40, 41, 42, 43, 44, 45] (by decide +kernel) (by decide +kernel)
set_option maxRecDepth 20000 in
theorem gX1_dropOldest_X0_dropOldest : GoodIn wsX1_dropOldest (wsV RX1 105 RX0 yX0_dropOldest wsX0_dropOldest) := goodIn_app (goodIn_of _ (by decide +kernel)) ggX1_dropOldest_X0_dropOldest
set_option maxRecDepth 20000 in
theorem ggX1_passUnwanted_X0_packets : GoodIn wsX1_passUnwanted wsX0_packets := goodIn_r _ [7, 8, 39, 40, 41, 42, 43, 44, 45, 46] (by decide +kernel) (by decide +kernel)
set_option maxRecDepth 20000 in
theorem gX1_passUnwanted_X0_packets : GoodIn wsX1_passUnwanted (wsV RX1 56 RX0 yX0_packets wsX0_packets) := goodIn_app (goodIn_of _ (by decide +kernel)) ggX1_passUnwanted_X0_packets
set_option maxRecDepth 20000 in
theorem ggX1_passUnwanted_X0_timeOf : GoodIn wsX1_passUnwanted wsX0_timeOf := goodIn_r _ [12, 13, 14, 15, 16, 17, 6, 18, 19, 39, 40, 41, 42, 43, 44, 45, 46] (by decide +kernel) (by decide +kernel)
set_option maxRecDepth 20000 in
theorem gX1_passUnwanted_X0_timeOf : GoodIn wsX1_passUnwanted (wsV RX1 59 RX0 yX0_timeOf wsX0_timeOf) := goodIn_app (goodIn_of _ (by decide +kernel)) ggX1_passUnwanted_X0_timeOf
set_option maxRecDepth 20000 in
theorem ggX1_passUnwanted_X1_isWanted : GoodIn wsX1_passUnwanted wsX1_isWanted := goodIn_r _ [24, 25, 26, 27, 28, 29, 30, 31, 32, 33, 34, 35, 36, 37, 38] (by decide +kernel) (by decide +kernel)
set_option maxRecDepth 20000 in
theorem gX1_passUnwanted_X1_isWanted : GoodIn wsX1_passUnwanted (wsV RX1 106 RX1 yX1_isWanted wsX1_isWanted) := goodIn_app (goodIn_of _ (by decide +kernel)) ggX1_passUnwanted_X1_isWanted
end
section
theorem dX0_init_0 : decode cX0_init 0 = .ok (.aload_n 0, 1) := by decide +kernel
theorem dX0_init_1 : decode cX0_init 1 = .ok (.invokespecial 1, 3) := by decide +kernel
theorem dX0_init_4 : decode cX0_init 4 = .ok (.aload_n 0, 1) := by decide +kernel
theorem dX0_init_5 : decode cX0_init 5 = .ok (.iload_n 1, 1) := by decide +kernel
theorem dX0_init_6 : decode cX0_init 6 = .ok (.putfield 7, 3) := by decide +kernel
theorem dX0_init_9 : decode cX0_init 9 = .ok (.aload_n 0, 1) := by decide +kernel
theorem dX0_init_10 : decode cX0_init 10 = .ok (.iload_n 1, 1) := by decide +kernel
theorem dX0_init_11 : decode cX0_init 11 = .ok (.newarray .byte, 2) := by decide +kernel
theorem dX0_init_13 : decode cX0_init 13 = .ok (.putfield 13, 3) := by decide +kernel
theorem dX0_init_16 : decode cX0_init 16 = .ok (.aload_n 0, 1) := by decide +kernel
theorem dX0_init_17 : decode cX0_init 17 = .ok (.iload_n 1, 1) := by decide +kernel
theorem dX0_init_18 : decode cX0_init 18 = .ok (.newarray .int, 2) := by decide +kernel
theorem dX0_init_20 : decode cX0_init 20 = .ok (.putfield 17, 3) := by decide +kernel
theorem dX0_init_23 : decode cX0_init 23 = .ok (.aload_n 0, 1) := by decide +kernel
theorem dX0_init_24 : decode cX0_init 24 = .ok (.iload_n 1, 1) := by decide +kernel
theorem dX0_init_25 : decode cX0_init 25 = .ok (.newarray .int, 2) := by decide +kernel
theorem dX0_init_27 : decode cX0_init 27 = .ok (.putfield 21, 3) := by decide +kernel
theorem dX0_init_30 : decode cX0_init 30 = .ok (.return_, 1) := by decide +kernel
theorem dX0_room_0 : decode cX0_room 0 = .ok (.aload_n 0, 1) := by decide +kernel
theorem dX0_room_1 : decode cX0_room 1 = .ok (.getfield 7, 3) := by decide +kernel
theorem dX0_room_4 : decode cX0_room 4 = .ok (.ireturn, 1) := by decide +kernel
theorem dX0_packets_0 : decode cX0_packets 0 = .ok (.aload_n 0, 1) := by decide +kernel
theorem dX0_packets_1 : decode cX0_packets 1 = .ok (.getfield 24, 3) := by decide +kernel
theorem dX0_packets_4 : decode cX0_packets 4 = .ok (.ireturn, 1) := by decide +kernel
theorem dX0_used_0 : decode cX0_used 0 = .ok (.aload_n 0, 1) := by decide +kernel
theorem dX0_used_1 : decode cX0_used 1 = .ok (.getfield 27, 3) := by decide +kernel
theorem dX0_used_4 : decode cX0_used 4 = .ok (.ireturn, 1) := by decide +kernel
theorem dX0_has_0 : decode cX0_has 0 = .ok (.iload_n 1, 1) := by decide +kernel
theorem dX0_has_1 : decode cX0_has 1 = .ok (.ifCond .lt 15, 3) := by decide +kernel
theorem dX0_has_4 : decode cX0_has 4 = .ok (.iload_n 1, 1) := by decide +kernel
theorem dX0_has_5 : decode cX0_has 5 = .ok (.aload_n 0, 1) := by decide +kernel
theorem dX0_has_6 : decode cX0_has 6 = .ok (.getfield 24, 3) := by decide +kernel
theorem dX0_has_9 : decode cX0_has 9 = .ok (.if_icmp .ge 7, 3) := by decide +kernel
theorem dX0_has_12 : decode cX0_has 12 = .ok (.iconst 1, 1) := by decide +kernel
theorem dX0_has_13 : decode cX0_has 13 = .ok (.goto 4, 3) := by decide +kernel
theorem dX0_has_16 : decode cX0_has 16 = .ok (.iconst 0, 1) := by decide +kernel
theorem dX0_has_17 : decode cX0_has 17 = .ok (.ireturn, 1) := by decide +kernel
theorem dX0_timeOf_0 : decode cX0_timeOf 0 = .ok (.aload_n 0, 1) := by decide +kernel
theorem dX0_timeOf_1 : decode cX0_timeOf 1 = .ok (.getfield 21, 3) := by decide +kernel
theorem dX0_timeOf_4 : decode cX0_timeOf 4 = .ok (.aload_n 0, 1) := by decide +kernel
theorem dX0_timeOf_5 : decode cX0_timeOf 5 = .ok (.aload_n 0, 1) := by decide +kernel
theorem dX0_timeOf_6 : decode cX0_timeOf 6 = .ok (.getfield 30, 3) := by decide +kernel
theorem dX0_timeOf_9 : decode cX0_timeOf 9 = .ok (.iload_n 1, 1) := by decide +kernel
theorem dX0_timeOf_10 : decode cX0_timeOf 10 = .ok (.iadd, 1) := by decide +kernel
theorem dX0_timeOf_11 : decode cX0_timeOf 11 = .ok (.invokevirtual 33, 3) := by decide +kernel
theorem dX0_timeOf_14 : decode cX0_timeOf 14 = .ok (.iaload, 1) := by decide +kernel
theorem dX0_timeOf_15 : decode cX0_timeOf 15 = .ok (.ireturn, 1) := by decide +kernel
theorem dX0_sizeOf_0 : decode cX0_sizeOf 0 = .ok (.iload_n 1, 1) := by decide +kernel
theorem dX0_sizeOf_1 : decode cX0_sizeOf 1 = .ok (.iconst 1, 1) := by decide +kernel
theorem dX0_sizeOf_2 : decode cX0_sizeOf 2 = .ok (.iadd, 1) := by decide +kernel
theorem dX0_sizeOf_3 : decode cX0_sizeOf 3 = .ok (.aload_n 0, 1) := by decide +kernel
theorem dX0_sizeOf_4 : decode cX0_sizeOf 4 = .ok (.getfield 24, 3) := by decide +kernel
theorem dX0_sizeOf_7 : decode cX0_sizeOf 7 = .ok (.if_icmp .ge 13, 3) := by decide +kernel
theorem dX0_sizeOf_10 : decode cX0_sizeOf 10 = .ok (.aload_n 0, 1) := by decide +kernel
theorem dX0_sizeOf_11 : decode cX0_sizeOf 11 = .ok (.iload_n 1, 1) := by decide +kernel
theorem dX0_sizeOf_12 : decode cX0_sizeOf 12 = .ok (.iconst 1, 1) := by decide +kernel
theorem dX0_sizeOf_13 : decode cX0_sizeOf 13 = .ok (.iadd, 1) := by decide +kernel
theorem dX0_sizeOf_14 : decode cX0_sizeOf 14 = .ok (.invokevirtual 37, 3) := by decide +kernel
theorem dX0_sizeOf_17 : decode cX0_sizeOf 17 = .ok (.goto 7, 3) := by decide +kernel
theorem dX0_sizeOf_20 : decode cX0_sizeOf 20 = .ok (.aload_n 0, 1) := by decide +kernel
theorem dX0_sizeOf_21 : decode cX0_sizeOf 21 = .ok (.getfield 40, 3) := by decide +kernel
theorem dX0_sizeOf_24 : decode cX0_sizeOf 24 = .ok (.istore_n 2, 1) := by decide +kernel
theorem dX0_sizeOf_25 : decode cX0_sizeOf 25 = .ok (.iload_n 2, 1) := by decide +kernel
theorem dX0_sizeOf_26 : decode cX0_sizeOf 26 = .ok (.aload_n 0, 1) := by decide +kernel
theorem dX0_sizeOf_27 : decode cX0_sizeOf 27 = .ok (.iload_n 1, 1) := by decide +kernel
theorem dX0_sizeOf_28 : decode cX0_sizeOf 28 = .ok (.invokevirtual 37, 3) := by decide +kernel
theorem dX0_sizeOf_31 : decode cX0_sizeOf 31 = .ok (.isub, 1) := by decide +kernel
theorem dX0_sizeOf_32 : decode cX0_sizeOf 32 = .ok (.istore_n 3, 1) := by decide +kernel
theorem dX0_sizeOf_33 : decode cX0_sizeOf 33 = .ok (.iload_n 3, 1) := by decide +kernel
theorem dX0_sizeOf_34 : decode cX0_sizeOf 34 = .ok (.ifCond .le 7, 3) := by decide +kernel
theorem dX0_sizeOf_37 : decode cX0_sizeOf 37 = .ok (.iload_n 3, 1) := by decide +kernel
theorem dX0_sizeOf_38 : decode cX0_sizeOf 38 = .ok (.goto 9, 3) := by decide +kernel
theorem dX0_sizeOf_41 : decode cX0_sizeOf 41 = .ok (.iload_n 3, 1) := by decide +kernel
theorem dX0_sizeOf_42 : decode cX0_sizeOf 42 = .ok (.aload_n 0, 1) := by decide +kernel
theorem dX0_sizeOf_43 : decode cX0_sizeOf 43 = .ok (.getfield 7, 3) := by decide +kernel
theorem dX0_sizeOf_46 : decode cX0_sizeOf 46 = .ok (.iadd, 1) := by decide +kernel
theorem dX0_sizeOf_47 : decode cX0_sizeOf 47 = .ok (.ireturn, 1) := by decide +kernel
theorem dX0_byteOf_0 : decode cX0_byteOf 0 = .ok (.aload_n 0, 1) := by decide +kernel
theorem dX0_byteOf_1 : decode cX0_byteOf 1 = .ok (.getfield 13, 3) := by decide +kernel
theorem dX0_byteOf_4 : decode cX0_byteOf 4 = .ok (.aload_n 0, 1) := by decide +kernel
theorem dX0_byteOf_5 : decode cX0_byteOf 5 = .ok (.aload_n 0, 1) := by decide +kernel
theorem dX0_byteOf_6 : decode cX0_byteOf 6 = .ok (.iload_n 1, 1) := by decide +kernel
theorem dX0_byteOf_7 : decode cX0_byteOf 7 = .ok (.invokevirtual 37, 3) := by decide +kernel
theorem dX0_byteOf_10 : decode cX0_byteOf 10 = .ok (.iload_n 2, 1) := by decide +kernel
theorem dX0_byteOf_11 : decode cX0_byteOf 11 = .ok (.iadd, 1) := by decide +kernel
theorem dX0_byteOf_12 : decode cX0_byteOf 12 = .ok (.invokevirtual 33, 3) := by decide +kernel
theorem dX0_byteOf_15 : decode cX0_byteOf 15 = .ok (.baload, 1) := by decide +kernel
theorem dX0_byteOf_16 : decode cX0_byteOf 16 = .ok (.ireturn, 1) := by decide +kernel
theorem dX0_copy_0 : decode cX0_copy 0 = .ok (.iconst 0, 1) := by decide +kernel
theorem dX0_copy_1 : decode cX0_copy 1 = .ok (.istore 4, 2) := by decide +kernel
theorem dX0_copy_3 : decode cX0_copy 3 = .ok (.iload 4, 2) := by decide +kernel
theorem dX0_copy_5 : decode cX0_copy 5 = .ok (.iload_n 2, 1) := by decide +kernel
theorem dX0_copy_6 : decode cX0_copy 6 = .ok (.if_icmp .ge 20, 3) := by decide +kernel
theorem dX0_copy_9 : decode cX0_copy 9 = .ok (.aload_n 3, 1) := by decide +kernel
theorem dX0_copy_10 : decode cX0_copy 10 = .ok (.iload 4, 2) := by decide +kernel
theorem dX0_copy_12 : decode cX0_copy 12 = .ok (.aload_n 0, 1) := by decide +kernel
theorem dX0_copy_13 : decode cX0_copy 13 = .ok (.iload_n 1, 1) := by decide +kernel
theorem dX0_copy_14 : decode cX0_copy 14 = .ok (.iload 4, 2) := by decide +kernel
theorem dX0_copy_16 : decode cX0_copy 16 = .ok (.invokevirtual 43, 3) := by decide +kernel
theorem dX0_copy_19 : decode cX0_copy 19 = .ok (.bastore, 1) := by decide +kernel
theorem dX0_copy_20 : decode cX0_copy 20 = .ok (.iinc 4 1, 3) := by decide +kernel
theorem dX0_copy_23 : decode cX0_copy 23 = .ok (.goto (-20), 3) := by decide +kernel
theorem dX0_copy_26 : decode cX0_copy 26 = .ok (.return_, 1) := by decide +kernel
theorem dX0_add_0 : decode cX0_add 0 = .ok (.aload_n 0, 1) := by decide +kernel
theorem dX0_add_1 : decode cX0_add 1 = .ok (.aload_n 0, 1) := by decide +kernel
theorem dX0_add_2 : decode cX0_add 2 = .ok (.getfield 30, 3) := by decide +kernel
theorem dX0_add_5 : decode cX0_add 5 = .ok (.aload_n 0, 1) := by decide +kernel
theorem dX0_add_6 : decode cX0_add 6 = .ok (.getfield 24, 3) := by decide +kernel
theorem dX0_add_9 : decode cX0_add 9 = .ok (.iadd, 1) := by decide +kernel
theorem dX0_add_10 : decode cX0_add 10 = .ok (.invokevirtual 33, 3) := by decide +kernel
theorem dX0_add_13 : decode cX0_add 13 = .ok (.istore 4, 2) := by decide +kernel
theorem dX0_add_15 : decode cX0_add 15 = .ok (.aload_n 0, 1) := by decide +kernel
theorem dX0_add_16 : decode cX0_add 16 = .ok (.getfield 17, 3) := by decide +kernel
theorem dX0_add_19 : decode cX0_add 19 = .ok (.iload 4, 2) := by decide +kernel
theorem dX0_add_21 : decode cX0_add 21 = .ok (.aload_n 0, 1) := by decide +kernel
theorem dX0_add_22 : decode cX0_add 22 = .ok (.getfield 40, 3) := by decide +kernel
theorem dX0_add_25 : decode cX0_add 25 = .ok (.iastore, 1) := by decide +kernel
theorem dX0_add_26 : decode cX0_add 26 = .ok (.aload_n 0, 1) := by decide +kernel
theorem dX0_add_27 : decode cX0_add 27 = .ok (.getfield 21, 3) := by decide +kernel
theorem dX0_add_30 : decode cX0_add 30 = .ok (.iload 4, 2) := by decide +kernel
theorem dX0_add_32 : decode cX0_add 32 = .ok (.iload_n 3, 1) := by decide +kernel
theorem dX0_add_33 : decode cX0_add 33 = .ok (.iastore, 1) := by decide +kernel
theorem dX0_add_34 : decode cX0_add 34 = .ok (.iconst 0, 1) := by decide +kernel
theorem dX0_add_35 : decode cX0_add 35 = .ok (.istore 5, 2) := by decide +kernel
theorem dX0_add_37 : decode cX0_add 37 = .ok (.iload 5, 2) := by decide +kernel
theorem dX0_add_39 : decode cX0_add 39 = .ok (.iload_n 2, 1) := by decide +kernel
theorem dX0_add_40 : decode cX0_add 40 = .ok (.if_icmp .ge 29, 3) := by decide +kernel
theorem dX0_add_43 : decode cX0_add 43 = .ok (.aload_n 0, 1) := by decide +kernel
theorem dX0_add_44 : decode cX0_add 44 = .ok (.getfield 13, 3) := by decide +kernel
theorem dX0_add_47 : decode cX0_add 47 = .ok (.aload_n 0, 1) := by decide +kernel
theorem dX0_add_48 : decode cX0_add 48 = .ok (.aload_n 0, 1) := by decide +kernel
theorem dX0_add_49 : decode cX0_add 49 = .ok (.getfield 40, 3) := by decide +kernel
theorem dX0_add_52 : decode cX0_add 52 = .ok (.iload 5, 2) := by decide +kernel
theorem dX0_add_54 : decode cX0_add 54 = .ok (.iadd, 1) := by decide +kernel
theorem dX0_add_55 : decode cX0_add 55 = .ok (.invokevirtual 33, 3) := by decide +kernel
theorem dX0_add_58 : decode cX0_add 58 = .ok (.aload_n 1, 1) := by decide +kernel
theorem dX0_add_59 : decode cX0_add 59 = .ok (.iload 5, 2) := by decide +kernel
theorem dX0_add_61 : decode cX0_add 61 = .ok (.baload, 1) := by decide +kernel
theorem dX0_add_62 : decode cX0_add 62 = .ok (.bastore, 1) := by decide +kernel
theorem dX0_add_63 : decode cX0_add 63 = .ok (.iinc 5 1, 3) := by decide +kernel
theorem dX0_add_66 : decode cX0_add 66 = .ok (.goto (-29), 3) := by decide +kernel
theorem dX0_add_69 : decode cX0_add 69 = .ok (.aload_n 0, 1) := by decide +kernel
theorem dX0_add_70 : decode cX0_add 70 = .ok (.aload_n 0, 1) := by decide +kernel
theorem dX0_add_71 : decode cX0_add 71 = .ok (.aload_n 0, 1) := by decide +kernel
theorem dX0_add_72 : decode cX0_add 72 = .ok (.getfield 40, 3) := by decide +kernel
theorem dX0_add_75 : decode cX0_add 75 = .ok (.iload_n 2, 1) := by decide +kernel
theorem dX0_add_76 : decode cX0_add 76 = .ok (.iadd, 1) := by decide +kernel
theorem dX0_add_77 : decode cX0_add 77 = .ok (.invokevirtual 33, 3) := by decide +kernel
theorem dX0_add_80 : decode cX0_add 80 = .ok (.putfield 40, 3) := by decide +kernel
theorem dX0_add_83 : decode cX0_add 83 = .ok (.aload_n 0, 1) := by decide +kernel
theorem dX0_add_84 : decode cX0_add 84 = .ok (.dup, 1) := by decide +kernel
theorem dX0_add_85 : decode cX0_add 85 = .ok (.getfield 24, 3) := by decide +kernel
theorem dX0_add_88 : decode cX0_add 88 = .ok (.iconst 1, 1) := by decide +kernel
theorem dX0_add_89 : decode cX0_add 89 = .ok (.iadd, 1) := by decide +kernel
theorem dX0_add_90 : decode cX0_add 90 = .ok (.putfield 24, 3) := by decide +kernel
theorem dX0_add_93 : decode cX0_add 93 = .ok (.aload_n 0, 1) := by decide +kernel
theorem dX0_add_94 : decode cX0_add 94 = .ok (.dup, 1) := by decide +kernel
theorem dX0_add_95 : decode cX0_add 95 = .ok (.getfield 27, 3) := by decide +kernel
theorem dX0_add_98 : decode cX0_add 98 = .ok (.iload_n 2, 1) := by decide +kernel
theorem dX0_add_99 : decode cX0_add 99 = .ok (.iadd, 1) := by decide +kernel
theorem dX0_add_100 : decode cX0_add 100 = .ok (.putfield 27, 3) := by decide +kernel
theorem dX0_add_103 : decode cX0_add 103 = .ok (.return_, 1) := by decide +kernel
theorem dX0_dropOldest_0 : decode cX0_dropOldest 0 = .ok (.aload_n 0, 1) := by decide +kernel
theorem dX0_dropOldest_1 : decode cX0_dropOldest 1 = .ok (.dup, 1) := by decide +kernel
theorem dX0_dropOldest_2 : decode cX0_dropOldest 2 = .ok (.getfield 27, 3) := by decide +kernel
theorem dX0_dropOldest_5 : decode cX0_dropOldest 5 = .ok (.aload_n 0, 1) := by decide +kernel
theorem dX0_dropOldest_6 : decode cX0_dropOldest 6 = .ok (.iconst 0, 1) := by decide +kernel
theorem dX0_dropOldest_7 : decode cX0_dropOldest 7 = .ok (.invokevirtual 47, 3) := by decide +kernel
theorem dX0_dropOldest_10 : decode cX0_dropOldest 10 = .ok (.isub, 1) := by decide +kernel
theorem dX0_dropOldest_11 : decode cX0_dropOldest 11 = .ok (.putfield 27, 3) := by decide +kernel
theorem dX0_dropOldest_14 : decode cX0_dropOldest 14 = .ok (.aload_n 0, 1) := by decide +kernel
theorem dX0_dropOldest_15 : decode cX0_dropOldest 15 = .ok (.aload_n 0, 1) := by decide +kernel
theorem dX0_dropOldest_16 : decode cX0_dropOldest 16 = .ok (.aload_n 0, 1) := by decide +kernel
theorem dX0_dropOldest_17 : decode cX0_dropOldest 17 = .ok (.getfield 30, 3) := by decide +kernel
theorem dX0_dropOldest_20 : decode cX0_dropOldest 20 = .ok (.iconst 1, 1) := by decide +kernel
theorem dX0_dropOldest_21 : decode cX0_dropOldest 21 = .ok (.iadd, 1) := by decide +kernel
theorem dX0_dropOldest_22 : decode cX0_dropOldest 22 = .ok (.invokevirtual 33, 3) := by decide +kernel
theorem dX0_dropOldest_25 : decode cX0_dropOldest 25 = .ok (.putfield 30, 3) := by decide +kernel
theorem dX0_dropOldest_28 : decode cX0_dropOldest 28 = .ok (.aload_n 0, 1) := by decide +kernel
theorem dX0_dropOldest_29 : decode cX0_dropOldest 29 = .ok (.dup, 1) := by decide +kernel
theorem dX0_dropOldest_30 : decode cX0_dropOldest 30 = .ok (.getfield 24, 3) := by decide +kernel
theorem dX0_dropOldest_33 : decode cX0_dropOldest 33 = .ok (.iconst 1, 1) := by decide +kernel
theorem dX0_dropOldest_34 : decode cX0_dropOldest 34 = .ok (.isub, 1) := by decide +kernel
theorem dX0_dropOldest_35 : decode cX0_dropOldest 35 = .ok (.putfield 24, 3) := by decide +kernel
theorem dX0_dropOldest_38 : decode cX0_dropOldest 38 = .ok (.return_, 1) := by decide +kernel
theorem dX0_startOf_0 : decode cX0_startOf 0 = .ok (.aload_n 0, 1) := by decide +kernel
theorem dX0_startOf_1 : decode cX0_startOf 1 = .ok (.getfield 17, 3) := by decide +kernel
theorem dX0_startOf_4 : decode cX0_startOf 4 = .ok (.aload_n 0, 1) := by decide +kernel
theorem dX0_startOf_5 : decode cX0_startOf 5 = .ok (.aload_n 0, 1) := by decide +kernel
theorem dX0_startOf_6 : decode cX0_startOf 6 = .ok (.getfield 30, 3) := by decide +kernel
theorem dX0_startOf_9 : decode cX0_startOf 9 = .ok (.iload_n 1, 1) := by decide +kernel
theorem dX0_startOf_10 : decode cX0_startOf 10 = .ok (.iadd, 1) := by decide +kernel
theorem dX0_startOf_11 : decode cX0_startOf 11 = .ok (.invokevirtual 33, 3) := by decide +kernel
theorem dX0_startOf_14 : decode cX0_startOf 14 = .ok (.iaload, 1) := by decide +kernel
theorem dX0_startOf_15 : decode cX0_startOf 15 = .ok (.ireturn, 1) := by decide +kernel
theorem dX0_wrapped_0 : decode cX0_wrapped 0 = .ok (.iload_n 1, 1) := by decide +kernel
theorem dX0_wrapped_1 : decode cX0_wrapped 1 = .ok (.aload_n 0, 1) := by decide +kernel
theorem dX0_wrapped_2 : decode cX0_wrapped 2 = .ok (.getfield 7, 3) := by decide +kernel
theorem dX0_wrapped_5 : decode cX0_wrapped 5 = .ok (.if_icmp .ge 7, 3) := by decide +kernel
theorem dX0_wrapped_8 : decode cX0_wrapped 8 = .ok (.iload_n 1, 1) := by decide +kernel
theorem dX0_wrapped_9 : decode cX0_wrapped 9 = .ok (.goto 9, 3) := by decide +kernel
theorem dX0_wrapped_12 : decode cX0_wrapped 12 = .ok (.iload_n 1, 1) := by decide +kernel
theorem dX0_wrapped_13 : decode cX0_wrapped 13 = .ok (.aload_n 0, 1) := by decide +kernel
theorem dX0_wrapped_14 : decode cX0_wrapped 14 = .ok (.getfield 7, 3) := by decide +kernel
theorem dX0_wrapped_17 : decode cX0_wrapped 17 = .ok (.isub, 1) := by decide +kernel
theorem dX0_wrapped_18 : decode cX0_wrapped 18 = .ok (.ireturn, 1) := by decide +kernel
theorem dX1_init_0 : decode cX1_init 0 = .ok (.aload_n 0, 1) := by decide +kernel
theorem dX1_init_1 : decode cX1_init 1 = .ok (.invokespecial 1, 3) := by decide +kernel
theorem dX1_init_4 : decode cX1_init 4 = .ok (.aload_n 0, 1) := by decide +kernel
theorem dX1_init_5 : decode cX1_init 5 = .ok (.new 7, 3) := by decide +kernel
theorem dX1_init_8 : decode cX1_init 8 = .ok (.dup, 1) := by decide +kernel
theorem dX1_init_9 : decode cX1_init 9 = .ok (.bipush 64, 2) := by decide +kernel
theorem dX1_init_11 : decode cX1_init 11 = .ok (.sipush 16384, 3) := by decide +kernel
theorem dX1_init_14 : decode cX1_init 14 = .ok (.iload_n 1, 1) := by decide +kernel
theorem dX1_init_15 : decode cX1_init 15 = .ok (.invokestatic 11, 3) := by decide +kernel
theorem dX1_init_18 : decode cX1_init 18 = .ok (.invokestatic 17, 3) := by decide +kernel
theorem dX1_init_21 : decode cX1_init 21 = .ok (.invokespecial 20, 3) := by decide +kernel
theorem dX1_init_24 : decode cX1_init 24 = .ok (.putfield 23, 3) := by decide +kernel
theorem dX1_init_27 : decode cX1_init 27 = .ok (.aload_n 0, 1) := by decide +kernel
theorem dX1_init_28 : decode cX1_init 28 = .ok (.sipush 512, 3) := by decide +kernel
theorem dX1_init_31 : decode cX1_init 31 = .ok (.newarray .byte, 2) := by decide +kernel
theorem dX1_init_33 : decode cX1_init 33 = .ok (.putfield 27, 3) := by decide +kernel
theorem dX1_init_36 : decode cX1_init 36 = .ok (.aload_n 0, 1) := by decide +kernel
theorem dX1_init_37 : decode cX1_init 37 = .ok (.sipush 512, 3) := by decide +kernel
theorem dX1_init_40 : decode cX1_init 40 = .ok (.newarray .byte, 2) := by decide +kernel
theorem dX1_init_42 : decode cX1_init 42 = .ok (.putfield 31, 3) := by decide +kernel
theorem dX1_init_45 : decode cX1_init 45 = .ok (.return_, 1) := by decide +kernel
theorem dX1_put_0 : decode cX1_put 0 = .ok (.aload_n 0, 1) := by decide +kernel
theorem dX1_put_1 : decode cX1_put 1 = .ok (.getfield 34, 3) := by decide +kernel
theorem dX1_put_4 : decode cX1_put 4 = .ok (.sipush 512, 3) := by decide +kernel
theorem dX1_put_7 : decode cX1_put 7 = .ok (.if_icmp .lt 5, 3) := by decide +kernel
theorem dX1_put_10 : decode cX1_put 10 = .ok (.iconst (-1), 1) := by decide +kernel
theorem dX1_put_11 : decode cX1_put 11 = .ok (.ireturn, 1) := by decide +kernel
theorem dX1_put_12 : decode cX1_put 12 = .ok (.aload_n 0, 1) := by decide +kernel
theorem dX1_put_13 : decode cX1_put 13 = .ok (.getfield 27, 3) := by decide +kernel
theorem dX1_put_16 : decode cX1_put 16 = .ok (.aload_n 0, 1) := by decide +kernel
theorem dX1_put_17 : decode cX1_put 17 = .ok (.getfield 34, 3) := by decide +kernel
theorem dX1_put_20 : decode cX1_put 20 = .ok (.iload_n 1, 1) := by decide +kernel
theorem dX1_put_21 : decode cX1_put 21 = .ok (.i2b, 1) := by decide +kernel
theorem dX1_put_22 : decode cX1_put 22 = .ok (.bastore, 1) := by decide +kernel
theorem dX1_put_23 : decode cX1_put 23 = .ok (.aload_n 0, 1) := by decide +kernel
theorem dX1_put_24 : decode cX1_put 24 = .ok (.dup, 1) := by decide +kernel
theorem dX1_put_25 : decode cX1_put 25 = .ok (.getfield 34, 3) := by decide +kernel
theorem dX1_put_28 : decode cX1_put 28 = .ok (.iconst 1, 1) := by decide +kernel
theorem dX1_put_29 : decode cX1_put 29 = .ok (.iadd, 1) := by decide +kernel
theorem dX1_put_30 : decode cX1_put 30 = .ok (.putfield 34, 3) := by decide +kernel
theorem dX1_put_33 : decode cX1_put 33 = .ok (.aload_n 0, 1) := by decide +kernel
theorem dX1_put_34 : decode cX1_put 34 = .ok (.getfield 34, 3) := by decide +kernel
theorem dX1_put_37 : decode cX1_put 37 = .ok (.ireturn, 1) := by decide +kernel
theorem dX1_keep_0 : decode cX1_keep 0 = .ok (.aload_n 0, 1) := by decide +kernel
theorem dX1_keep_1 : decode cX1_keep 1 = .ok (.getfield 34, 3) := by decide +kernel
theorem dX1_keep_4 : decode cX1_keep 4 = .ok (.istore_n 2, 1) := by decide +kernel
theorem dX1_keep_5 : decode cX1_keep 5 = .ok (.aload_n 0, 1) := by decide +kernel
theorem dX1_keep_6 : decode cX1_keep 6 = .ok (.iconst 0, 1) := by decide +kernel
theorem dX1_keep_7 : decode cX1_keep 7 = .ok (.putfield 34, 3) := by decide +kernel
theorem dX1_keep_10 : decode cX1_keep 10 = .ok (.iload_n 2, 1) := by decide +kernel
theorem dX1_keep_11 : decode cX1_keep 11 = .ok (.ifCond .ne 5, 3) := by decide +kernel
theorem dX1_keep_14 : decode cX1_keep 14 = .ok (.iconst (-1), 1) := by decide +kernel
theorem dX1_keep_15 : decode cX1_keep 15 = .ok (.ireturn, 1) := by decide +kernel
theorem dX1_keep_16 : decode cX1_keep 16 = .ok (.iload_n 2, 1) := by decide +kernel
theorem dX1_keep_17 : decode cX1_keep 17 = .ok (.aload_n 0, 1) := by decide +kernel
theorem dX1_keep_18 : decode cX1_keep 18 = .ok (.getfield 23, 3) := by decide +kernel
theorem dX1_keep_21 : decode cX1_keep 21 = .ok (.invokevirtual 38, 3) := by decide +kernel
theorem dX1_keep_24 : decode cX1_keep 24 = .ok (.if_icmp .le 6, 3) := by decide +kernel
theorem dX1_keep_27 : decode cX1_keep 27 = .ok (.bipush (-2), 2) := by decide +kernel
theorem dX1_keep_29 : decode cX1_keep 29 = .ok (.ireturn, 1) := by decide +kernel
theorem dX1_keep_30 : decode cX1_keep 30 = .ok (.aload_n 0, 1) := by decide +kernel
theorem dX1_keep_31 : decode cX1_keep 31 = .ok (.iload_n 2, 1) := by decide +kernel
theorem dX1_keep_32 : decode cX1_keep 32 = .ok (.invokevirtual 42, 3) := by decide +kernel
theorem dX1_keep_35 : decode cX1_keep 35 = .ok (.istore_n 3, 1) := by decide +kernel
theorem dX1_keep_36 : decode cX1_keep 36 = .ok (.aload_n 0, 1) := by decide +kernel
theorem dX1_keep_37 : decode cX1_keep 37 = .ok (.getfield 23, 3) := by decide +kernel
theorem dX1_keep_40 : decode cX1_keep 40 = .ok (.aload_n 0, 1) := by decide +kernel
theorem dX1_keep_41 : decode cX1_keep 41 = .ok (.getfield 27, 3) := by decide +kernel
theorem dX1_keep_44 : decode cX1_keep 44 = .ok (.iload_n 2, 1) := by decide +kernel
theorem dX1_keep_45 : decode cX1_keep 45 = .ok (.iload_n 1, 1) := by decide +kernel
theorem dX1_keep_46 : decode cX1_keep 46 = .ok (.invokevirtual 46, 3) := by decide +kernel
theorem dX1_keep_49 : decode cX1_keep 49 = .ok (.aload_n 0, 1) := by decide +kernel
theorem dX1_keep_50 : decode cX1_keep 50 = .ok (.dup, 1) := by decide +kernel
theorem dX1_keep_51 : decode cX1_keep 51 = .ok (.getfield 50, 3) := by decide +kernel
theorem dX1_keep_54 : decode cX1_keep 54 = .ok (.iload_n 3, 1) := by decide +kernel
theorem dX1_keep_55 : decode cX1_keep 55 = .ok (.iadd, 1) := by decide +kernel
theorem dX1_keep_56 : decode cX1_keep 56 = .ok (.putfield 50, 3) := by decide +kernel
theorem dX1_keep_59 : decode cX1_keep 59 = .ok (.aload_n 0, 1) := by decide +kernel
theorem dX1_keep_60 : decode cX1_keep 60 = .ok (.dup, 1) := by decide +kernel
theorem dX1_keep_61 : decode cX1_keep 61 = .ok (.getfield 53, 3) := by decide +kernel
theorem dX1_keep_64 : decode cX1_keep 64 = .ok (.iconst 1, 1) := by decide +kernel
theorem dX1_keep_65 : decode cX1_keep 65 = .ok (.iadd, 1) := by decide +kernel
theorem dX1_keep_66 : decode cX1_keep 66 = .ok (.putfield 53, 3) := by decide +kernel
theorem dX1_keep_69 : decode cX1_keep 69 = .ok (.iload_n 3, 1) := by decide +kernel
theorem dX1_keep_70 : decode cX1_keep 70 = .ok (.ireturn, 1) := by decide +kernel
theorem dX1_delete_0 : decode cX1_delete 0 = .ok (.aload_n 0, 1) := by decide +kernel
theorem dX1_delete_1 : decode cX1_delete 1 = .ok (.getfield 23, 3) := by decide +kernel
theorem dX1_delete_4 : decode cX1_delete 4 = .ok (.invokevirtual 56, 3) := by decide +kernel
theorem dX1_delete_7 : decode cX1_delete 7 = .ok (.istore_n 2, 1) := by decide +kernel
theorem dX1_delete_8 : decode cX1_delete 8 = .ok (.iconst 0, 1) := by decide +kernel
theorem dX1_delete_9 : decode cX1_delete 9 = .ok (.istore_n 3, 1) := by decide +kernel
theorem dX1_delete_10 : decode cX1_delete 10 = .ok (.iload_n 3, 1) := by decide +kernel
theorem dX1_delete_11 : decode cX1_delete 11 = .ok (.iload_n 2, 1) := by decide +kernel
theorem dX1_delete_12 : decode cX1_delete 12 = .ok (.if_icmp .ge 25, 3) := by decide +kernel
theorem dX1_delete_15 : decode cX1_delete 15 = .ok (.aload_n 0, 1) := by decide +kernel
theorem dX1_delete_16 : decode cX1_delete 16 = .ok (.getfield 23, 3) := by decide +kernel
theorem dX1_delete_19 : decode cX1_delete 19 = .ok (.iconst 0, 1) := by decide +kernel
theorem dX1_delete_20 : decode cX1_delete 20 = .ok (.invokevirtual 59, 3) := by decide +kernel
theorem dX1_delete_23 : decode cX1_delete 23 = .ok (.iload_n 1, 1) := by decide +kernel
theorem dX1_delete_24 : decode cX1_delete 24 = .ok (.if_icmp .gt 13, 3) := by decide +kernel
theorem dX1_delete_27 : decode cX1_delete 27 = .ok (.aload_n 0, 1) := by decide +kernel
theorem dX1_delete_28 : decode cX1_delete 28 = .ok (.invokevirtual 62, 3) := by decide +kernel
theorem dX1_delete_31 : decode cX1_delete 31 = .ok (.iinc 3 1, 3) := by decide +kernel
theorem dX1_delete_34 : decode cX1_delete 34 = .ok (.goto (-24), 3) := by decide +kernel
theorem dX1_delete_37 : decode cX1_delete 37 = .ok (.aload_n 0, 1) := by decide +kernel
theorem dX1_delete_38 : decode cX1_delete 38 = .ok (.dup, 1) := by decide +kernel
theorem dX1_delete_39 : decode cX1_delete 39 = .ok (.getfield 65, 3) := by decide +kernel
theorem dX1_delete_42 : decode cX1_delete 42 = .ok (.iload_n 3, 1) := by decide +kernel
theorem dX1_delete_43 : decode cX1_delete 43 = .ok (.iadd, 1) := by decide +kernel
theorem dX1_delete_44 : decode cX1_delete 44 = .ok (.putfield 65, 3) := by decide +kernel
theorem dX1_delete_47 : decode cX1_delete 47 = .ok (.iload_n 3, 1) := by decide +kernel
theorem dX1_delete_48 : decode cX1_delete 48 = .ok (.ireturn, 1) := by decide +kernel
theorem dX1_begin_0 : decode cX1_begin 0 = .ok (.aload_n 0, 1) := by decide +kernel
theorem dX1_begin_1 : decode cX1_begin 1 = .ok (.getfield 68, 3) := by decide +kernel
theorem dX1_begin_4 : decode cX1_begin 4 = .ok (.ifCond .eq 5, 3) := by decide +kernel
theorem dX1_begin_7 : decode cX1_begin 7 = .ok (.iconst 0, 1) := by decide +kernel
theorem dX1_begin_8 : decode cX1_begin 8 = .ok (.ireturn, 1) := by decide +kernel
theorem dX1_begin_9 : decode cX1_begin 9 = .ok (.aload_n 0, 1) := by decide +kernel
theorem dX1_begin_10 : decode cX1_begin 10 = .ok (.iconst 1, 1) := by decide +kernel
theorem dX1_begin_11 : decode cX1_begin 11 = .ok (.putfield 68, 3) := by decide +kernel
theorem dX1_begin_14 : decode cX1_begin 14 = .ok (.aload_n 0, 1) := by decide +kernel
theorem dX1_begin_15 : decode cX1_begin 15 = .ok (.iload_n 1, 1) := by decide +kernel
theorem dX1_begin_16 : decode cX1_begin 16 = .ok (.putfield 72, 3) := by decide +kernel
theorem dX1_begin_19 : decode cX1_begin 19 = .ok (.aload_n 0, 1) := by decide +kernel
theorem dX1_begin_20 : decode cX1_begin 20 = .ok (.iload_n 2, 1) := by decide +kernel
theorem dX1_begin_21 : decode cX1_begin 21 = .ok (.putfield 75, 3) := by decide +kernel
theorem dX1_begin_24 : decode cX1_begin 24 = .ok (.aload_n 0, 1) := by decide +kernel
theorem dX1_begin_25 : decode cX1_begin 25 = .ok (.iconst 0, 1) := by decide +kernel
theorem dX1_begin_26 : decode cX1_begin 26 = .ok (.putfield 78, 3) := by decide +kernel
theorem dX1_begin_29 : decode cX1_begin 29 = .ok (.iconst 1, 1) := by decide +kernel
theorem dX1_begin_30 : decode cX1_begin 30 = .ok (.ireturn, 1) := by decide +kernel
theorem dX1_stop_0 : decode cX1_stop 0 = .ok (.aload_n 0, 1) := by decide +kernel
theorem dX1_stop_1 : decode cX1_stop 1 = .ok (.getfield 68, 3) := by decide +kernel
theorem dX1_stop_4 : decode cX1_stop 4 = .ok (.istore_n 1, 1) := by decide +kernel
theorem dX1_stop_5 : decode cX1_stop 5 = .ok (.aload_n 0, 1) := by decide +kernel
theorem dX1_stop_6 : decode cX1_stop 6 = .ok (.iconst 0, 1) := by decide +kernel
theorem dX1_stop_7 : decode cX1_stop 7 = .ok (.putfield 68, 3) := by decide +kernel
theorem dX1_stop_10 : decode cX1_stop 10 = .ok (.iload_n 1, 1) := by decide +kernel
theorem dX1_stop_11 : decode cX1_stop 11 = .ok (.ireturn, 1) := by decide +kernel
theorem dX1_next_0 : decode cX1_next 0 = .ok (.aload_n 0, 1) := by decide +kernel
theorem dX1_next_1 : decode cX1_next 1 = .ok (.getfield 68, 3) := by decide +kernel
theorem dX1_next_4 : decode cX1_next 4 = .ok (.ifCond .ne 5, 3) := by decide +kernel
theorem dX1_next_7 : decode cX1_next 7 = .ok (.iconst (-1), 1) := by decide +kernel
theorem dX1_next_8 : decode cX1_next 8 = .ok (.ireturn, 1) := by decide +kernel
theorem dX1_next_9 : decode cX1_next 9 = .ok (.aload_n 0, 1) := by decide +kernel
theorem dX1_next_10 : decode cX1_next 10 = .ok (.invokevirtual 81, 3) := by decide +kernel
theorem dX1_next_13 : decode cX1_next 13 = .ok (.aload_n 0, 1) := by decide +kernel
theorem dX1_next_14 : decode cX1_next 14 = .ok (.getfield 78, 3) := by decide +kernel
theorem dX1_next_17 : decode cX1_next 17 = .ok (.aload_n 0, 1) := by decide +kernel
theorem dX1_next_18 : decode cX1_next 18 = .ok (.getfield 23, 3) := by decide +kernel
theorem dX1_next_21 : decode cX1_next 21 = .ok (.invokevirtual 56, 3) := by decide +kernel
theorem dX1_next_24 : decode cX1_next 24 = .ok (.if_icmp .lt 10, 3) := by decide +kernel
theorem dX1_next_27 : decode cX1_next 27 = .ok (.aload_n 0, 1) := by decide +kernel
theorem dX1_next_28 : decode cX1_next 28 = .ok (.iconst 0, 1) := by decide +kernel
theorem dX1_next_29 : decode cX1_next 29 = .ok (.putfield 68, 3) := by decide +kernel
theorem dX1_next_32 : decode cX1_next 32 = .ok (.iconst (-1), 1) := by decide +kernel
theorem dX1_next_33 : decode cX1_next 33 = .ok (.ireturn, 1) := by decide +kernel
theorem dX1_next_34 : decode cX1_next 34 = .ok (.aload_n 0, 1) := by decide +kernel
theorem dX1_next_35 : decode cX1_next 35 = .ok (.getfield 23, 3) := by decide +kernel
theorem dX1_next_38 : decode cX1_next 38 = .ok (.aload_n 0, 1) := by decide +kernel
theorem dX1_next_39 : decode cX1_next 39 = .ok (.getfield 78, 3) := by decide +kernel
theorem dX1_next_42 : decode cX1_next 42 = .ok (.invokevirtual 84, 3) := by decide +kernel
theorem dX1_next_45 : decode cX1_next 45 = .ok (.istore_n 2, 1) := by decide +kernel
theorem dX1_next_46 : decode cX1_next 46 = .ok (.iload_n 2, 1) := by decide +kernel
theorem dX1_next_47 : decode cX1_next 47 = .ok (.iload_n 1, 1) := by decide +kernel
theorem dX1_next_48 : decode cX1_next 48 = .ok (.if_icmp .le 6, 3) := by decide +kernel
theorem dX1_next_51 : decode cX1_next 51 = .ok (.bipush (-2), 2) := by decide +kernel
theorem dX1_next_53 : decode cX1_next 53 = .ok (.ireturn, 1) := by decide +kernel
theorem dX1_next_54 : decode cX1_next 54 = .ok (.aload_n 0, 1) := by decide +kernel
theorem dX1_next_55 : decode cX1_next 55 = .ok (.getfield 23, 3) := by decide +kernel
theorem dX1_next_58 : decode cX1_next 58 = .ok (.aload_n 0, 1) := by decide +kernel
theorem dX1_next_59 : decode cX1_next 59 = .ok (.getfield 78, 3) := by decide +kernel
theorem dX1_next_62 : decode cX1_next 62 = .ok (.iload_n 2, 1) := by decide +kernel
theorem dX1_next_63 : decode cX1_next 63 = .ok (.aload_n 0, 1) := by decide +kernel
theorem dX1_next_64 : decode cX1_next 64 = .ok (.getfield 31, 3) := by decide +kernel
theorem dX1_next_67 : decode cX1_next 67 = .ok (.invokevirtual 87, 3) := by decide +kernel
theorem dX1_next_70 : decode cX1_next 70 = .ok (.aload_n 0, 1) := by decide +kernel
theorem dX1_next_71 : decode cX1_next 71 = .ok (.iload_n 2, 1) := by decide +kernel
theorem dX1_next_72 : decode cX1_next 72 = .ok (.putfield 91, 3) := by decide +kernel
theorem dX1_next_75 : decode cX1_next 75 = .ok (.aload_n 0, 1) := by decide +kernel
theorem dX1_next_76 : decode cX1_next 76 = .ok (.dup, 1) := by decide +kernel
theorem dX1_next_77 : decode cX1_next 77 = .ok (.getfield 78, 3) := by decide +kernel
theorem dX1_next_80 : decode cX1_next 80 = .ok (.iconst 1, 1) := by decide +kernel
theorem dX1_next_81 : decode cX1_next 81 = .ok (.iadd, 1) := by decide +kernel
theorem dX1_next_82 : decode cX1_next 82 = .ok (.putfield 78, 3) := by decide +kernel
theorem dX1_next_85 : decode cX1_next 85 = .ok (.iload_n 2, 1) := by decide +kernel
theorem dX1_next_86 : decode cX1_next 86 = .ok (.ireturn, 1) := by decide +kernel
theorem dX1_out_0 : decode cX1_out 0 = .ok (.iload_n 1, 1) := by decide +kernel
theorem dX1_out_1 : decode cX1_out 1 = .ok (.ifCond .lt 11, 3) := by decide +kernel
theorem dX1_out_4 : decode cX1_out 4 = .ok (.iload_n 1, 1) := by decide +kernel
theorem dX1_out_5 : decode cX1_out 5 = .ok (.aload_n 0, 1) := by decide +kernel
theorem dX1_out_6 : decode cX1_out 6 = .ok (.getfield 91, 3) := by decide +kernel
theorem dX1_out_9 : decode cX1_out 9 = .ok (.if_icmp .lt 5, 3) := by decide +kernel
theorem dX1_out_12 : decode cX1_out 12 = .ok (.iconst (-1), 1) := by decide +kernel
theorem dX1_out_13 : decode cX1_out 13 = .ok (.ireturn, 1) := by decide +kernel
theorem dX1_out_14 : decode cX1_out 14 = .ok (.aload_n 0, 1) := by decide +kernel
theorem dX1_out_15 : decode cX1_out 15 = .ok (.getfield 31, 3) := by decide +kernel
theorem dX1_out_18 : decode cX1_out 18 = .ok (.iload_n 1, 1) := by decide +kernel
theorem dX1_out_19 : decode cX1_out 19 = .ok (.baload, 1) := by decide +kernel
theorem dX1_out_20 : decode cX1_out 20 = .ok (.sipush 255, 3) := by decide +kernel
theorem dX1_out_23 : decode cX1_out 23 = .ok (.iand, 1) := by decide +kernel
theorem dX1_out_24 : decode cX1_out 24 = .ok (.ireturn, 1) := by decide +kernel
theorem dX1_count_0 : decode cX1_count 0 = .ok (.iload_n 1, 1) := by decide +kernel
theorem dX1_count_1 : decode cX1_count 1 = .ok (.tableswitch 104 0 7 #[47, 55, 63, 68, 73, 78, 91, 96], 47) := by decide +kernel
theorem dX1_count_48 : decode cX1_count 48 = .ok (.aload_n 0, 1) := by decide +kernel
theorem dX1_count_49 : decode cX1_count 49 = .ok (.getfield 23, 3) := by decide +kernel
theorem dX1_count_52 : decode cX1_count 52 = .ok (.invokevirtual 56, 3) := by decide +kernel
theorem dX1_count_55 : decode cX1_count 55 = .ok (.ireturn, 1) := by decide +kernel
theorem dX1_count_56 : decode cX1_count 56 = .ok (.aload_n 0, 1) := by decide +kernel
theorem dX1_count_57 : decode cX1_count 57 = .ok (.getfield 23, 3) := by decide +kernel
theorem dX1_count_60 : decode cX1_count 60 = .ok (.invokevirtual 94, 3) := by decide +kernel
theorem dX1_count_63 : decode cX1_count 63 = .ok (.ireturn, 1) := by decide +kernel
theorem dX1_count_64 : decode cX1_count 64 = .ok (.aload_n 0, 1) := by decide +kernel
theorem dX1_count_65 : decode cX1_count 65 = .ok (.getfield 53, 3) := by decide +kernel
theorem dX1_count_68 : decode cX1_count 68 = .ok (.ireturn, 1) := by decide +kernel
theorem dX1_count_69 : decode cX1_count 69 = .ok (.aload_n 0, 1) := by decide +kernel
theorem dX1_count_70 : decode cX1_count 70 = .ok (.getfield 50, 3) := by decide +kernel
theorem dX1_count_73 : decode cX1_count 73 = .ok (.ireturn, 1) := by decide +kernel
theorem dX1_count_74 : decode cX1_count 74 = .ok (.aload_n 0, 1) := by decide +kernel
theorem dX1_count_75 : decode cX1_count 75 = .ok (.getfield 65, 3) := by decide +kernel
theorem dX1_count_78 : decode cX1_count 78 = .ok (.ireturn, 1) := by decide +kernel
theorem dX1_count_79 : decode cX1_count 79 = .ok (.aload_n 0, 1) := by decide +kernel
theorem dX1_count_80 : decode cX1_count 80 = .ok (.getfield 68, 3) := by decide +kernel
theorem dX1_count_83 : decode cX1_count 83 = .ok (.ifCond .eq 7, 3) := by decide +kernel
theorem dX1_count_86 : decode cX1_count 86 = .ok (.iconst 1, 1) := by decide +kernel
theorem dX1_count_87 : decode cX1_count 87 = .ok (.goto 4, 3) := by decide +kernel
theorem dX1_count_90 : decode cX1_count 90 = .ok (.iconst 0, 1) := by decide +kernel
theorem dX1_count_91 : decode cX1_count 91 = .ok (.ireturn, 1) := by decide +kernel
theorem dX1_count_92 : decode cX1_count 92 = .ok (.aload_n 0, 1) := by decide +kernel
theorem dX1_count_93 : decode cX1_count 93 = .ok (.getfield 91, 3) := by decide +kernel
theorem dX1_count_96 : decode cX1_count 96 = .ok (.ireturn, 1) := by decide +kernel
theorem dX1_count_97 : decode cX1_count 97 = .ok (.aload_n 0, 1) := by decide +kernel
theorem dX1_count_98 : decode cX1_count 98 = .ok (.getfield 23, 3) := by decide +kernel
theorem dX1_count_101 : decode cX1_count 101 = .ok (.invokevirtual 38, 3) := by decide +kernel
theorem dX1_count_104 : decode cX1_count 104 = .ok (.ireturn, 1) := by decide +kernel
theorem dX1_count_105 : decode cX1_count 105 = .ok (.iconst (-1), 1) := by decide +kernel
theorem dX1_count_106 : decode cX1_count 106 = .ok (.ireturn, 1) := by decide +kernel
theorem dX1_about_0 : decode cX1_about 0 = .ok (.aload_n 0, 1) := by decide +kernel
theorem dX1_about_1 : decode cX1_about 1 = .ok (.getfield 23, 3) := by decide +kernel
theorem dX1_about_4 : decode cX1_about 4 = .ok (.iload_n 1, 1) := by decide +kernel
theorem dX1_about_5 : decode cX1_about 5 = .ok (.invokevirtual 97, 3) := by decide +kernel
theorem dX1_about_8 : decode cX1_about 8 = .ok (.ifCond .ne 5, 3) := by decide +kernel
theorem dX1_about_11 : decode cX1_about 11 = .ok (.iconst (-1), 1) := by decide +kernel
theorem dX1_about_12 : decode cX1_about 12 = .ok (.ireturn, 1) := by decide +kernel
theorem dX1_about_13 : decode cX1_about 13 = .ok (.iload_n 2, 1) := by decide +kernel
theorem dX1_about_14 : decode cX1_about 14 = .ok (.lookupswitch 44 #[(0, 26), (1, 35)], 26) := by decide +kernel
theorem dX1_about_40 : decode cX1_about 40 = .ok (.aload_n 0, 1) := by decide +kernel
theorem dX1_about_41 : decode cX1_about 41 = .ok (.getfield 23, 3) := by decide +kernel
theorem dX1_about_44 : decode cX1_about 44 = .ok (.iload_n 1, 1) := by decide +kernel
theorem dX1_about_45 : decode cX1_about 45 = .ok (.invokevirtual 59, 3) := by decide +kernel
theorem dX1_about_48 : decode cX1_about 48 = .ok (.ireturn, 1) := by decide +kernel
theorem dX1_about_49 : decode cX1_about 49 = .ok (.aload_n 0, 1) := by decide +kernel
theorem dX1_about_50 : decode cX1_about 50 = .ok (.getfield 23, 3) := by decide +kernel
theorem dX1_about_53 : decode cX1_about 53 = .ok (.iload_n 1, 1) := by decide +kernel
theorem dX1_about_54 : decode cX1_about 54 = .ok (.invokevirtual 84, 3) := by decide +kernel
theorem dX1_about_57 : decode cX1_about 57 = .ok (.ireturn, 1) := by decide +kernel
theorem dX1_about_58 : decode cX1_about 58 = .ok (.iconst (-1), 1) := by decide +kernel
theorem dX1_about_59 : decode cX1_about 59 = .ok (.ireturn, 1) := by decide +kernel
theorem dX1_byteAt_0 : decode cX1_byteAt 0 = .ok (.aload_n 0, 1) := by decide +kernel
theorem dX1_byteAt_1 : decode cX1_byteAt 1 = .ok (.getfield 23, 3) := by decide +kernel
theorem dX1_byteAt_4 : decode cX1_byteAt 4 = .ok (.iload_n 1, 1) := by decide +kernel
theorem dX1_byteAt_5 : decode cX1_byteAt 5 = .ok (.invokevirtual 97, 3) := by decide +kernel
theorem dX1_byteAt_8 : decode cX1_byteAt 8 = .ok (.ifCond .eq 19, 3) := by decide +kernel
theorem dX1_byteAt_11 : decode cX1_byteAt 11 = .ok (.iload_n 2, 1) := by decide +kernel
theorem dX1_byteAt_12 : decode cX1_byteAt 12 = .ok (.ifCond .lt 15, 3) := by decide +kernel
theorem dX1_byteAt_15 : decode cX1_byteAt 15 = .ok (.iload_n 2, 1) := by decide +kernel
theorem dX1_byteAt_16 : decode cX1_byteAt 16 = .ok (.aload_n 0, 1) := by decide +kernel
theorem dX1_byteAt_17 : decode cX1_byteAt 17 = .ok (.getfield 23, 3) := by decide +kernel
theorem dX1_byteAt_20 : decode cX1_byteAt 20 = .ok (.iload_n 1, 1) := by decide +kernel
theorem dX1_byteAt_21 : decode cX1_byteAt 21 = .ok (.invokevirtual 84, 3) := by decide +kernel
theorem dX1_byteAt_24 : decode cX1_byteAt 24 = .ok (.if_icmp .lt 5, 3) := by decide +kernel
theorem dX1_byteAt_27 : decode cX1_byteAt 27 = .ok (.iconst (-1), 1) := by decide +kernel
theorem dX1_byteAt_28 : decode cX1_byteAt 28 = .ok (.ireturn, 1) := by decide +kernel
theorem dX1_byteAt_29 : decode cX1_byteAt 29 = .ok (.aload_n 0, 1) := by decide +kernel
theorem dX1_byteAt_30 : decode cX1_byteAt 30 = .ok (.getfield 23, 3) := by decide +kernel
theorem dX1_byteAt_33 : decode cX1_byteAt 33 = .ok (.iload_n 1, 1) := by decide +kernel
theorem dX1_byteAt_34 : decode cX1_byteAt 34 = .ok (.iload_n 2, 1) := by decide +kernel
theorem dX1_byteAt_35 : decode cX1_byteAt 35 = .ok (.invokevirtual 101, 3) := by decide +kernel
theorem dX1_byteAt_38 : decode cX1_byteAt 38 = .ok (.sipush 255, 3) := by decide +kernel
theorem dX1_byteAt_41 : decode cX1_byteAt 41 = .ok (.iand, 1) := by decide +kernel
theorem dX1_byteAt_42 : decode cX1_byteAt 42 = .ok (.ireturn, 1) := by decide +kernel
theorem dX1_makeRoom_0 : decode cX1_makeRoom 0 = .ok (.aload_n 0, 1) := by decide +kernel
theorem dX1_makeRoom_1 : decode cX1_makeRoom 1 = .ok (.getfield 23, 3) := by decide +kernel
theorem dX1_makeRoom_4 : decode cX1_makeRoom 4 = .ok (.invokevirtual 56, 3) := by decide +kernel
theorem dX1_makeRoom_7 : decode cX1_makeRoom 7 = .ok (.istore_n 2, 1) := by decide +kernel
theorem dX1_makeRoom_8 : decode cX1_makeRoom 8 = .ok (.iconst 0, 1) := by decide +kernel
theorem dX1_makeRoom_9 : decode cX1_makeRoom 9 = .ok (.istore_n 3, 1) := by decide +kernel
theorem dX1_makeRoom_10 : decode cX1_makeRoom 10 = .ok (.iload_n 3, 1) := by decide +kernel
theorem dX1_makeRoom_11 : decode cX1_makeRoom 11 = .ok (.iload_n 2, 1) := by decide +kernel
theorem dX1_makeRoom_12 : decode cX1_makeRoom 12 = .ok (.if_icmp .ge 32, 3) := by decide +kernel
theorem dX1_makeRoom_15 : decode cX1_makeRoom 15 = .ok (.aload_n 0, 1) := by decide +kernel
theorem dX1_makeRoom_16 : decode cX1_makeRoom 16 = .ok (.getfield 23, 3) := by decide +kernel
theorem dX1_makeRoom_19 : decode cX1_makeRoom 19 = .ok (.invokevirtual 94, 3) := by decide +kernel
theorem dX1_makeRoom_22 : decode cX1_makeRoom 22 = .ok (.iload_n 1, 1) := by decide +kernel
theorem dX1_makeRoom_23 : decode cX1_makeRoom 23 = .ok (.iadd, 1) := by decide +kernel
theorem dX1_makeRoom_24 : decode cX1_makeRoom 24 = .ok (.aload_n 0, 1) := by decide +kernel
theorem dX1_makeRoom_25 : decode cX1_makeRoom 25 = .ok (.getfield 23, 3) := by decide +kernel
theorem dX1_makeRoom_28 : decode cX1_makeRoom 28 = .ok (.invokevirtual 38, 3) := by decide +kernel
theorem dX1_makeRoom_31 : decode cX1_makeRoom 31 = .ok (.if_icmp .le 13, 3) := by decide +kernel
theorem dX1_makeRoom_34 : decode cX1_makeRoom 34 = .ok (.aload_n 0, 1) := by decide +kernel
theorem dX1_makeRoom_35 : decode cX1_makeRoom 35 = .ok (.invokevirtual 62, 3) := by decide +kernel
theorem dX1_makeRoom_38 : decode cX1_makeRoom 38 = .ok (.iinc 3 1, 3) := by decide +kernel
theorem dX1_makeRoom_41 : decode cX1_makeRoom 41 = .ok (.goto (-31), 3) := by decide +kernel
theorem dX1_makeRoom_44 : decode cX1_makeRoom 44 = .ok (.iload_n 3, 1) := by decide +kernel
theorem dX1_makeRoom_45 : decode cX1_makeRoom 45 = .ok (.ireturn, 1) := by decide +kernel
theorem dX1_dropOldest_0 : decode cX1_dropOldest 0 = .ok (.aload_n 0, 1) := by decide +kernel
theorem dX1_dropOldest_1 : decode cX1_dropOldest 1 = .ok (.getfield 23, 3) := by decide +kernel
theorem dX1_dropOldest_4 : decode cX1_dropOldest 4 = .ok (.invokevirtual 105, 3) := by decide +kernel
theorem dX1_dropOldest_7 : decode cX1_dropOldest 7 = .ok (.aload_n 0, 1) := by decide +kernel
theorem dX1_dropOldest_8 : decode cX1_dropOldest 8 = .ok (.getfield 78, 3) := by decide +kernel
theorem dX1_dropOldest_11 : decode cX1_dropOldest 11 = .ok (.ifCond .le 13, 3) := by decide +kernel
theorem dX1_dropOldest_14 : decode cX1_dropOldest 14 = .ok (.aload_n 0, 1) := by decide +kernel
theorem dX1_dropOldest_15 : decode cX1_dropOldest 15 = .ok (.dup, 1) := by decide +kernel
theorem dX1_dropOldest_16 : decode cX1_dropOldest 16 = .ok (.getfield 78, 3) := by decide +kernel
theorem dX1_dropOldest_19 : decode cX1_dropOldest 19 = .ok (.iconst 1, 1) := by decide +kernel
theorem dX1_dropOldest_20 : decode cX1_dropOldest 20 = .ok (.isub, 1) := by decide +kernel
theorem dX1_dropOldest_21 : decode cX1_dropOldest 21 = .ok (.putfield 78, 3) := by decide +kernel
theorem dX1_dropOldest_24 : decode cX1_dropOldest 24 = .ok (.return_, 1) := by decide +kernel
theorem dX1_passUnwanted_0 : decode cX1_passUnwanted 0 = .ok (.aload_n 0, 1) := by decide +kernel
theorem dX1_passUnwanted_1 : decode cX1_passUnwanted 1 = .ok (.getfield 78, 3) := by decide +kernel
theorem dX1_passUnwanted_4 : decode cX1_passUnwanted 4 = .ok (.aload_n 0, 1) := by decide +kernel
theorem dX1_passUnwanted_5 : decode cX1_passUnwanted 5 = .ok (.getfield 23, 3) := by decide +kernel
theorem dX1_passUnwanted_8 : decode cX1_passUnwanted 8 = .ok (.invokevirtual 56, 3) := by decide +kernel
theorem dX1_passUnwanted_11 : decode cX1_passUnwanted 11 = .ok (.if_icmp .ge 34, 3) := by decide +kernel
theorem dX1_passUnwanted_14 : decode cX1_passUnwanted 14 = .ok (.aload_n 0, 1) := by decide +kernel
theorem dX1_passUnwanted_15 : decode cX1_passUnwanted 15 = .ok (.aload_n 0, 1) := by decide +kernel
theorem dX1_passUnwanted_16 : decode cX1_passUnwanted 16 = .ok (.getfield 23, 3) := by decide +kernel
theorem dX1_passUnwanted_19 : decode cX1_passUnwanted 19 = .ok (.aload_n 0, 1) := by decide +kernel
theorem dX1_passUnwanted_20 : decode cX1_passUnwanted 20 = .ok (.getfield 78, 3) := by decide +kernel
theorem dX1_passUnwanted_23 : decode cX1_passUnwanted 23 = .ok (.invokevirtual 59, 3) := by decide +kernel
theorem dX1_passUnwanted_26 : decode cX1_passUnwanted 26 = .ok (.invokevirtual 106, 3) := by decide +kernel
theorem dX1_passUnwanted_29 : decode cX1_passUnwanted 29 = .ok (.ifCond .ne 16, 3) := by decide +kernel
theorem dX1_passUnwanted_32 : decode cX1_passUnwanted 32 = .ok (.aload_n 0, 1) := by decide +kernel
theorem dX1_passUnwanted_33 : decode cX1_passUnwanted 33 = .ok (.dup, 1) := by decide +kernel
theorem dX1_passUnwanted_34 : decode cX1_passUnwanted 34 = .ok (.getfield 78, 3) := by decide +kernel
theorem dX1_passUnwanted_37 : decode cX1_passUnwanted 37 = .ok (.iconst 1, 1) := by decide +kernel
theorem dX1_passUnwanted_38 : decode cX1_passUnwanted 38 = .ok (.iadd, 1) := by decide +kernel
theorem dX1_passUnwanted_39 : decode cX1_passUnwanted 39 = .ok (.putfield 78, 3) := by decide +kernel
theorem dX1_passUnwanted_42 : decode cX1_passUnwanted 42 = .ok (.goto (-42), 3) := by decide +kernel
theorem dX1_passUnwanted_45 : decode cX1_passUnwanted 45 = .ok (.return_, 1) := by decide +kernel
theorem dX1_isWanted_0 : decode cX1_isWanted 0 = .ok (.aload_n 0, 1) := by decide +kernel
theorem dX1_isWanted_1 : decode cX1_isWanted 1 = .ok (.getfield 72, 3) := by decide +kernel
theorem dX1_isWanted_4 : decode cX1_isWanted 4 = .ok (.iload_n 1, 1) := by decide +kernel
theorem dX1_isWanted_5 : decode cX1_isWanted 5 = .ok (.if_icmp .gt 15, 3) := by decide +kernel
theorem dX1_isWanted_8 : decode cX1_isWanted 8 = .ok (.iload_n 1, 1) := by decide +kernel
theorem dX1_isWanted_9 : decode cX1_isWanted 9 = .ok (.aload_n 0, 1) := by decide +kernel
theorem dX1_isWanted_10 : decode cX1_isWanted 10 = .ok (.getfield 75, 3) := by decide +kernel
theorem dX1_isWanted_13 : decode cX1_isWanted 13 = .ok (.if_icmp .gt 7, 3) := by decide +kernel
theorem dX1_isWanted_16 : decode cX1_isWanted 16 = .ok (.iconst 1, 1) := by decide +kernel
theorem dX1_isWanted_17 : decode cX1_isWanted 17 = .ok (.goto 4, 3) := by decide +kernel
theorem dX1_isWanted_20 : decode cX1_isWanted 20 = .ok (.iconst 0, 1) := by decide +kernel
theorem dX1_isWanted_21 : decode cX1_isWanted 21 = .ok (.ireturn, 1) := by decide +kernel
theorem dL_cell_0 : decode cL_cell 0 = .ok (.iload_n 1, 1) := by decide +kernel
theorem dL_cell_1 : decode cL_cell 1 = .ok (.aload_n 0, 1) := by decide +kernel
theorem dL_cell_2 : decode cL_cell 2 = .ok (.arraylength, 1) := by decide +kernel
theorem dL_cell_3 : decode cL_cell 3 = .ok (.if_icmp .ge 9, 3) := by decide +kernel
theorem dL_cell_6 : decode cL_cell 6 = .ok (.aload_n 0, 1) := by decide +kernel
theorem dL_cell_7 : decode cL_cell 7 = .ok (.iload_n 1, 1) := by decide +kernel
theorem dL_cell_8 : decode cL_cell 8 = .ok (.iaload, 1) := by decide +kernel
theorem dL_cell_9 : decode cL_cell 9 = .ok (.goto 4, 3) := by decide +kernel
theorem dL_cell_12 : decode cL_cell 12 = .ok (.iconst 0, 1) := by decide +kernel
theorem dL_cell_13 : decode cL_cell 13 = .ok (.ireturn, 1) := by decide +kernel
end
section
def RM : String := "PacketStoreModel"
def TM : u_T := fun k => match k with
  | 0 => ("PacketStoreModel", "thrown", "I", false)
  | 1 => ("PacketStoreModel", "room", "I", true)
  | 2 => ("PacketStoreModel", "text", "[B", true)
  | 3 => ("PacketStoreModel", "textSize", "I", false)
  | 4 => ("PacketStoreModel", "out", "[B", true)
  | 5 => ("PacketStoreModel", "outSize", "I", false)
  | 6 => ("PacketStoreModel", "many", "I", false)
  | 7 => ("PacketStoreModel", "time", "[I", true)
  | 8 => ("PacketStoreModel", "size", "[I", true)
  | 9 => ("PacketStoreModel", "bytes", "[B", true)
  | 10 => ("PacketStoreModel", "used", "I", false)
  | 11 => ("PacketStoreModel", "came", "I", false)
  | 12 => ("PacketStoreModel", "driven", "I", false)
  | 13 => ("PacketStoreModel", "deleted", "I", false)
  | 14 => ("PacketStoreModel", "retrieves", "Z", false)
  | 15 => ("PacketStoreModel", "from", "I", false)
  | 16 => ("PacketStoreModel", "to", "I", false)
  | _ => ("PacketStoreModel", "looks", "I", false)
def tyM : Nat → FieldType := fun k => match k with
  | 0 => .int
  | 1 => .int
  | 2 => .array .byte
  | 3 => .int
  | 4 => .array .byte
  | 5 => .int
  | 6 => .int
  | 7 => .array .int
  | 8 => .array .int
  | 9 => .array .byte
  | 10 => .int
  | 11 => .int
  | 12 => .int
  | 13 => .int
  | 14 => .boolean
  | 15 => .int
  | 16 => .int
  | _ => .int
abbrev wsM0 : List Cond := u_ws RM TM 18
theorem nmM : ∀ a, a < 18 → ∀ b, b < 18 → a ≠ b → (TM a).2.1 ≠ (TM b).2.1 := by decide +kernel
theorem tyM_ok : ∀ k, k < 18 → parseFieldDescriptor (TM k).2.2.1 = some (tyM k) := by decide +kernel
abbrev cM_start : ByteArray := prog_4_method_3_code
def yM_start : MethodName := ⟨RM, "start", "(I)I"⟩
abbrev cM_goes : ByteArray := prog_4_method_4_code
def yM_goes : MethodName := ⟨RM, "goes", "()V"⟩
abbrev cM_init : ByteArray := prog_4_method_1_code
def yM_init : MethodName := ⟨RM, "<init>", "(I)V"⟩
abbrev cM_put : ByteArray := prog_4_method_5_code
def yM_put : MethodName := ⟨RM, "put", "(I)I"⟩
abbrev cM_keep : ByteArray := prog_4_method_6_code
def yM_keep : MethodName := ⟨RM, "keep", "(I)I"⟩
abbrev cM_delete : ByteArray := prog_4_method_7_code
def yM_delete : MethodName := ⟨RM, "delete", "(I)I"⟩
abbrev cM_begin : ByteArray := prog_4_method_8_code
def yM_begin : MethodName := ⟨RM, "begin", "(II)Z"⟩
abbrev cM_stop : ByteArray := prog_4_method_9_code
def yM_stop : MethodName := ⟨RM, "stop", "()Z"⟩
abbrev cM_next : ByteArray := prog_4_method_10_code
def yM_next : MethodName := ⟨RM, "next", "(I)I"⟩
abbrev cM_out : ByteArray := prog_4_method_11_code
def yM_out : MethodName := ⟨RM, "out", "(I)I"⟩
abbrev cM_count : ByteArray := prog_4_method_12_code
def yM_count : MethodName := ⟨RM, "count", "(I)I"⟩
abbrev cM_about : ByteArray := prog_4_method_13_code
def yM_about : MethodName := ⟨RM, "about", "(II)I"⟩
abbrev cM_byteAt : ByteArray := prog_4_method_14_code
def yM_byteAt : MethodName := ⟨RM, "byteAt", "(II)I"⟩
def wsM_start : List Cond := .code yM_start cM_start 4 (some .int) :: ([.fieldLink RM 20 "PacketStoreModel" "size" "[I"] ++ wsM0)
def wsM_goes : List Cond := .code yM_goes cM_goes 3 none :: ([.fieldLink RM 20 "PacketStoreModel" "size" "[I", .fieldLink RM 33 "PacketStoreModel" "used" "I", .fieldLink RM 23 "PacketStoreModel" "bytes" "[B", .fieldLink RM 36 "PacketStoreModel" "many" "I", .fieldLink RM 16 "PacketStoreModel" "time" "[I"] ++ wsM0)
def wsM_init : List Cond := .code yM_init cM_init 2 none :: ([.methodLink RM 1 objectInit, .instanceMethod objectInit, .code objectInit ⟨#[0xb1]⟩ 1 none, .arrayClass .byte, .fieldLink RM 7 "PacketStoreModel" "text" "[B", .fieldLink RM 13 "PacketStoreModel" "out" "[B", .arrayClass .int, .fieldLink RM 16 "PacketStoreModel" "time" "[I", .fieldLink RM 20 "PacketStoreModel" "size" "[I", .fieldLink RM 23 "PacketStoreModel" "bytes" "[B", .fieldLink RM 26 "PacketStoreModel" "room" "I"] ++ wsM0)
def wsM_put : List Cond := .code yM_put cM_put 2 (some .int) :: ([.fieldLink RM 30 "PacketStoreModel" "thrown" "I", .fieldLink RM 39 "PacketStoreModel" "textSize" "I", .fieldLink RM 7 "PacketStoreModel" "text" "[B"] ++ wsM0)
def wsM_keep : List Cond := .code yM_keep cM_keep 5 (some .int) :: ([.fieldLink RM 30 "PacketStoreModel" "thrown" "I", .fieldLink RM 39 "PacketStoreModel" "textSize" "I", .fieldLink RM 26 "PacketStoreModel" "room" "I", .fieldLink RM 33 "PacketStoreModel" "used" "I", .fieldLink RM 45 "PacketStoreModel" "driven" "I", .fieldLink RM 23 "PacketStoreModel" "bytes" "[B", .fieldLink RM 7 "PacketStoreModel" "text" "[B", .fieldLink RM 16 "PacketStoreModel" "time" "[I", .fieldLink RM 36 "PacketStoreModel" "many" "I", .fieldLink RM 20 "PacketStoreModel" "size" "[I", .fieldLink RM 48 "PacketStoreModel" "came" "I", .methodLink RM 42 yM_goes, .instanceMethod yM_goes, .selects RM yM_goes yM_goes, .initialized RM, .code yM_goes cM_goes 3 none] ++ wsM0)
set_option maxRecDepth 20000 in
theorem gM_keep_goes : GoodIn wsM_keep (wsV RM 42 RM yM_goes wsM_goes) := goodIn_p _ [16] rfl (by decide +kernel)
def wsM_delete : List Cond := .code yM_delete cM_delete 3 (some .int) :: ([.fieldLink RM 30 "PacketStoreModel" "thrown" "I", .fieldLink RM 36 "PacketStoreModel" "many" "I", .fieldLink RM 16 "PacketStoreModel" "time" "[I", .fieldLink RM 51 "PacketStoreModel" "deleted" "I", .methodLink RM 42 yM_goes, .instanceMethod yM_goes, .selects RM yM_goes yM_goes, .initialized RM, .code yM_goes cM_goes 3 none, .fieldLink RM 20 "PacketStoreModel" "size" "[I", .fieldLink RM 33 "PacketStoreModel" "used" "I", .fieldLink RM 23 "PacketStoreModel" "bytes" "[B"] ++ wsM0)
set_option maxRecDepth 20000 in
theorem gM_delete_goes : GoodIn wsM_delete (wsV RM 42 RM yM_goes wsM_goes) := goodIn_p _ [9] rfl (by decide +kernel)
def wsM_begin : List Cond := .code yM_begin cM_begin 3 (some .boolean) :: ([.fieldLink RM 30 "PacketStoreModel" "thrown" "I", .fieldLink RM 54 "PacketStoreModel" "retrieves" "Z", .fieldLink RM 58 "PacketStoreModel" "from" "I", .fieldLink RM 61 "PacketStoreModel" "to" "I", .fieldLink RM 48 "PacketStoreModel" "came" "I", .fieldLink RM 36 "PacketStoreModel" "many" "I", .fieldLink RM 64 "PacketStoreModel" "looks" "I"] ++ wsM0)
def wsM_stop : List Cond := .code yM_stop cM_stop 2 (some .boolean) :: ([.fieldLink RM 30 "PacketStoreModel" "thrown" "I", .fieldLink RM 54 "PacketStoreModel" "retrieves" "Z"] ++ wsM0)
def wsM_next : List Cond := .code yM_next cM_next 5 (some .int) :: ([.fieldLink RM 30 "PacketStoreModel" "thrown" "I", .fieldLink RM 54 "PacketStoreModel" "retrieves" "Z", .fieldLink RM 64 "PacketStoreModel" "looks" "I", .fieldLink RM 48 "PacketStoreModel" "came" "I", .fieldLink RM 36 "PacketStoreModel" "many" "I", .fieldLink RM 16 "PacketStoreModel" "time" "[I", .fieldLink RM 58 "PacketStoreModel" "from" "I", .fieldLink RM 61 "PacketStoreModel" "to" "I", .fieldLink RM 20 "PacketStoreModel" "size" "[I", .fieldLink RM 13 "PacketStoreModel" "out" "[B", .fieldLink RM 23 "PacketStoreModel" "bytes" "[B", .fieldLink RM 71 "PacketStoreModel" "outSize" "I", .methodLink RM 67 yM_start, .instanceMethod yM_start, .selects RM yM_start yM_start, .initialized RM, .code yM_start cM_start 4 (some .int)] ++ wsM0)
set_option maxRecDepth 20000 in
theorem gM_next_start : GoodIn wsM_next (wsV RM 67 RM yM_start wsM_start) := goodIn_p _ [17] rfl (by decide +kernel)
def wsM_out : List Cond := .code yM_out cM_out 2 (some .int) :: ([.fieldLink RM 30 "PacketStoreModel" "thrown" "I", .fieldLink RM 71 "PacketStoreModel" "outSize" "I", .fieldLink RM 13 "PacketStoreModel" "out" "[B"] ++ wsM0)
def wsM_count : List Cond := .code yM_count cM_count 2 (some .int) :: ([.fieldLink RM 30 "PacketStoreModel" "thrown" "I", .fieldLink RM 36 "PacketStoreModel" "many" "I", .fieldLink RM 33 "PacketStoreModel" "used" "I", .fieldLink RM 48 "PacketStoreModel" "came" "I", .fieldLink RM 45 "PacketStoreModel" "driven" "I", .fieldLink RM 51 "PacketStoreModel" "deleted" "I", .fieldLink RM 54 "PacketStoreModel" "retrieves" "Z", .fieldLink RM 71 "PacketStoreModel" "outSize" "I", .fieldLink RM 26 "PacketStoreModel" "room" "I"] ++ wsM0)
def wsM_about : List Cond := .code yM_about cM_about 3 (some .int) :: ([.fieldLink RM 30 "PacketStoreModel" "thrown" "I", .fieldLink RM 36 "PacketStoreModel" "many" "I", .fieldLink RM 16 "PacketStoreModel" "time" "[I", .fieldLink RM 20 "PacketStoreModel" "size" "[I"] ++ wsM0)
def wsM_byteAt : List Cond := .code yM_byteAt cM_byteAt 3 (some .int) :: ([.fieldLink RM 30 "PacketStoreModel" "thrown" "I", .fieldLink RM 36 "PacketStoreModel" "many" "I", .fieldLink RM 20 "PacketStoreModel" "size" "[I", .fieldLink RM 23 "PacketStoreModel" "bytes" "[B", .methodLink RM 67 yM_start, .instanceMethod yM_start, .selects RM yM_start yM_start, .initialized RM, .code yM_start cM_start 4 (some .int)] ++ wsM0)
set_option maxRecDepth 20000 in
theorem gM_byteAt_start : GoodIn wsM_byteAt (wsV RM 67 RM yM_start wsM_start) := goodIn_p _ [9] rfl (by decide +kernel)
abbrev vwCl : List vw_C := [(RX0, TX0, 8), (RX1, TX1, 12), (RM, TM, 18)]
end
section
theorem dM_start_0 : decode cM_start 0 = .ok (.iconst 0, 1) := by decide +kernel
theorem dM_start_1 : decode cM_start 1 = .ok (.istore_n 2, 1) := by decide +kernel
theorem dM_start_2 : decode cM_start 2 = .ok (.iconst 0, 1) := by decide +kernel
theorem dM_start_3 : decode cM_start 3 = .ok (.istore_n 3, 1) := by decide +kernel
theorem dM_start_4 : decode cM_start 4 = .ok (.iload_n 3, 1) := by decide +kernel
theorem dM_start_5 : decode cM_start 5 = .ok (.iload_n 1, 1) := by decide +kernel
theorem dM_start_6 : decode cM_start 6 = .ok (.if_icmp .ge 18, 3) := by decide +kernel
theorem dM_start_9 : decode cM_start 9 = .ok (.iload_n 2, 1) := by decide +kernel
theorem dM_start_10 : decode cM_start 10 = .ok (.aload_n 0, 1) := by decide +kernel
theorem dM_start_11 : decode cM_start 11 = .ok (.getfield 20, 3) := by decide +kernel
theorem dM_start_14 : decode cM_start 14 = .ok (.iload_n 3, 1) := by decide +kernel
theorem dM_start_15 : decode cM_start 15 = .ok (.iaload, 1) := by decide +kernel
theorem dM_start_16 : decode cM_start 16 = .ok (.iadd, 1) := by decide +kernel
theorem dM_start_17 : decode cM_start 17 = .ok (.istore_n 2, 1) := by decide +kernel
theorem dM_start_18 : decode cM_start 18 = .ok (.iinc 3 1, 3) := by decide +kernel
theorem dM_start_21 : decode cM_start 21 = .ok (.goto (-17), 3) := by decide +kernel
theorem dM_start_24 : decode cM_start 24 = .ok (.iload_n 2, 1) := by decide +kernel
theorem dM_start_25 : decode cM_start 25 = .ok (.ireturn, 1) := by decide +kernel
theorem dM_goes_0 : decode cM_goes 0 = .ok (.aload_n 0, 1) := by decide +kernel
theorem dM_goes_1 : decode cM_goes 1 = .ok (.getfield 20, 3) := by decide +kernel
theorem dM_goes_4 : decode cM_goes 4 = .ok (.iconst 0, 1) := by decide +kernel
theorem dM_goes_5 : decode cM_goes 5 = .ok (.iaload, 1) := by decide +kernel
theorem dM_goes_6 : decode cM_goes 6 = .ok (.istore_n 1, 1) := by decide +kernel
theorem dM_goes_7 : decode cM_goes 7 = .ok (.iconst 0, 1) := by decide +kernel
theorem dM_goes_8 : decode cM_goes 8 = .ok (.istore_n 2, 1) := by decide +kernel
theorem dM_goes_9 : decode cM_goes 9 = .ok (.iload_n 2, 1) := by decide +kernel
theorem dM_goes_10 : decode cM_goes 10 = .ok (.iload_n 1, 1) := by decide +kernel
theorem dM_goes_11 : decode cM_goes 11 = .ok (.iadd, 1) := by decide +kernel
theorem dM_goes_12 : decode cM_goes 12 = .ok (.aload_n 0, 1) := by decide +kernel
theorem dM_goes_13 : decode cM_goes 13 = .ok (.getfield 33, 3) := by decide +kernel
theorem dM_goes_16 : decode cM_goes 16 = .ok (.if_icmp .ge 23, 3) := by decide +kernel
theorem dM_goes_19 : decode cM_goes 19 = .ok (.aload_n 0, 1) := by decide +kernel
theorem dM_goes_20 : decode cM_goes 20 = .ok (.getfield 23, 3) := by decide +kernel
theorem dM_goes_23 : decode cM_goes 23 = .ok (.iload_n 2, 1) := by decide +kernel
theorem dM_goes_24 : decode cM_goes 24 = .ok (.aload_n 0, 1) := by decide +kernel
theorem dM_goes_25 : decode cM_goes 25 = .ok (.getfield 23, 3) := by decide +kernel
theorem dM_goes_28 : decode cM_goes 28 = .ok (.iload_n 2, 1) := by decide +kernel
theorem dM_goes_29 : decode cM_goes 29 = .ok (.iload_n 1, 1) := by decide +kernel
theorem dM_goes_30 : decode cM_goes 30 = .ok (.iadd, 1) := by decide +kernel
theorem dM_goes_31 : decode cM_goes 31 = .ok (.baload, 1) := by decide +kernel
theorem dM_goes_32 : decode cM_goes 32 = .ok (.bastore, 1) := by decide +kernel
theorem dM_goes_33 : decode cM_goes 33 = .ok (.iinc 2 1, 3) := by decide +kernel
theorem dM_goes_36 : decode cM_goes 36 = .ok (.goto (-27), 3) := by decide +kernel
theorem dM_goes_39 : decode cM_goes 39 = .ok (.aload_n 0, 1) := by decide +kernel
theorem dM_goes_40 : decode cM_goes 40 = .ok (.dup, 1) := by decide +kernel
theorem dM_goes_41 : decode cM_goes 41 = .ok (.getfield 33, 3) := by decide +kernel
theorem dM_goes_44 : decode cM_goes 44 = .ok (.iload_n 1, 1) := by decide +kernel
theorem dM_goes_45 : decode cM_goes 45 = .ok (.isub, 1) := by decide +kernel
theorem dM_goes_46 : decode cM_goes 46 = .ok (.putfield 33, 3) := by decide +kernel
theorem dM_goes_49 : decode cM_goes 49 = .ok (.aload_n 0, 1) := by decide +kernel
theorem dM_goes_50 : decode cM_goes 50 = .ok (.dup, 1) := by decide +kernel
theorem dM_goes_51 : decode cM_goes 51 = .ok (.getfield 36, 3) := by decide +kernel
theorem dM_goes_54 : decode cM_goes 54 = .ok (.iconst 1, 1) := by decide +kernel
theorem dM_goes_55 : decode cM_goes 55 = .ok (.isub, 1) := by decide +kernel
theorem dM_goes_56 : decode cM_goes 56 = .ok (.putfield 36, 3) := by decide +kernel
theorem dM_goes_59 : decode cM_goes 59 = .ok (.iconst 0, 1) := by decide +kernel
theorem dM_goes_60 : decode cM_goes 60 = .ok (.istore_n 2, 1) := by decide +kernel
theorem dM_goes_61 : decode cM_goes 61 = .ok (.iload_n 2, 1) := by decide +kernel
theorem dM_goes_62 : decode cM_goes 62 = .ok (.aload_n 0, 1) := by decide +kernel
theorem dM_goes_63 : decode cM_goes 63 = .ok (.getfield 36, 3) := by decide +kernel
theorem dM_goes_66 : decode cM_goes 66 = .ok (.if_icmp .ge 37, 3) := by decide +kernel
theorem dM_goes_69 : decode cM_goes 69 = .ok (.aload_n 0, 1) := by decide +kernel
theorem dM_goes_70 : decode cM_goes 70 = .ok (.getfield 16, 3) := by decide +kernel
theorem dM_goes_73 : decode cM_goes 73 = .ok (.iload_n 2, 1) := by decide +kernel
theorem dM_goes_74 : decode cM_goes 74 = .ok (.aload_n 0, 1) := by decide +kernel
theorem dM_goes_75 : decode cM_goes 75 = .ok (.getfield 16, 3) := by decide +kernel
theorem dM_goes_78 : decode cM_goes 78 = .ok (.iload_n 2, 1) := by decide +kernel
theorem dM_goes_79 : decode cM_goes 79 = .ok (.iconst 1, 1) := by decide +kernel
theorem dM_goes_80 : decode cM_goes 80 = .ok (.iadd, 1) := by decide +kernel
theorem dM_goes_81 : decode cM_goes 81 = .ok (.iaload, 1) := by decide +kernel
theorem dM_goes_82 : decode cM_goes 82 = .ok (.iastore, 1) := by decide +kernel
theorem dM_goes_83 : decode cM_goes 83 = .ok (.aload_n 0, 1) := by decide +kernel
theorem dM_goes_84 : decode cM_goes 84 = .ok (.getfield 20, 3) := by decide +kernel
theorem dM_goes_87 : decode cM_goes 87 = .ok (.iload_n 2, 1) := by decide +kernel
theorem dM_goes_88 : decode cM_goes 88 = .ok (.aload_n 0, 1) := by decide +kernel
theorem dM_goes_89 : decode cM_goes 89 = .ok (.getfield 20, 3) := by decide +kernel
theorem dM_goes_92 : decode cM_goes 92 = .ok (.iload_n 2, 1) := by decide +kernel
theorem dM_goes_93 : decode cM_goes 93 = .ok (.iconst 1, 1) := by decide +kernel
theorem dM_goes_94 : decode cM_goes 94 = .ok (.iadd, 1) := by decide +kernel
theorem dM_goes_95 : decode cM_goes 95 = .ok (.iaload, 1) := by decide +kernel
theorem dM_goes_96 : decode cM_goes 96 = .ok (.iastore, 1) := by decide +kernel
theorem dM_goes_97 : decode cM_goes 97 = .ok (.iinc 2 1, 3) := by decide +kernel
theorem dM_goes_100 : decode cM_goes 100 = .ok (.goto (-39), 3) := by decide +kernel
theorem dM_goes_103 : decode cM_goes 103 = .ok (.return_, 1) := by decide +kernel
theorem dM_init_0 : decode cM_init 0 = .ok (.aload_n 0, 1) := by decide +kernel
theorem dM_init_1 : decode cM_init 1 = .ok (.invokespecial 1, 3) := by decide +kernel
theorem dM_init_4 : decode cM_init 4 = .ok (.aload_n 0, 1) := by decide +kernel
theorem dM_init_5 : decode cM_init 5 = .ok (.sipush 512, 3) := by decide +kernel
theorem dM_init_8 : decode cM_init 8 = .ok (.newarray .byte, 2) := by decide +kernel
theorem dM_init_10 : decode cM_init 10 = .ok (.putfield 7, 3) := by decide +kernel
theorem dM_init_13 : decode cM_init 13 = .ok (.aload_n 0, 1) := by decide +kernel
theorem dM_init_14 : decode cM_init 14 = .ok (.sipush 512, 3) := by decide +kernel
theorem dM_init_17 : decode cM_init 17 = .ok (.newarray .byte, 2) := by decide +kernel
theorem dM_init_19 : decode cM_init 19 = .ok (.putfield 13, 3) := by decide +kernel
theorem dM_init_22 : decode cM_init 22 = .ok (.aload_n 0, 1) := by decide +kernel
theorem dM_init_23 : decode cM_init 23 = .ok (.sipush 16384, 3) := by decide +kernel
theorem dM_init_26 : decode cM_init 26 = .ok (.newarray .int, 2) := by decide +kernel
theorem dM_init_28 : decode cM_init 28 = .ok (.putfield 16, 3) := by decide +kernel
theorem dM_init_31 : decode cM_init 31 = .ok (.aload_n 0, 1) := by decide +kernel
theorem dM_init_32 : decode cM_init 32 = .ok (.sipush 16384, 3) := by decide +kernel
theorem dM_init_35 : decode cM_init 35 = .ok (.newarray .int, 2) := by decide +kernel
theorem dM_init_37 : decode cM_init 37 = .ok (.putfield 20, 3) := by decide +kernel
theorem dM_init_40 : decode cM_init 40 = .ok (.aload_n 0, 1) := by decide +kernel
theorem dM_init_41 : decode cM_init 41 = .ok (.sipush 16384, 3) := by decide +kernel
theorem dM_init_44 : decode cM_init 44 = .ok (.newarray .byte, 2) := by decide +kernel
theorem dM_init_46 : decode cM_init 46 = .ok (.putfield 23, 3) := by decide +kernel
theorem dM_init_49 : decode cM_init 49 = .ok (.aload_n 0, 1) := by decide +kernel
theorem dM_init_50 : decode cM_init 50 = .ok (.iload_n 1, 1) := by decide +kernel
theorem dM_init_51 : decode cM_init 51 = .ok (.bipush 64, 2) := by decide +kernel
theorem dM_init_53 : decode cM_init 53 = .ok (.if_icmp .ge 8, 3) := by decide +kernel
theorem dM_init_56 : decode cM_init 56 = .ok (.bipush 64, 2) := by decide +kernel
theorem dM_init_58 : decode cM_init 58 = .ok (.goto 17, 3) := by decide +kernel
theorem dM_init_61 : decode cM_init 61 = .ok (.iload_n 1, 1) := by decide +kernel
theorem dM_init_62 : decode cM_init 62 = .ok (.sipush 16384, 3) := by decide +kernel
theorem dM_init_65 : decode cM_init 65 = .ok (.if_icmp .le 9, 3) := by decide +kernel
theorem dM_init_68 : decode cM_init 68 = .ok (.sipush 16384, 3) := by decide +kernel
theorem dM_init_71 : decode cM_init 71 = .ok (.goto 4, 3) := by decide +kernel
theorem dM_init_74 : decode cM_init 74 = .ok (.iload_n 1, 1) := by decide +kernel
theorem dM_init_75 : decode cM_init 75 = .ok (.putfield 26, 3) := by decide +kernel
theorem dM_init_78 : decode cM_init 78 = .ok (.return_, 1) := by decide +kernel
theorem dM_put_0 : decode cM_put 0 = .ok (.aload_n 0, 1) := by decide +kernel
theorem dM_put_1 : decode cM_put 1 = .ok (.iconst 0, 1) := by decide +kernel
theorem dM_put_2 : decode cM_put 2 = .ok (.putfield 30, 3) := by decide +kernel
theorem dM_put_5 : decode cM_put 5 = .ok (.aload_n 0, 1) := by decide +kernel
theorem dM_put_6 : decode cM_put 6 = .ok (.getfield 39, 3) := by decide +kernel
theorem dM_put_9 : decode cM_put 9 = .ok (.sipush 512, 3) := by decide +kernel
theorem dM_put_12 : decode cM_put 12 = .ok (.if_icmp .ne 5, 3) := by decide +kernel
theorem dM_put_15 : decode cM_put 15 = .ok (.iconst (-1), 1) := by decide +kernel
theorem dM_put_16 : decode cM_put 16 = .ok (.ireturn, 1) := by decide +kernel
theorem dM_put_17 : decode cM_put 17 = .ok (.aload_n 0, 1) := by decide +kernel
theorem dM_put_18 : decode cM_put 18 = .ok (.getfield 7, 3) := by decide +kernel
theorem dM_put_21 : decode cM_put 21 = .ok (.aload_n 0, 1) := by decide +kernel
theorem dM_put_22 : decode cM_put 22 = .ok (.getfield 39, 3) := by decide +kernel
theorem dM_put_25 : decode cM_put 25 = .ok (.iload_n 1, 1) := by decide +kernel
theorem dM_put_26 : decode cM_put 26 = .ok (.i2b, 1) := by decide +kernel
theorem dM_put_27 : decode cM_put 27 = .ok (.bastore, 1) := by decide +kernel
theorem dM_put_28 : decode cM_put 28 = .ok (.aload_n 0, 1) := by decide +kernel
theorem dM_put_29 : decode cM_put 29 = .ok (.dup, 1) := by decide +kernel
theorem dM_put_30 : decode cM_put 30 = .ok (.getfield 39, 3) := by decide +kernel
theorem dM_put_33 : decode cM_put 33 = .ok (.iconst 1, 1) := by decide +kernel
theorem dM_put_34 : decode cM_put 34 = .ok (.iadd, 1) := by decide +kernel
theorem dM_put_35 : decode cM_put 35 = .ok (.putfield 39, 3) := by decide +kernel
theorem dM_put_38 : decode cM_put 38 = .ok (.aload_n 0, 1) := by decide +kernel
theorem dM_put_39 : decode cM_put 39 = .ok (.getfield 39, 3) := by decide +kernel
theorem dM_put_42 : decode cM_put 42 = .ok (.ireturn, 1) := by decide +kernel
theorem dM_keep_0 : decode cM_keep 0 = .ok (.aload_n 0, 1) := by decide +kernel
theorem dM_keep_1 : decode cM_keep 1 = .ok (.iconst 0, 1) := by decide +kernel
theorem dM_keep_2 : decode cM_keep 2 = .ok (.putfield 30, 3) := by decide +kernel
theorem dM_keep_5 : decode cM_keep 5 = .ok (.aload_n 0, 1) := by decide +kernel
theorem dM_keep_6 : decode cM_keep 6 = .ok (.getfield 39, 3) := by decide +kernel
theorem dM_keep_9 : decode cM_keep 9 = .ok (.istore_n 2, 1) := by decide +kernel
theorem dM_keep_10 : decode cM_keep 10 = .ok (.aload_n 0, 1) := by decide +kernel
theorem dM_keep_11 : decode cM_keep 11 = .ok (.iconst 0, 1) := by decide +kernel
theorem dM_keep_12 : decode cM_keep 12 = .ok (.putfield 39, 3) := by decide +kernel
theorem dM_keep_15 : decode cM_keep 15 = .ok (.iload_n 2, 1) := by decide +kernel
theorem dM_keep_16 : decode cM_keep 16 = .ok (.ifCond .ne 5, 3) := by decide +kernel
theorem dM_keep_19 : decode cM_keep 19 = .ok (.iconst (-1), 1) := by decide +kernel
theorem dM_keep_20 : decode cM_keep 20 = .ok (.ireturn, 1) := by decide +kernel
theorem dM_keep_21 : decode cM_keep 21 = .ok (.iload_n 2, 1) := by decide +kernel
theorem dM_keep_22 : decode cM_keep 22 = .ok (.aload_n 0, 1) := by decide +kernel
theorem dM_keep_23 : decode cM_keep 23 = .ok (.getfield 26, 3) := by decide +kernel
theorem dM_keep_26 : decode cM_keep 26 = .ok (.if_icmp .le 6, 3) := by decide +kernel
theorem dM_keep_29 : decode cM_keep 29 = .ok (.bipush (-2), 2) := by decide +kernel
theorem dM_keep_31 : decode cM_keep 31 = .ok (.ireturn, 1) := by decide +kernel
theorem dM_keep_32 : decode cM_keep 32 = .ok (.iconst 0, 1) := by decide +kernel
theorem dM_keep_33 : decode cM_keep 33 = .ok (.istore_n 3, 1) := by decide +kernel
theorem dM_keep_34 : decode cM_keep 34 = .ok (.aload_n 0, 1) := by decide +kernel
theorem dM_keep_35 : decode cM_keep 35 = .ok (.getfield 33, 3) := by decide +kernel
theorem dM_keep_38 : decode cM_keep 38 = .ok (.iload_n 2, 1) := by decide +kernel
theorem dM_keep_39 : decode cM_keep 39 = .ok (.iadd, 1) := by decide +kernel
theorem dM_keep_40 : decode cM_keep 40 = .ok (.aload_n 0, 1) := by decide +kernel
theorem dM_keep_41 : decode cM_keep 41 = .ok (.getfield 26, 3) := by decide +kernel
theorem dM_keep_44 : decode cM_keep 44 = .ok (.if_icmp .le 13, 3) := by decide +kernel
theorem dM_keep_47 : decode cM_keep 47 = .ok (.aload_n 0, 1) := by decide +kernel
theorem dM_keep_48 : decode cM_keep 48 = .ok (.invokevirtual 42, 3) := by decide +kernel
theorem dM_keep_51 : decode cM_keep 51 = .ok (.iinc 3 1, 3) := by decide +kernel
theorem dM_keep_54 : decode cM_keep 54 = .ok (.goto (-20), 3) := by decide +kernel
theorem dM_keep_57 : decode cM_keep 57 = .ok (.aload_n 0, 1) := by decide +kernel
theorem dM_keep_58 : decode cM_keep 58 = .ok (.dup, 1) := by decide +kernel
theorem dM_keep_59 : decode cM_keep 59 = .ok (.getfield 45, 3) := by decide +kernel
theorem dM_keep_62 : decode cM_keep 62 = .ok (.iload_n 3, 1) := by decide +kernel
theorem dM_keep_63 : decode cM_keep 63 = .ok (.iadd, 1) := by decide +kernel
theorem dM_keep_64 : decode cM_keep 64 = .ok (.putfield 45, 3) := by decide +kernel
theorem dM_keep_67 : decode cM_keep 67 = .ok (.iconst 0, 1) := by decide +kernel
theorem dM_keep_68 : decode cM_keep 68 = .ok (.istore 4, 2) := by decide +kernel
theorem dM_keep_70 : decode cM_keep 70 = .ok (.iload 4, 2) := by decide +kernel
theorem dM_keep_72 : decode cM_keep 72 = .ok (.iload_n 2, 1) := by decide +kernel
theorem dM_keep_73 : decode cM_keep 73 = .ok (.if_icmp .ge 28, 3) := by decide +kernel
theorem dM_keep_76 : decode cM_keep 76 = .ok (.aload_n 0, 1) := by decide +kernel
theorem dM_keep_77 : decode cM_keep 77 = .ok (.getfield 23, 3) := by decide +kernel
theorem dM_keep_80 : decode cM_keep 80 = .ok (.aload_n 0, 1) := by decide +kernel
theorem dM_keep_81 : decode cM_keep 81 = .ok (.getfield 33, 3) := by decide +kernel
theorem dM_keep_84 : decode cM_keep 84 = .ok (.iload 4, 2) := by decide +kernel
theorem dM_keep_86 : decode cM_keep 86 = .ok (.iadd, 1) := by decide +kernel
theorem dM_keep_87 : decode cM_keep 87 = .ok (.aload_n 0, 1) := by decide +kernel
theorem dM_keep_88 : decode cM_keep 88 = .ok (.getfield 7, 3) := by decide +kernel
theorem dM_keep_91 : decode cM_keep 91 = .ok (.iload 4, 2) := by decide +kernel
theorem dM_keep_93 : decode cM_keep 93 = .ok (.baload, 1) := by decide +kernel
theorem dM_keep_94 : decode cM_keep 94 = .ok (.bastore, 1) := by decide +kernel
theorem dM_keep_95 : decode cM_keep 95 = .ok (.iinc 4 1, 3) := by decide +kernel
theorem dM_keep_98 : decode cM_keep 98 = .ok (.goto (-28), 3) := by decide +kernel
theorem dM_keep_101 : decode cM_keep 101 = .ok (.aload_n 0, 1) := by decide +kernel
theorem dM_keep_102 : decode cM_keep 102 = .ok (.dup, 1) := by decide +kernel
theorem dM_keep_103 : decode cM_keep 103 = .ok (.getfield 33, 3) := by decide +kernel
theorem dM_keep_106 : decode cM_keep 106 = .ok (.iload_n 2, 1) := by decide +kernel
theorem dM_keep_107 : decode cM_keep 107 = .ok (.iadd, 1) := by decide +kernel
theorem dM_keep_108 : decode cM_keep 108 = .ok (.putfield 33, 3) := by decide +kernel
theorem dM_keep_111 : decode cM_keep 111 = .ok (.aload_n 0, 1) := by decide +kernel
theorem dM_keep_112 : decode cM_keep 112 = .ok (.getfield 16, 3) := by decide +kernel
theorem dM_keep_115 : decode cM_keep 115 = .ok (.aload_n 0, 1) := by decide +kernel
theorem dM_keep_116 : decode cM_keep 116 = .ok (.getfield 36, 3) := by decide +kernel
theorem dM_keep_119 : decode cM_keep 119 = .ok (.iload_n 1, 1) := by decide +kernel
theorem dM_keep_120 : decode cM_keep 120 = .ok (.iastore, 1) := by decide +kernel
theorem dM_keep_121 : decode cM_keep 121 = .ok (.aload_n 0, 1) := by decide +kernel
theorem dM_keep_122 : decode cM_keep 122 = .ok (.getfield 20, 3) := by decide +kernel
theorem dM_keep_125 : decode cM_keep 125 = .ok (.aload_n 0, 1) := by decide +kernel
theorem dM_keep_126 : decode cM_keep 126 = .ok (.getfield 36, 3) := by decide +kernel
theorem dM_keep_129 : decode cM_keep 129 = .ok (.iload_n 2, 1) := by decide +kernel
theorem dM_keep_130 : decode cM_keep 130 = .ok (.iastore, 1) := by decide +kernel
theorem dM_keep_131 : decode cM_keep 131 = .ok (.aload_n 0, 1) := by decide +kernel
theorem dM_keep_132 : decode cM_keep 132 = .ok (.dup, 1) := by decide +kernel
theorem dM_keep_133 : decode cM_keep 133 = .ok (.getfield 36, 3) := by decide +kernel
theorem dM_keep_136 : decode cM_keep 136 = .ok (.iconst 1, 1) := by decide +kernel
theorem dM_keep_137 : decode cM_keep 137 = .ok (.iadd, 1) := by decide +kernel
theorem dM_keep_138 : decode cM_keep 138 = .ok (.putfield 36, 3) := by decide +kernel
theorem dM_keep_141 : decode cM_keep 141 = .ok (.aload_n 0, 1) := by decide +kernel
theorem dM_keep_142 : decode cM_keep 142 = .ok (.dup, 1) := by decide +kernel
theorem dM_keep_143 : decode cM_keep 143 = .ok (.getfield 48, 3) := by decide +kernel
theorem dM_keep_146 : decode cM_keep 146 = .ok (.iconst 1, 1) := by decide +kernel
theorem dM_keep_147 : decode cM_keep 147 = .ok (.iadd, 1) := by decide +kernel
theorem dM_keep_148 : decode cM_keep 148 = .ok (.putfield 48, 3) := by decide +kernel
theorem dM_keep_151 : decode cM_keep 151 = .ok (.iload_n 3, 1) := by decide +kernel
theorem dM_keep_152 : decode cM_keep 152 = .ok (.ireturn, 1) := by decide +kernel
theorem dM_delete_0 : decode cM_delete 0 = .ok (.aload_n 0, 1) := by decide +kernel
theorem dM_delete_1 : decode cM_delete 1 = .ok (.iconst 0, 1) := by decide +kernel
theorem dM_delete_2 : decode cM_delete 2 = .ok (.putfield 30, 3) := by decide +kernel
theorem dM_delete_5 : decode cM_delete 5 = .ok (.iconst 0, 1) := by decide +kernel
theorem dM_delete_6 : decode cM_delete 6 = .ok (.istore_n 2, 1) := by decide +kernel
theorem dM_delete_7 : decode cM_delete 7 = .ok (.aload_n 0, 1) := by decide +kernel
theorem dM_delete_8 : decode cM_delete 8 = .ok (.getfield 36, 3) := by decide +kernel
theorem dM_delete_11 : decode cM_delete 11 = .ok (.ifCond .le 23, 3) := by decide +kernel
theorem dM_delete_14 : decode cM_delete 14 = .ok (.aload_n 0, 1) := by decide +kernel
theorem dM_delete_15 : decode cM_delete 15 = .ok (.getfield 16, 3) := by decide +kernel
theorem dM_delete_18 : decode cM_delete 18 = .ok (.iconst 0, 1) := by decide +kernel
theorem dM_delete_19 : decode cM_delete 19 = .ok (.iaload, 1) := by decide +kernel
theorem dM_delete_20 : decode cM_delete 20 = .ok (.iload_n 1, 1) := by decide +kernel
theorem dM_delete_21 : decode cM_delete 21 = .ok (.if_icmp .gt 13, 3) := by decide +kernel
theorem dM_delete_24 : decode cM_delete 24 = .ok (.aload_n 0, 1) := by decide +kernel
theorem dM_delete_25 : decode cM_delete 25 = .ok (.invokevirtual 42, 3) := by decide +kernel
theorem dM_delete_28 : decode cM_delete 28 = .ok (.iinc 2 1, 3) := by decide +kernel
theorem dM_delete_31 : decode cM_delete 31 = .ok (.goto (-24), 3) := by decide +kernel
theorem dM_delete_34 : decode cM_delete 34 = .ok (.aload_n 0, 1) := by decide +kernel
theorem dM_delete_35 : decode cM_delete 35 = .ok (.dup, 1) := by decide +kernel
theorem dM_delete_36 : decode cM_delete 36 = .ok (.getfield 51, 3) := by decide +kernel
theorem dM_delete_39 : decode cM_delete 39 = .ok (.iload_n 2, 1) := by decide +kernel
theorem dM_delete_40 : decode cM_delete 40 = .ok (.iadd, 1) := by decide +kernel
theorem dM_delete_41 : decode cM_delete 41 = .ok (.putfield 51, 3) := by decide +kernel
theorem dM_delete_44 : decode cM_delete 44 = .ok (.iload_n 2, 1) := by decide +kernel
theorem dM_delete_45 : decode cM_delete 45 = .ok (.ireturn, 1) := by decide +kernel
theorem dM_begin_0 : decode cM_begin 0 = .ok (.aload_n 0, 1) := by decide +kernel
theorem dM_begin_1 : decode cM_begin 1 = .ok (.iconst 0, 1) := by decide +kernel
theorem dM_begin_2 : decode cM_begin 2 = .ok (.putfield 30, 3) := by decide +kernel
theorem dM_begin_5 : decode cM_begin 5 = .ok (.aload_n 0, 1) := by decide +kernel
theorem dM_begin_6 : decode cM_begin 6 = .ok (.getfield 54, 3) := by decide +kernel
theorem dM_begin_9 : decode cM_begin 9 = .ok (.ifCond .eq 5, 3) := by decide +kernel
theorem dM_begin_12 : decode cM_begin 12 = .ok (.iconst 0, 1) := by decide +kernel
theorem dM_begin_13 : decode cM_begin 13 = .ok (.ireturn, 1) := by decide +kernel
theorem dM_begin_14 : decode cM_begin 14 = .ok (.aload_n 0, 1) := by decide +kernel
theorem dM_begin_15 : decode cM_begin 15 = .ok (.iconst 1, 1) := by decide +kernel
theorem dM_begin_16 : decode cM_begin 16 = .ok (.putfield 54, 3) := by decide +kernel
theorem dM_begin_19 : decode cM_begin 19 = .ok (.aload_n 0, 1) := by decide +kernel
theorem dM_begin_20 : decode cM_begin 20 = .ok (.iload_n 1, 1) := by decide +kernel
theorem dM_begin_21 : decode cM_begin 21 = .ok (.putfield 58, 3) := by decide +kernel
theorem dM_begin_24 : decode cM_begin 24 = .ok (.aload_n 0, 1) := by decide +kernel
theorem dM_begin_25 : decode cM_begin 25 = .ok (.iload_n 2, 1) := by decide +kernel
theorem dM_begin_26 : decode cM_begin 26 = .ok (.putfield 61, 3) := by decide +kernel
theorem dM_begin_29 : decode cM_begin 29 = .ok (.aload_n 0, 1) := by decide +kernel
theorem dM_begin_30 : decode cM_begin 30 = .ok (.aload_n 0, 1) := by decide +kernel
theorem dM_begin_31 : decode cM_begin 31 = .ok (.getfield 48, 3) := by decide +kernel
theorem dM_begin_34 : decode cM_begin 34 = .ok (.aload_n 0, 1) := by decide +kernel
theorem dM_begin_35 : decode cM_begin 35 = .ok (.getfield 36, 3) := by decide +kernel
theorem dM_begin_38 : decode cM_begin 38 = .ok (.isub, 1) := by decide +kernel
theorem dM_begin_39 : decode cM_begin 39 = .ok (.putfield 64, 3) := by decide +kernel
theorem dM_begin_42 : decode cM_begin 42 = .ok (.iconst 1, 1) := by decide +kernel
theorem dM_begin_43 : decode cM_begin 43 = .ok (.ireturn, 1) := by decide +kernel
theorem dM_stop_0 : decode cM_stop 0 = .ok (.aload_n 0, 1) := by decide +kernel
theorem dM_stop_1 : decode cM_stop 1 = .ok (.iconst 0, 1) := by decide +kernel
theorem dM_stop_2 : decode cM_stop 2 = .ok (.putfield 30, 3) := by decide +kernel
theorem dM_stop_5 : decode cM_stop 5 = .ok (.aload_n 0, 1) := by decide +kernel
theorem dM_stop_6 : decode cM_stop 6 = .ok (.getfield 54, 3) := by decide +kernel
theorem dM_stop_9 : decode cM_stop 9 = .ok (.istore_n 1, 1) := by decide +kernel
theorem dM_stop_10 : decode cM_stop 10 = .ok (.aload_n 0, 1) := by decide +kernel
theorem dM_stop_11 : decode cM_stop 11 = .ok (.iconst 0, 1) := by decide +kernel
theorem dM_stop_12 : decode cM_stop 12 = .ok (.putfield 54, 3) := by decide +kernel
theorem dM_stop_15 : decode cM_stop 15 = .ok (.iload_n 1, 1) := by decide +kernel
theorem dM_stop_16 : decode cM_stop 16 = .ok (.ireturn, 1) := by decide +kernel
theorem dM_next_0 : decode cM_next 0 = .ok (.aload_n 0, 1) := by decide +kernel
theorem dM_next_1 : decode cM_next 1 = .ok (.iconst 0, 1) := by decide +kernel
theorem dM_next_2 : decode cM_next 2 = .ok (.putfield 30, 3) := by decide +kernel
theorem dM_next_5 : decode cM_next 5 = .ok (.aload_n 0, 1) := by decide +kernel
theorem dM_next_6 : decode cM_next 6 = .ok (.getfield 54, 3) := by decide +kernel
theorem dM_next_9 : decode cM_next 9 = .ok (.ifCond .ne 5, 3) := by decide +kernel
theorem dM_next_12 : decode cM_next 12 = .ok (.iconst (-1), 1) := by decide +kernel
theorem dM_next_13 : decode cM_next 13 = .ok (.ireturn, 1) := by decide +kernel
theorem dM_next_14 : decode cM_next 14 = .ok (.aload_n 0, 1) := by decide +kernel
theorem dM_next_15 : decode cM_next 15 = .ok (.getfield 64, 3) := by decide +kernel
theorem dM_next_18 : decode cM_next 18 = .ok (.aload_n 0, 1) := by decide +kernel
theorem dM_next_19 : decode cM_next 19 = .ok (.getfield 48, 3) := by decide +kernel
theorem dM_next_22 : decode cM_next 22 = .ok (.aload_n 0, 1) := by decide +kernel
theorem dM_next_23 : decode cM_next 23 = .ok (.getfield 36, 3) := by decide +kernel
theorem dM_next_26 : decode cM_next 26 = .ok (.isub, 1) := by decide +kernel
theorem dM_next_27 : decode cM_next 27 = .ok (.isub, 1) := by decide +kernel
theorem dM_next_28 : decode cM_next 28 = .ok (.istore_n 2, 1) := by decide +kernel
theorem dM_next_29 : decode cM_next 29 = .ok (.iload_n 2, 1) := by decide +kernel
theorem dM_next_30 : decode cM_next 30 = .ok (.ifCond .ge 7, 3) := by decide +kernel
theorem dM_next_33 : decode cM_next 33 = .ok (.iconst 0, 1) := by decide +kernel
theorem dM_next_34 : decode cM_next 34 = .ok (.goto 4, 3) := by decide +kernel
theorem dM_next_37 : decode cM_next 37 = .ok (.iload_n 2, 1) := by decide +kernel
theorem dM_next_38 : decode cM_next 38 = .ok (.istore_n 2, 1) := by decide +kernel
theorem dM_next_39 : decode cM_next 39 = .ok (.iload_n 2, 1) := by decide +kernel
theorem dM_next_40 : decode cM_next 40 = .ok (.aload_n 0, 1) := by decide +kernel
theorem dM_next_41 : decode cM_next 41 = .ok (.getfield 36, 3) := by decide +kernel
theorem dM_next_44 : decode cM_next 44 = .ok (.if_icmp .ge 35, 3) := by decide +kernel
theorem dM_next_47 : decode cM_next 47 = .ok (.aload_n 0, 1) := by decide +kernel
theorem dM_next_48 : decode cM_next 48 = .ok (.getfield 16, 3) := by decide +kernel
theorem dM_next_51 : decode cM_next 51 = .ok (.iload_n 2, 1) := by decide +kernel
theorem dM_next_52 : decode cM_next 52 = .ok (.iaload, 1) := by decide +kernel
theorem dM_next_53 : decode cM_next 53 = .ok (.aload_n 0, 1) := by decide +kernel
theorem dM_next_54 : decode cM_next 54 = .ok (.getfield 58, 3) := by decide +kernel
theorem dM_next_57 : decode cM_next 57 = .ok (.if_icmp .lt 16, 3) := by decide +kernel
theorem dM_next_60 : decode cM_next 60 = .ok (.aload_n 0, 1) := by decide +kernel
theorem dM_next_61 : decode cM_next 61 = .ok (.getfield 16, 3) := by decide +kernel
theorem dM_next_64 : decode cM_next 64 = .ok (.iload_n 2, 1) := by decide +kernel
theorem dM_next_65 : decode cM_next 65 = .ok (.iaload, 1) := by decide +kernel
theorem dM_next_66 : decode cM_next 66 = .ok (.aload_n 0, 1) := by decide +kernel
theorem dM_next_67 : decode cM_next 67 = .ok (.getfield 61, 3) := by decide +kernel
theorem dM_next_70 : decode cM_next 70 = .ok (.if_icmp .le 9, 3) := by decide +kernel
theorem dM_next_73 : decode cM_next 73 = .ok (.iinc 2 1, 3) := by decide +kernel
theorem dM_next_76 : decode cM_next 76 = .ok (.goto (-37), 3) := by decide +kernel
theorem dM_next_79 : decode cM_next 79 = .ok (.aload_n 0, 1) := by decide +kernel
theorem dM_next_80 : decode cM_next 80 = .ok (.aload_n 0, 1) := by decide +kernel
theorem dM_next_81 : decode cM_next 81 = .ok (.getfield 48, 3) := by decide +kernel
theorem dM_next_84 : decode cM_next 84 = .ok (.aload_n 0, 1) := by decide +kernel
theorem dM_next_85 : decode cM_next 85 = .ok (.getfield 36, 3) := by decide +kernel
theorem dM_next_88 : decode cM_next 88 = .ok (.isub, 1) := by decide +kernel
theorem dM_next_89 : decode cM_next 89 = .ok (.iload_n 2, 1) := by decide +kernel
theorem dM_next_90 : decode cM_next 90 = .ok (.iadd, 1) := by decide +kernel
theorem dM_next_91 : decode cM_next 91 = .ok (.putfield 64, 3) := by decide +kernel
theorem dM_next_94 : decode cM_next 94 = .ok (.iload_n 2, 1) := by decide +kernel
theorem dM_next_95 : decode cM_next 95 = .ok (.aload_n 0, 1) := by decide +kernel
theorem dM_next_96 : decode cM_next 96 = .ok (.getfield 36, 3) := by decide +kernel
theorem dM_next_99 : decode cM_next 99 = .ok (.if_icmp .ne 10, 3) := by decide +kernel
theorem dM_next_102 : decode cM_next 102 = .ok (.aload_n 0, 1) := by decide +kernel
theorem dM_next_103 : decode cM_next 103 = .ok (.iconst 0, 1) := by decide +kernel
theorem dM_next_104 : decode cM_next 104 = .ok (.putfield 54, 3) := by decide +kernel
theorem dM_next_107 : decode cM_next 107 = .ok (.iconst (-1), 1) := by decide +kernel
theorem dM_next_108 : decode cM_next 108 = .ok (.ireturn, 1) := by decide +kernel
theorem dM_next_109 : decode cM_next 109 = .ok (.aload_n 0, 1) := by decide +kernel
theorem dM_next_110 : decode cM_next 110 = .ok (.getfield 20, 3) := by decide +kernel
theorem dM_next_113 : decode cM_next 113 = .ok (.iload_n 2, 1) := by decide +kernel
theorem dM_next_114 : decode cM_next 114 = .ok (.iaload, 1) := by decide +kernel
theorem dM_next_115 : decode cM_next 115 = .ok (.iload_n 1, 1) := by decide +kernel
theorem dM_next_116 : decode cM_next 116 = .ok (.if_icmp .le 6, 3) := by decide +kernel
theorem dM_next_119 : decode cM_next 119 = .ok (.bipush (-2), 2) := by decide +kernel
theorem dM_next_121 : decode cM_next 121 = .ok (.ireturn, 1) := by decide +kernel
theorem dM_next_122 : decode cM_next 122 = .ok (.aload_n 0, 1) := by decide +kernel
theorem dM_next_123 : decode cM_next 123 = .ok (.iload_n 2, 1) := by decide +kernel
theorem dM_next_124 : decode cM_next 124 = .ok (.invokevirtual 67, 3) := by decide +kernel
theorem dM_next_127 : decode cM_next 127 = .ok (.istore_n 3, 1) := by decide +kernel
theorem dM_next_128 : decode cM_next 128 = .ok (.iconst 0, 1) := by decide +kernel
theorem dM_next_129 : decode cM_next 129 = .ok (.istore 4, 2) := by decide +kernel
theorem dM_next_131 : decode cM_next 131 = .ok (.iload 4, 2) := by decide +kernel
theorem dM_next_133 : decode cM_next 133 = .ok (.aload_n 0, 1) := by decide +kernel
theorem dM_next_134 : decode cM_next 134 = .ok (.getfield 20, 3) := by decide +kernel
theorem dM_next_137 : decode cM_next 137 = .ok (.iload_n 2, 1) := by decide +kernel
theorem dM_next_138 : decode cM_next 138 = .ok (.iaload, 1) := by decide +kernel
theorem dM_next_139 : decode cM_next 139 = .ok (.if_icmp .ge 25, 3) := by decide +kernel
theorem dM_next_142 : decode cM_next 142 = .ok (.aload_n 0, 1) := by decide +kernel
theorem dM_next_143 : decode cM_next 143 = .ok (.getfield 13, 3) := by decide +kernel
theorem dM_next_146 : decode cM_next 146 = .ok (.iload 4, 2) := by decide +kernel
theorem dM_next_148 : decode cM_next 148 = .ok (.aload_n 0, 1) := by decide +kernel
theorem dM_next_149 : decode cM_next 149 = .ok (.getfield 23, 3) := by decide +kernel
theorem dM_next_152 : decode cM_next 152 = .ok (.iload_n 3, 1) := by decide +kernel
theorem dM_next_153 : decode cM_next 153 = .ok (.iload 4, 2) := by decide +kernel
theorem dM_next_155 : decode cM_next 155 = .ok (.iadd, 1) := by decide +kernel
theorem dM_next_156 : decode cM_next 156 = .ok (.baload, 1) := by decide +kernel
theorem dM_next_157 : decode cM_next 157 = .ok (.bastore, 1) := by decide +kernel
theorem dM_next_158 : decode cM_next 158 = .ok (.iinc 4 1, 3) := by decide +kernel
theorem dM_next_161 : decode cM_next 161 = .ok (.goto (-30), 3) := by decide +kernel
theorem dM_next_164 : decode cM_next 164 = .ok (.aload_n 0, 1) := by decide +kernel
theorem dM_next_165 : decode cM_next 165 = .ok (.aload_n 0, 1) := by decide +kernel
theorem dM_next_166 : decode cM_next 166 = .ok (.getfield 20, 3) := by decide +kernel
theorem dM_next_169 : decode cM_next 169 = .ok (.iload_n 2, 1) := by decide +kernel
theorem dM_next_170 : decode cM_next 170 = .ok (.iaload, 1) := by decide +kernel
theorem dM_next_171 : decode cM_next 171 = .ok (.putfield 71, 3) := by decide +kernel
theorem dM_next_174 : decode cM_next 174 = .ok (.aload_n 0, 1) := by decide +kernel
theorem dM_next_175 : decode cM_next 175 = .ok (.dup, 1) := by decide +kernel
theorem dM_next_176 : decode cM_next 176 = .ok (.getfield 64, 3) := by decide +kernel
theorem dM_next_179 : decode cM_next 179 = .ok (.iconst 1, 1) := by decide +kernel
theorem dM_next_180 : decode cM_next 180 = .ok (.iadd, 1) := by decide +kernel
theorem dM_next_181 : decode cM_next 181 = .ok (.putfield 64, 3) := by decide +kernel
theorem dM_next_184 : decode cM_next 184 = .ok (.aload_n 0, 1) := by decide +kernel
theorem dM_next_185 : decode cM_next 185 = .ok (.getfield 71, 3) := by decide +kernel
theorem dM_next_188 : decode cM_next 188 = .ok (.ireturn, 1) := by decide +kernel
theorem dM_out_0 : decode cM_out 0 = .ok (.aload_n 0, 1) := by decide +kernel
theorem dM_out_1 : decode cM_out 1 = .ok (.iconst 0, 1) := by decide +kernel
theorem dM_out_2 : decode cM_out 2 = .ok (.putfield 30, 3) := by decide +kernel
theorem dM_out_5 : decode cM_out 5 = .ok (.iload_n 1, 1) := by decide +kernel
theorem dM_out_6 : decode cM_out 6 = .ok (.ifCond .lt 11, 3) := by decide +kernel
theorem dM_out_9 : decode cM_out 9 = .ok (.iload_n 1, 1) := by decide +kernel
theorem dM_out_10 : decode cM_out 10 = .ok (.aload_n 0, 1) := by decide +kernel
theorem dM_out_11 : decode cM_out 11 = .ok (.getfield 71, 3) := by decide +kernel
theorem dM_out_14 : decode cM_out 14 = .ok (.if_icmp .lt 7, 3) := by decide +kernel
theorem dM_out_17 : decode cM_out 17 = .ok (.iconst (-1), 1) := by decide +kernel
theorem dM_out_18 : decode cM_out 18 = .ok (.goto 13, 3) := by decide +kernel
theorem dM_out_21 : decode cM_out 21 = .ok (.aload_n 0, 1) := by decide +kernel
theorem dM_out_22 : decode cM_out 22 = .ok (.getfield 13, 3) := by decide +kernel
theorem dM_out_25 : decode cM_out 25 = .ok (.iload_n 1, 1) := by decide +kernel
theorem dM_out_26 : decode cM_out 26 = .ok (.baload, 1) := by decide +kernel
theorem dM_out_27 : decode cM_out 27 = .ok (.sipush 255, 3) := by decide +kernel
theorem dM_out_30 : decode cM_out 30 = .ok (.iand, 1) := by decide +kernel
theorem dM_out_31 : decode cM_out 31 = .ok (.ireturn, 1) := by decide +kernel
theorem dM_count_0 : decode cM_count 0 = .ok (.aload_n 0, 1) := by decide +kernel
theorem dM_count_1 : decode cM_count 1 = .ok (.iconst 0, 1) := by decide +kernel
theorem dM_count_2 : decode cM_count 2 = .ok (.putfield 30, 3) := by decide +kernel
theorem dM_count_5 : decode cM_count 5 = .ok (.iload_n 1, 1) := by decide +kernel
theorem dM_count_6 : decode cM_count 6 = .ok (.tableswitch 94 0 7 #[46, 51, 56, 61, 66, 71, 84, 89], 46) := by decide +kernel
theorem dM_count_52 : decode cM_count 52 = .ok (.aload_n 0, 1) := by decide +kernel
theorem dM_count_53 : decode cM_count 53 = .ok (.getfield 36, 3) := by decide +kernel
theorem dM_count_56 : decode cM_count 56 = .ok (.ireturn, 1) := by decide +kernel
theorem dM_count_57 : decode cM_count 57 = .ok (.aload_n 0, 1) := by decide +kernel
theorem dM_count_58 : decode cM_count 58 = .ok (.getfield 33, 3) := by decide +kernel
theorem dM_count_61 : decode cM_count 61 = .ok (.ireturn, 1) := by decide +kernel
theorem dM_count_62 : decode cM_count 62 = .ok (.aload_n 0, 1) := by decide +kernel
theorem dM_count_63 : decode cM_count 63 = .ok (.getfield 48, 3) := by decide +kernel
theorem dM_count_66 : decode cM_count 66 = .ok (.ireturn, 1) := by decide +kernel
theorem dM_count_67 : decode cM_count 67 = .ok (.aload_n 0, 1) := by decide +kernel
theorem dM_count_68 : decode cM_count 68 = .ok (.getfield 45, 3) := by decide +kernel
theorem dM_count_71 : decode cM_count 71 = .ok (.ireturn, 1) := by decide +kernel
theorem dM_count_72 : decode cM_count 72 = .ok (.aload_n 0, 1) := by decide +kernel
theorem dM_count_73 : decode cM_count 73 = .ok (.getfield 51, 3) := by decide +kernel
theorem dM_count_76 : decode cM_count 76 = .ok (.ireturn, 1) := by decide +kernel
theorem dM_count_77 : decode cM_count 77 = .ok (.aload_n 0, 1) := by decide +kernel
theorem dM_count_78 : decode cM_count 78 = .ok (.getfield 54, 3) := by decide +kernel
theorem dM_count_81 : decode cM_count 81 = .ok (.ifCond .eq 7, 3) := by decide +kernel
theorem dM_count_84 : decode cM_count 84 = .ok (.iconst 1, 1) := by decide +kernel
theorem dM_count_85 : decode cM_count 85 = .ok (.goto 4, 3) := by decide +kernel
theorem dM_count_88 : decode cM_count 88 = .ok (.iconst 0, 1) := by decide +kernel
theorem dM_count_89 : decode cM_count 89 = .ok (.ireturn, 1) := by decide +kernel
theorem dM_count_90 : decode cM_count 90 = .ok (.aload_n 0, 1) := by decide +kernel
theorem dM_count_91 : decode cM_count 91 = .ok (.getfield 71, 3) := by decide +kernel
theorem dM_count_94 : decode cM_count 94 = .ok (.ireturn, 1) := by decide +kernel
theorem dM_count_95 : decode cM_count 95 = .ok (.aload_n 0, 1) := by decide +kernel
theorem dM_count_96 : decode cM_count 96 = .ok (.getfield 26, 3) := by decide +kernel
theorem dM_count_99 : decode cM_count 99 = .ok (.ireturn, 1) := by decide +kernel
theorem dM_count_100 : decode cM_count 100 = .ok (.iconst (-1), 1) := by decide +kernel
theorem dM_count_101 : decode cM_count 101 = .ok (.ireturn, 1) := by decide +kernel
theorem dM_about_0 : decode cM_about 0 = .ok (.aload_n 0, 1) := by decide +kernel
theorem dM_about_1 : decode cM_about 1 = .ok (.iconst 0, 1) := by decide +kernel
theorem dM_about_2 : decode cM_about 2 = .ok (.putfield 30, 3) := by decide +kernel
theorem dM_about_5 : decode cM_about 5 = .ok (.iload_n 1, 1) := by decide +kernel
theorem dM_about_6 : decode cM_about 6 = .ok (.ifCond .lt 11, 3) := by decide +kernel
theorem dM_about_9 : decode cM_about 9 = .ok (.iload_n 1, 1) := by decide +kernel
theorem dM_about_10 : decode cM_about 10 = .ok (.aload_n 0, 1) := by decide +kernel
theorem dM_about_11 : decode cM_about 11 = .ok (.getfield 36, 3) := by decide +kernel
theorem dM_about_14 : decode cM_about 14 = .ok (.if_icmp .lt 7, 3) := by decide +kernel
theorem dM_about_17 : decode cM_about 17 = .ok (.iconst (-1), 1) := by decide +kernel
theorem dM_about_18 : decode cM_about 18 = .ok (.goto 31, 3) := by decide +kernel
theorem dM_about_21 : decode cM_about 21 = .ok (.iload_n 2, 1) := by decide +kernel
theorem dM_about_22 : decode cM_about 22 = .ok (.ifCond .ne 12, 3) := by decide +kernel
theorem dM_about_25 : decode cM_about 25 = .ok (.aload_n 0, 1) := by decide +kernel
theorem dM_about_26 : decode cM_about 26 = .ok (.getfield 16, 3) := by decide +kernel
theorem dM_about_29 : decode cM_about 29 = .ok (.iload_n 1, 1) := by decide +kernel
theorem dM_about_30 : decode cM_about 30 = .ok (.iaload, 1) := by decide +kernel
theorem dM_about_31 : decode cM_about 31 = .ok (.goto 18, 3) := by decide +kernel
theorem dM_about_34 : decode cM_about 34 = .ok (.iload_n 2, 1) := by decide +kernel
theorem dM_about_35 : decode cM_about 35 = .ok (.iconst 1, 1) := by decide +kernel
theorem dM_about_36 : decode cM_about 36 = .ok (.if_icmp .ne 12, 3) := by decide +kernel
theorem dM_about_39 : decode cM_about 39 = .ok (.aload_n 0, 1) := by decide +kernel
theorem dM_about_40 : decode cM_about 40 = .ok (.getfield 20, 3) := by decide +kernel
theorem dM_about_43 : decode cM_about 43 = .ok (.iload_n 1, 1) := by decide +kernel
theorem dM_about_44 : decode cM_about 44 = .ok (.iaload, 1) := by decide +kernel
theorem dM_about_45 : decode cM_about 45 = .ok (.goto 4, 3) := by decide +kernel
theorem dM_about_48 : decode cM_about 48 = .ok (.iconst (-1), 1) := by decide +kernel
theorem dM_about_49 : decode cM_about 49 = .ok (.ireturn, 1) := by decide +kernel
theorem dM_byteAt_0 : decode cM_byteAt 0 = .ok (.aload_n 0, 1) := by decide +kernel
theorem dM_byteAt_1 : decode cM_byteAt 1 = .ok (.iconst 0, 1) := by decide +kernel
theorem dM_byteAt_2 : decode cM_byteAt 2 = .ok (.putfield 30, 3) := by decide +kernel
theorem dM_byteAt_5 : decode cM_byteAt 5 = .ok (.iload_n 1, 1) := by decide +kernel
theorem dM_byteAt_6 : decode cM_byteAt 6 = .ok (.ifCond .lt 25, 3) := by decide +kernel
theorem dM_byteAt_9 : decode cM_byteAt 9 = .ok (.iload_n 1, 1) := by decide +kernel
theorem dM_byteAt_10 : decode cM_byteAt 10 = .ok (.aload_n 0, 1) := by decide +kernel
theorem dM_byteAt_11 : decode cM_byteAt 11 = .ok (.getfield 36, 3) := by decide +kernel
theorem dM_byteAt_14 : decode cM_byteAt 14 = .ok (.if_icmp .ge 17, 3) := by decide +kernel
theorem dM_byteAt_17 : decode cM_byteAt 17 = .ok (.iload_n 2, 1) := by decide +kernel
theorem dM_byteAt_18 : decode cM_byteAt 18 = .ok (.ifCond .lt 13, 3) := by decide +kernel
theorem dM_byteAt_21 : decode cM_byteAt 21 = .ok (.iload_n 2, 1) := by decide +kernel
theorem dM_byteAt_22 : decode cM_byteAt 22 = .ok (.aload_n 0, 1) := by decide +kernel
theorem dM_byteAt_23 : decode cM_byteAt 23 = .ok (.getfield 20, 3) := by decide +kernel
theorem dM_byteAt_26 : decode cM_byteAt 26 = .ok (.iload_n 1, 1) := by decide +kernel
theorem dM_byteAt_27 : decode cM_byteAt 27 = .ok (.iaload, 1) := by decide +kernel
theorem dM_byteAt_28 : decode cM_byteAt 28 = .ok (.if_icmp .lt 7, 3) := by decide +kernel
theorem dM_byteAt_31 : decode cM_byteAt 31 = .ok (.iconst (-1), 1) := by decide +kernel
theorem dM_byteAt_32 : decode cM_byteAt 32 = .ok (.goto 19, 3) := by decide +kernel
theorem dM_byteAt_35 : decode cM_byteAt 35 = .ok (.aload_n 0, 1) := by decide +kernel
theorem dM_byteAt_36 : decode cM_byteAt 36 = .ok (.getfield 23, 3) := by decide +kernel
theorem dM_byteAt_39 : decode cM_byteAt 39 = .ok (.aload_n 0, 1) := by decide +kernel
theorem dM_byteAt_40 : decode cM_byteAt 40 = .ok (.iload_n 1, 1) := by decide +kernel
theorem dM_byteAt_41 : decode cM_byteAt 41 = .ok (.invokevirtual 67, 3) := by decide +kernel
theorem dM_byteAt_44 : decode cM_byteAt 44 = .ok (.iload_n 2, 1) := by decide +kernel
theorem dM_byteAt_45 : decode cM_byteAt 45 = .ok (.iadd, 1) := by decide +kernel
theorem dM_byteAt_46 : decode cM_byteAt 46 = .ok (.baload, 1) := by decide +kernel
theorem dM_byteAt_47 : decode cM_byteAt 47 = .ok (.sipush 255, 3) := by decide +kernel
theorem dM_byteAt_50 : decode cM_byteAt 50 = .ok (.iand, 1) := by decide +kernel
theorem dM_byteAt_51 : decode cM_byteAt 51 = .ok (.ireturn, 1) := by decide +kernel
end
section
section ZZ
variable {p : Program} {l : Launch} {e : Env} {R : Room} {s : State} {m : MethodId} {args : Array Value} {below : List Frame} {meth : Method} {c : Code} {H : Heap} {locs : List Loc} {cells slots : Nat} {Q : State → Prop}
variable {cc : ByteArray} {pc : Nat} {ls : Array Slot} {rest : List Value} {D : va_G} {cl : List vw_C} {A : Nat → Prop} {a : Nat} {tys : List (ClassId × FieldType)} {ws : va_W} {H0 : Heap}
/-- the int on top by another name -/
theorem zz_as {x : Int32} (y : Int32) (h : x = y) (k : W p l e R s m args below meth c H locs cells slots Q (F0 m pc ls (.int y :: rest))) : W p l e R s m args below meth c H locs cells slots Q (F0 m pc ls (.int x :: rest)) := by
  subst h
  exact k
theorem zz_iald (hexec : p.tables.exec = Jvm.exec) (hb : c.code = cc) (hK : va_K D cl tys s) (hP : va_P D cl ws H) (q0 t0 : Nat) {cA : ClassId} {n : Nat} {f : Nat → Int32} (ha : ws[q0]? = some (a, .inl (cA, n, .inl f))) (ht : tys[t0]? = some (cA, .int)) {j : Nat} (hj : j < n) (hn : n < 2 ^ 31) (hdg : decode cc pc = .ok (.iaload, 1))
    (kk : W p l e R s m args below meth c H locs cells slots Q (F0 m (pc + 1) ls (.int (f j) :: rest))) : W p l e R s m args below meth c H locs cells slots Q (F0 m pc ls (.int (nI j) :: .ref a :: rest)) := by
  refine va_iald hexec hb hK hP q0 t0 ha ht (vp_in_nI hj hn) hdg ?_
  rw [nI_clamp (Nat.lt_trans hj hn)]
  exact kk
theorem zz_bald (hexec : p.tables.exec = Jvm.exec) (hb : c.code = cc) (hK : va_K D cl tys s) (hP : va_P D cl ws H) (q0 t0 : Nat) {cA : ClassId} {n : Nat} {f : Nat → Int32} (ha : ws[q0]? = some (a, .inl (cA, n, .inl f))) (ht : tys[t0]? = some (cA, .byte)) {j : Nat} (hj : j < n) (hn : n < 2 ^ 31) (hdg : decode cc pc = .ok (.baload, 1))
    (kk : W p l e R s m args below meth c H locs cells slots Q (F0 m (pc + 1) ls (.int (f j) :: rest))) : W p l e R s m args below meth c H locs cells slots Q (F0 m pc ls (.int (nI j) :: .ref a :: rest)) := by
  refine va_bald hexec hb hK hP q0 t0 ha ht (vp_in_nI hj hn) hdg ?_
  rw [nI_clamp (Nat.lt_trans hj hn)]
  exact kk
theorem zz_iast (hexec : p.tables.exec = Jvm.exec) (hb : c.code = cc) (hK : va_K D cl tys s) (hP : va_P D cl ws H) (hD : va_D A ws) (hS : va_S A H0 H locs) (q0 t0 : Nat) {cA : ClassId} {n : Nat} {f : Nat → Int32} (ha : ws[q0]? = some (a, .inl (cA, n, .inl f))) (ht : tys[t0]? = some (cA, .int)) {j : Nat} {x : Int32} (hj : j < n) (hn : n < 2 ^ 31) (hdg : decode cc pc = .ok (.iastore, 1))
    (kk : ∀ (H1 : Heap) (locs1 : List Loc), va_P D cl (ws.set q0 (a, .inl (cA, n, .inl (upd f j (x))))) H1 → va_D A (ws.set q0 (a, .inl (cA, n, .inl (upd f j (x))))) → va_S A H0 H1 locs1 → W p l e R s m args below meth c H1 locs1 cells slots Q (F0 m (pc + 1) ls rest)) : W p l e R s m args below meth c H locs cells slots Q (F0 m pc ls (.int x :: .int (nI j) :: .ref a :: rest)) := by
  refine va_iast hexec hb hK hP hD hS q0 t0 ha ht (vp_in_nI hj hn) hdg (fun H1 locs1 h1 h2 h3 => ?_)
  rw [nI_clamp (Nat.lt_trans hj hn)] at h1 h2
  exact kk H1 locs1 h1 h2 h3
theorem zz_bast (hexec : p.tables.exec = Jvm.exec) (hb : c.code = cc) (hK : va_K D cl tys s) (hP : va_P D cl ws H) (hD : va_D A ws) (hS : va_S A H0 H locs) (q0 t0 : Nat) {cA : ClassId} {n : Nat} {f : Nat → Int32} (ha : ws[q0]? = some (a, .inl (cA, n, .inl f))) (ht : tys[t0]? = some (cA, .byte)) {j : Nat} {x : Int32} (hj : j < n) (hn : n < 2 ^ 31) (hdg : decode cc pc = .ok (.bastore, 1))
    (kk : ∀ (H1 : Heap) (locs1 : List Loc), va_P D cl (ws.set q0 (a, .inl (cA, n, .inl (upd f j (x.toInt8.toInt32))))) H1 → va_D A (ws.set q0 (a, .inl (cA, n, .inl (upd f j (x.toInt8.toInt32))))) → va_S A H0 H1 locs1 → W p l e R s m args below meth c H1 locs1 cells slots Q (F0 m (pc + 1) ls rest)) : W p l e R s m args below meth c H locs cells slots Q (F0 m pc ls (.int x :: .int (nI j) :: .ref a :: rest)) := by
  refine va_bast hexec hb hK hP hD hS q0 t0 ha ht (vp_in_nI hj hn) hdg (fun H1 locs1 h1 h2 h3 => ?_)
  rw [nI_clamp (Nat.lt_trans hj hn)] at h1 h2
  exact kk H1 locs1 h1 h2 h3
theorem zz_icmp_eq (hexec : p.tables.exec = Jvm.exec) (hb : c.code = cc) {a b : Nat} {off : Int} {tgt : Nat} (hdg : decode cc pc = .ok (.if_icmp .eq off, 3)) (ht : (pc : Int) + off = (tgt : Int)) (ha : a < 2 ^ 31) (hb0 : b < 2 ^ 31)
    (kt : a = b → W p l e R s m args below meth c H locs cells slots Q (F0 m tgt ls rest)) (kf : a ≠ b → W p l e R s m args below meth c H locs cells slots Q (F0 m (pc + 3) ls rest)) : W p l e R s m args below meth c H locs cells slots Q (F0 m pc ls (.int (nI b) :: .int (nI a) :: rest)) :=
  lv_icmp_eq hexec hb hdg ht (fun h => kt ((nI_eq ha hb0).mp h)) (fun h => kf (fun q => h ((nI_eq ha hb0).mpr q)))
theorem zz_icmp_ne (hexec : p.tables.exec = Jvm.exec) (hb : c.code = cc) {a b : Nat} {off : Int} {tgt : Nat} (hdg : decode cc pc = .ok (.if_icmp .ne off, 3)) (ht : (pc : Int) + off = (tgt : Int)) (ha : a < 2 ^ 31) (hb0 : b < 2 ^ 31)
    (kt : a ≠ b → W p l e R s m args below meth c H locs cells slots Q (F0 m tgt ls rest)) (kf : a = b → W p l e R s m args below meth c H locs cells slots Q (F0 m (pc + 3) ls rest)) : W p l e R s m args below meth c H locs cells slots Q (F0 m pc ls (.int (nI b) :: .int (nI a) :: rest)) :=
  lv_icmp_ne hexec hb hdg ht (fun h => kt (fun q => h ((nI_eq ha hb0).mpr q))) (fun h => kf ((nI_eq ha hb0).mp h))
theorem zz_icmp_lt (hexec : p.tables.exec = Jvm.exec) (hb : c.code = cc) {a b : Nat} {off : Int} {tgt : Nat} (hdg : decode cc pc = .ok (.if_icmp .lt off, 3)) (ht : (pc : Int) + off = (tgt : Int)) (ha : a < 2 ^ 31) (hb0 : b < 2 ^ 31)
    (kt : a < b → W p l e R s m args below meth c H locs cells slots Q (F0 m tgt ls rest)) (kf : b ≤ a → W p l e R s m args below meth c H locs cells slots Q (F0 m (pc + 3) ls rest)) : W p l e R s m args below meth c H locs cells slots Q (F0 m pc ls (.int (nI b) :: .int (nI a) :: rest)) :=
  lv_icmp_lt hexec hb hdg ht (fun h => kt ((nI_ltI ha hb0).mp h)) (fun h => kf (Nat.not_lt.mp (fun q => h ((nI_ltI ha hb0).mpr q))))
theorem zz_icmp_ge (hexec : p.tables.exec = Jvm.exec) (hb : c.code = cc) {a b : Nat} {off : Int} {tgt : Nat} (hdg : decode cc pc = .ok (.if_icmp .ge off, 3)) (ht : (pc : Int) + off = (tgt : Int)) (ha : a < 2 ^ 31) (hb0 : b < 2 ^ 31)
    (kt : b ≤ a → W p l e R s m args below meth c H locs cells slots Q (F0 m tgt ls rest)) (kf : a < b → W p l e R s m args below meth c H locs cells slots Q (F0 m (pc + 3) ls rest)) : W p l e R s m args below meth c H locs cells slots Q (F0 m pc ls (.int (nI b) :: .int (nI a) :: rest)) :=
  lv_icmp_ge hexec hb hdg ht (fun h => kt ((nI_leI hb0 ha).mp h)) (fun h => kf (Nat.not_le.mp (fun q => h ((nI_leI hb0 ha).mpr q))))
theorem zz_icmp_gt (hexec : p.tables.exec = Jvm.exec) (hb : c.code = cc) {a b : Nat} {off : Int} {tgt : Nat} (hdg : decode cc pc = .ok (.if_icmp .gt off, 3)) (ht : (pc : Int) + off = (tgt : Int)) (ha : a < 2 ^ 31) (hb0 : b < 2 ^ 31)
    (kt : b < a → W p l e R s m args below meth c H locs cells slots Q (F0 m tgt ls rest)) (kf : a ≤ b → W p l e R s m args below meth c H locs cells slots Q (F0 m (pc + 3) ls rest)) : W p l e R s m args below meth c H locs cells slots Q (F0 m pc ls (.int (nI b) :: .int (nI a) :: rest)) :=
  lv_icmp_gt hexec hb hdg ht (fun h => kt ((nI_ltI hb0 ha).mp h)) (fun h => kf (Nat.not_lt.mp (fun q => h ((nI_ltI hb0 ha).mpr q))))
theorem zz_icmp_le (hexec : p.tables.exec = Jvm.exec) (hb : c.code = cc) {a b : Nat} {off : Int} {tgt : Nat} (hdg : decode cc pc = .ok (.if_icmp .le off, 3)) (ht : (pc : Int) + off = (tgt : Int)) (ha : a < 2 ^ 31) (hb0 : b < 2 ^ 31)
    (kt : a ≤ b → W p l e R s m args below meth c H locs cells slots Q (F0 m tgt ls rest)) (kf : b < a → W p l e R s m args below meth c H locs cells slots Q (F0 m (pc + 3) ls rest)) : W p l e R s m args below meth c H locs cells slots Q (F0 m pc ls (.int (nI b) :: .int (nI a) :: rest)) :=
  lv_icmp_le hexec hb hdg ht (fun h => kt ((nI_leI ha hb0).mp h)) (fun h => kf (Nat.not_le.mp (fun q => h ((nI_leI ha hb0).mpr q))))
theorem zz_if_eq (hexec : p.tables.exec = Jvm.exec) (hb : c.code = cc) {a : Nat} {off : Int} {tgt : Nat} (hdg : decode cc pc = .ok (.ifCond .eq off, 3)) (ht : (pc : Int) + off = (tgt : Int)) (ha : a < 2 ^ 31)
    (kt : a = 0 → W p l e R s m args below meth c H locs cells slots Q (F0 m tgt ls rest)) (kf : a ≠ 0 → W p l e R s m args below meth c H locs cells slots Q (F0 m (pc + 3) ls rest)) : W p l e R s m args below meth c H locs cells slots Q (F0 m pc ls (.int (nI a) :: rest)) := by
  refine lv_if_eq hexec hb hdg ht (fun h => kt ?_) (fun h => kf ?_)
  · have h : nI a = nI 0 := h
    exact (nI_eq ha (by decide)).mp h
  · have h : ¬ nI a = nI 0 := h
    exact fun q => h ((nI_eq ha (by decide)).mpr q)
theorem zz_if_ne (hexec : p.tables.exec = Jvm.exec) (hb : c.code = cc) {a : Nat} {off : Int} {tgt : Nat} (hdg : decode cc pc = .ok (.ifCond .ne off, 3)) (ht : (pc : Int) + off = (tgt : Int)) (ha : a < 2 ^ 31)
    (kt : a ≠ 0 → W p l e R s m args below meth c H locs cells slots Q (F0 m tgt ls rest)) (kf : a = 0 → W p l e R s m args below meth c H locs cells slots Q (F0 m (pc + 3) ls rest)) : W p l e R s m args below meth c H locs cells slots Q (F0 m pc ls (.int (nI a) :: rest)) := by
  refine lv_if_ne hexec hb hdg ht (fun h => kt ?_) (fun h => kf ?_)
  · have h : ¬ nI a = nI 0 := h
    exact fun q => h ((nI_eq ha (by decide)).mpr q)
  · have h : nI a = nI 0 := h
    exact (nI_eq ha (by decide)).mp h
theorem zz_if_gt (hexec : p.tables.exec = Jvm.exec) (hb : c.code = cc) {a : Nat} {off : Int} {tgt : Nat} (hdg : decode cc pc = .ok (.ifCond .gt off, 3)) (ht : (pc : Int) + off = (tgt : Int)) (ha : a < 2 ^ 31)
    (kt : 0 < a → W p l e R s m args below meth c H locs cells slots Q (F0 m tgt ls rest)) (kf : a = 0 → W p l e R s m args below meth c H locs cells slots Q (F0 m (pc + 3) ls rest)) : W p l e R s m args below meth c H locs cells slots Q (F0 m pc ls (.int (nI a) :: rest)) := by
  refine lv_if_gt hexec hb hdg ht (fun h => kt ?_) (fun h => kf ?_)
  · have h : nI 0 < nI a := h
    exact (nI_ltI (by decide) ha).mp h
  · have h : ¬ nI 0 < nI a := h
    exact Nat.eq_zero_of_not_pos (fun q => h ((nI_ltI (by decide) ha).mpr q))
theorem zz_if_le (hexec : p.tables.exec = Jvm.exec) (hb : c.code = cc) {a : Nat} {off : Int} {tgt : Nat} (hdg : decode cc pc = .ok (.ifCond .le off, 3)) (ht : (pc : Int) + off = (tgt : Int)) (ha : a < 2 ^ 31)
    (kt : a = 0 → W p l e R s m args below meth c H locs cells slots Q (F0 m tgt ls rest)) (kf : 0 < a → W p l e R s m args below meth c H locs cells slots Q (F0 m (pc + 3) ls rest)) : W p l e R s m args below meth c H locs cells slots Q (F0 m pc ls (.int (nI a) :: rest)) := by
  refine lv_if_le hexec hb hdg ht (fun h => kt ?_) (fun h => kf ?_)
  · have h : nI a ≤ nI 0 := h
    exact Nat.le_zero.mp ((nI_leI ha (by decide)).mp h)
  · have h : ¬ nI a ≤ nI 0 := h
    exact Nat.not_le.mp (fun q => h ((nI_leI ha (by decide)).mpr q))
/-- a call that only reads -/
theorem zz_callR {y : MethodName} {bytes : ByteArray} {maxL nL n index : Nat} {ret : Option FieldType} {wsC : List Cond} {rm : Room} {Ts : List Cond} {own C : String} {b : Nat} {As st0 : List Value} {wc : va_W} {tc : List (ClassId × FieldType)} {post : Int32 → Prop}
    (S : CallFix p m c cc nL s args Ts own) (hM : Met l y wsC rm (va_Pc (.ref b :: As) (fun U => va_P D cl wc U.heap ∧ va_K D cl tc U)) (vp_Si post) 0 0 (fun _ => False)) (cw : CallW R s args own C index y bytes maxL ret wsC rm 0 0 n)
    (hP : va_P D cl wc H) (hK : va_K D cl tc s) {ci : Nat} (q0 : Nat) {q : vw_C} {fs : List Value} (hc : cl[ci]? = some q) (hC : q.1 = C) (he : wc[q0]? = some (b, .inr (ci, fs)))
    (hn : As.length = n) (hl : ls.size = nL) (hst : st0 = As.reverse ++ .ref b :: rest) (hW : (rest.map fun v => v.category).sum ≤ 8) (hdg : decode cc pc = .ok (.invokevirtual index, 3)) (hf : cells ≤ R.cells ∧ slots ≤ R.slots)
    (kk : ∀ r : Int32, post r → W p l e R s m args below meth c H locs cells slots Q (F0 m (pc + 3) ls (.int r :: rest))) : W p l e R s m args below meth c H locs cells slots Q (F0 m pc ls st0) := by
  refine vp_callSi (va_runV (As := As) (rest := rest) S hM cw ⟨?_, ?_, ?_⟩ rfl hn hl hst (lv_room hW) hdg hf).run kk
  · intro a U g mk q
    obtain ⟨q0, qP, qK⟩ := q
    exact ⟨q0, qP, va_K.moved (u := U) (U := U.calling g mk a) (Vm.Alike.refl U.vm) qK⟩
  · subst hC
    exact va_recv hK hP hc he
  · intro U hU hW
    exact ⟨rfl, by rw [hU]; exact hP, va_K.moved hW.alike hK⟩
/-- a call that writes its own cells, and makes none -/
theorem zz_callMi {y : MethodName} {bytes : ByteArray} {maxL nL n index : Nat} {ret : Option FieldType} {wsC : List Cond} {rm : Room} {Ts : List Cond} {own C : String} {b : Nat} {As st0 : List Value} {wc : va_W} {tc : List (ClassId × FieldType)} {Sg : Type} {post : Int32 → Sg → Prop} {w1 : Sg → va_W} {wr : va_W}
    (S : CallFix p m c cc nL s args Ts own) (hM : Met l y wsC rm (va_Pc (.ref b :: As) (fun U => U.heap.size = H.size ∧ va_P D cl wc U.heap ∧ va_K D cl tc U ∧ va_D (fun _ => True) wc)) (va_Qi post (fun u t => va_P D cl (w1 u) t.heap ∧ va_K D cl tc t ∧ va_D (va_A wc H.size) (w1 u)) (va_A wc H.size)) 0 0 (va_A wc H.size)) (cw : CallW R s args own C index y bytes maxL ret wsC rm 0 0 n)
    (hP : va_P D cl ws H) (hD : va_D A ws) (hK : va_K D cl tys s) (hS : va_S A H0 H locs) (hA : ∀ q, H0.size ≤ q → A q)
    (isC isR isT : List Nat) (hCf : isC.filterMap (fun i => ws[i]?) = wc) (hCw : isC.map (fun i => ws[i]?) = wc.map some) (hRw : isR.map (fun i => ws[i]?) = wr.map some) (hnC : va_nd isC = true) (hnR : va_nd isR = true) (hdis : ∀ i ∈ isR, i ∉ isC) (hT : isT.filterMap (fun i => tys[i]?) = tc)
    {ci : Nat} (q0 : Nat) {q : vw_C} {fs : List Value} (hc : cl[ci]? = some q) (hC : q.1 = C) (he : wc[q0]? = some (b, .inr (ci, fs)))
    (hn : As.length = n) (hl : ls.size = nL) (hst : st0 = As.reverse ++ .ref b :: rest) (hW : (rest.map fun v => v.category).sum ≤ 8) (hdg : decode cc pc = .ok (.invokevirtual index, 3)) (hf : cells ≤ R.cells ∧ slots ≤ R.slots)
    (kk : ∀ (r : Int32) (u : Sg) (H1 : Heap) (locs1 : List Loc), post r u → va_P D cl (wr ++ w1 u) H1 → va_D A (wr ++ w1 u) → va_S A H0 H1 locs1 → W p l e R s m args below meth c H1 locs1 cells slots Q (F0 m (pc + 3) ls (.int r :: rest))) : W p l e R s m args below meth c H locs cells slots Q (F0 m pc ls st0) := by
  have hPc := hP.sub isC hCf
  have hDc := hD.sub isC hnC hCw
  have hKc := hK.sub isT hT
  have hFc := va_free (wc := wc) hD hS hA isC hCw
  refine va_calli (va_runV (As := As) (rest := rest) S hM cw ⟨?_, ?_, ?_⟩ rfl hn hl hst (lv_room hW) hdg hf) hS (fun q _ h => hFc q h) hFc (fun r u t H1 locs1 ht hvm hw hB hz1 hk1 hS1 => ?_)
  · intro a U g mk q
    obtain ⟨q0, q1, qP, qK, qD⟩ := q
    exact ⟨q0, q1, qP, va_K.moved (u := U) (U := U.calling g mk a) (Vm.Alike.refl U.vm) qK, qD⟩
  · subst hC
    exact va_recv hKc hPc hc he
  · intro U hU hW
    exact ⟨rfl, by rw [hU], by rw [hU]; exact hPc, va_K.moved hW.alike hKc, hDc.weaken (fun _ _ _ _ => trivial)⟩
  · obtain ⟨hP1, hK1, hD1⟩ := hB
    rw [ht] at hP1
    obtain ⟨hPj, hDj⟩ := va_join (wr := wr) (w1 := w1 u) hP hD isC isR hCw hRw hnR hdis hk1 hFc hP1 hD1
    exact kk r u H1 locs1 hw hPj hDj hS1
/-- a call that writes its own cells, and makes none -/
theorem zz_callMv {y : MethodName} {bytes : ByteArray} {maxL nL n index : Nat} {ret : Option FieldType} {wsC : List Cond} {rm : Room} {Ts : List Cond} {own C : String} {b : Nat} {As st0 : List Value} {wc : va_W} {tc : List (ClassId × FieldType)} {Sg : Type} {post : Sg → Prop} {w1 : Sg → va_W} {wr : va_W}
    (S : CallFix p m c cc nL s args Ts own) (hM : Met l y wsC rm (va_Pc (.ref b :: As) (fun U => U.heap.size = H.size ∧ va_P D cl wc U.heap ∧ va_K D cl tc U ∧ va_D (fun _ => True) wc)) (va_Qv post (fun u t => va_P D cl (w1 u) t.heap ∧ va_K D cl tc t ∧ va_D (va_A wc H.size) (w1 u)) (va_A wc H.size)) 0 0 (va_A wc H.size)) (cw : CallW R s args own C index y bytes maxL ret wsC rm 0 0 n)
    (hP : va_P D cl ws H) (hD : va_D A ws) (hK : va_K D cl tys s) (hS : va_S A H0 H locs) (hA : ∀ q, H0.size ≤ q → A q)
    (isC isR isT : List Nat) (hCf : isC.filterMap (fun i => ws[i]?) = wc) (hCw : isC.map (fun i => ws[i]?) = wc.map some) (hRw : isR.map (fun i => ws[i]?) = wr.map some) (hnC : va_nd isC = true) (hnR : va_nd isR = true) (hdis : ∀ i ∈ isR, i ∉ isC) (hT : isT.filterMap (fun i => tys[i]?) = tc)
    {ci : Nat} (q0 : Nat) {q : vw_C} {fs : List Value} (hc : cl[ci]? = some q) (hC : q.1 = C) (he : wc[q0]? = some (b, .inr (ci, fs)))
    (hn : As.length = n) (hl : ls.size = nL) (hst : st0 = As.reverse ++ .ref b :: rest) (hW : (rest.map fun v => v.category).sum ≤ 8) (hdg : decode cc pc = .ok (.invokevirtual index, 3)) (hf : cells ≤ R.cells ∧ slots ≤ R.slots)
    (kk : ∀ (u : Sg) (H1 : Heap) (locs1 : List Loc), post u → va_P D cl (wr ++ w1 u) H1 → va_D A (wr ++ w1 u) → va_S A H0 H1 locs1 → W p l e R s m args below meth c H1 locs1 cells slots Q (F0 m (pc + 3) ls rest)) : W p l e R s m args below meth c H locs cells slots Q (F0 m pc ls st0) := by
  have hPc := hP.sub isC hCf
  have hDc := hD.sub isC hnC hCw
  have hKc := hK.sub isT hT
  have hFc := va_free (wc := wc) hD hS hA isC hCw
  refine va_callv (va_runV (As := As) (rest := rest) S hM cw ⟨?_, ?_, ?_⟩ rfl hn hl hst (lv_room hW) hdg hf) hS (fun q _ h => hFc q h) hFc (fun u t H1 locs1 ht hvm hw hB hz1 hk1 hS1 => ?_)
  · intro a U g mk q
    obtain ⟨q0, q1, qP, qK, qD⟩ := q
    exact ⟨q0, q1, qP, va_K.moved (u := U) (U := U.calling g mk a) (Vm.Alike.refl U.vm) qK, qD⟩
  · subst hC
    exact va_recv hKc hPc hc he
  · intro U hU hW
    exact ⟨rfl, by rw [hU], by rw [hU]; exact hPc, va_K.moved hW.alike hKc, hDc.weaken (fun _ _ _ _ => trivial)⟩
  · obtain ⟨hP1, hK1, hD1⟩ := hB
    rw [ht] at hP1
    obtain ⟨hPj, hDj⟩ := va_join (wr := wr) (w1 := w1 u) hP hD isC isR hCw hRw hnR hdis hk1 hFc hP1 hD1
    exact kk u H1 locs1 hw hPj hDj hS1
/-- a loop: n falls; what holds at its head -/
theorem zz_loop {σ : Type} (I : Nat → σ → Heap → List Loc → Array Slot → Prop) (h0 : ∀ (u : σ) (H : Heap) (locs : List Loc) (ls : Array Slot), I 0 u H locs ls → False)
    (hs : ∀ (n : Nat) (u : σ) (H : Heap) (locs : List Loc) (ls : Array Slot), I (n + 1) u H locs ls → (∀ (u' : σ) (H' : Heap) (locs' : List Loc) (ls' : Array Slot), I n u' H' locs' ls' → W p l e R s m args below meth c H' locs' cells slots Q (F0 m pc ls' [])) → W p l e R s m args below meth c H locs cells slots Q (F0 m pc ls [])) :
    ∀ (n : Nat) (u : σ) (H : Heap) (locs : List Loc) (ls : Array Slot), I n u H locs ls → W p l e R s m args below meth c H locs cells slots Q (F0 m pc ls []) := by
  intro n
  induction n with
  | zero => exact fun u H locs ls h => (h0 u H locs ls h).elim
  | succ n ih => exact fun u H locs ls h => hs n u H locs ls h (fun u' H' locs' ls' h' => ih u' H' locs' ls' h')
end ZZ
end
section
/-! the mathematics of the ring: packets are numbered as they come, lo .. hi - 1 are there; off i: how many bytes came before packet i; bz q: the q-th int that came (its lowest eight bits count); a place in a ring of R is a number mod R -/
def zu {α : Type} (f : Nat → α) (k : Nat) (v : α) : Nat → α := fun j => if j = k then v else f j
def zcat (f : Nat → Int32) (n : Nat) (g : Nat → Int32) : Nat → Int32 := fun q => if q < n then f q else g (q - n)
theorem zu_s {α : Type} {f : Nat → α} {k : Nat} {v : α} : zu f k v k = v := if_pos rfl
theorem zu_n {α : Type} {f : Nat → α} {k j : Nat} {v : α} (h : j ≠ k) : zu f k v j = f j := if_neg h
theorem zz_i8 (z : Int32) : z.toInt8.toInt32.toInt8.toInt32 = z.toInt8.toInt32 := pk_vb z
theorem rg_wrap {q R : Nat} (h : q < 2 * R) : (if q < R then q else q - R) = q % R := by
  by_cases c : q < R
  · rw [if_pos c, Nat.mod_eq_of_lt c]
  · rw [if_neg c, Nat.mod_eq_sub_mod (Nat.le_of_not_lt c), Nat.mod_eq_of_lt (by omega)]
theorem rg_ne {R i j : Nat} (h : i < j) (h2 : j < i + R) : i % R ≠ j % R := by
  intro e
  have h3 : (j - i) % R = 0 := Nat.sub_mod_eq_zero_of_mod_eq e.symm
  rw [Nat.mod_eq_of_lt (by omega)] at h3
  omega
theorem rg_ne2 {R i j : Nat} (h : i ≠ j) (h1 : j < i + R) (h2 : i < j + R) : i % R ≠ j % R := by
  rcases Nat.lt_or_gt_of_ne h with q | q
  · exact rg_ne q h1
  · exact fun e => rg_ne q h2 e.symm
/-- how far x is behind y, out of their places in the ring -/
theorem rg_dist {R x y : Nat} (h1 : y < x) (h2 : x ≤ y + R) : (y % R < x % R → x % R - y % R = x - y) ∧ (x % R ≤ y % R → x % R + R - y % R = x - y) ∧ x % R < R ∧ y % R < R := by
  have hR : 0 < R := by omega
  have hy : y % R < R := Nat.mod_lt _ hR
  have hx : x % R < R := Nat.mod_lt _ hR
  have e : x % R = (y % R + (x - y)) % R := by
    rw [Nat.mod_add_mod]
    congr 1
    omega
  by_cases c : y % R + (x - y) < R
  · rw [Nat.mod_eq_of_lt c] at e
    refine ⟨fun _ => by omega, fun _ => by omega, hx, hy⟩
  · rw [Nat.mod_eq_sub_mod (Nat.le_of_not_lt c)] at e
    by_cases c2 : y % R + (x - y) - R < R
    · rw [Nat.mod_eq_of_lt c2] at e
      refine ⟨fun _ => by omega, fun _ => by omega, hx, hy⟩
    · omega
theorem rg_le0 {a b : Nat} (ha : a < 2 ^ 30) (hb : b < 2 ^ 30) : nI a - nI b ≤ 0 ↔ a ≤ b := by
  rw [Int32.le_iff_toInt_le, pk_sub_toInt ha hb]
  have h0 : (0 : Int32).toInt = 0 := by decide
  rw [h0]
  omega
theorem rg_sub3 {a b R : Nat} (h : b ≤ a + R) : nI a - nI b + nI R = nI (a + R - b) := by
  rw [Int32.sub_eq_add_neg, Int32.add_assoc, Int32.add_comm (-nI b), ← Int32.add_assoc, ← Int32.sub_eq_add_neg, nI_add, pk_sub h]
theorem rg_sz1 {R x y : Nat} (hR : R ≤ 16384) (h1 : y < x) (h2 : x ≤ y + R) (c : ¬ nI (x % R) - nI (y % R) ≤ 0) : nI (x % R) - nI (y % R) = nI (x - y) := by
  obtain ⟨e1, e2, e3, e4⟩ := rg_dist h1 h2
  have hlt : y % R < x % R := Nat.not_le.mp (fun q => c ((rg_le0 (by omega) (by omega)).mpr q))
  rw [pk_sub (Nat.le_of_lt hlt), e1 hlt]
theorem rg_sz2 {R x y : Nat} (hR : R ≤ 16384) (h1 : y < x) (h2 : x ≤ y + R) (c : nI (x % R) - nI (y % R) ≤ 0) : nI (x % R) - nI (y % R) + nI R = nI (x - y) := by
  obtain ⟨e1, e2, e3, e4⟩ := rg_dist h1 h2
  have hle : x % R ≤ y % R := (rg_le0 (by omega) (by omega)).mp c
  rw [rg_sub3 (by omega), e2 hle]
/-- the packets that are there: each has a byte, and they fit -/
def rg_ok (R lo hi : Nat) (off : Nat → Nat) : Prop := (64 ≤ R ∧ R ≤ 16384) ∧ lo ≤ hi ∧ off hi ≤ off lo + R ∧ ∀ i, lo ≤ i → i < hi → off i < off (i + 1)
/-- the ring's arrays hold them -/
def rg_rep (R lo hi : Nat) (off : Nat → Nat) (tm bz B S T : Nat → Int32) : Prop := (∀ i, lo ≤ i → i < hi → T (i % R) = tm i) ∧ (∀ i, lo ≤ i → i < hi → S (i % R) = nI (off i % R)) ∧ ∀ q, off lo ≤ q → q < off hi → B (q % R) = (bz q).toInt8.toInt32
theorem rg_mono {off : Nat → Nat} {lo : Nat} : ∀ (n : Nat), (∀ i, lo ≤ i → i < lo + n → off i < off (i + 1)) → off lo + n ≤ off (lo + n)
  | 0, _ => Nat.le_refl _
  | n + 1, h => by
    have h1 := rg_mono n (fun i a b => h i a (by omega))
    have h2 := h (lo + n) (by omega) (by omega)
    show off lo + (n + 1) ≤ off (lo + n + 1)
    omega
theorem rg_ok.gap {R lo hi : Nat} {off : Nat → Nat} (h : rg_ok R lo hi off) {i j : Nat} (h1 : lo ≤ i) (h2 : i ≤ j) (h3 : j ≤ hi) : off i + (j - i) ≤ off j := by
  have := rg_mono (off := off) (lo := i) (j - i) (fun k a b => h.2.2.2 k (by omega) (by omega))
  rw [show i + (j - i) = j by omega] at this
  exact this
theorem rg_ok.drop {R lo hi : Nat} {off : Nat → Nat} (h : rg_ok R lo hi off) {k : Nat} (h1 : lo ≤ k) (h2 : k ≤ hi) : rg_ok R k hi off := by
  have := h.gap (Nat.le_refl lo) h1 h2
  refine ⟨h.1, h2, by have := h.2.2.1; omega, fun i a b => h.2.2.2 i (by omega) b⟩
theorem rg_rep.drop {R lo hi : Nat} {off : Nat → Nat} {tm bz B S T : Nat → Int32} (ho : rg_ok R lo hi off) (h : rg_rep R lo hi off tm bz B S T) {k : Nat} (h1 : lo ≤ k) (h2 : k ≤ hi) : rg_rep R k hi off tm bz B S T := by
  have := ho.gap (Nat.le_refl lo) h1 h2
  exact ⟨fun i a b => h.1 i (by omega) b, fun i a b => h.2.1 i (by omega) b, fun q a b => h.2.2 q (by omega) b⟩
theorem rg_ok.add {R lo hi sz : Nat} {off : Nat → Nat} (h : rg_ok R lo hi off) (h1 : 1 ≤ sz) (h2 : off hi - off lo + sz ≤ R) : rg_ok R lo (hi + 1) (zu off (hi + 1) (off hi + sz)) := by
  have hg := h.gap (Nat.le_refl lo) h.2.1 (Nat.le_refl hi)
  have hl := h.2.1
  refine ⟨h.1, by omega, ?_, fun i a b => ?_⟩
  · rw [zu_s, zu_n (by omega)]
    omega
  · by_cases c : i = hi
    · subst c
      rw [zu_s, zu_n (by omega)]
      omega
    · rw [zu_n (by omega), zu_n (by omega)]
      exact h.2.2.2 i a (by omega)
theorem rg_rep.add {R lo hi sz : Nat} {off : Nat → Nat} {tm bz tz B B' S T : Nat → Int32} {t : Int32} (ho : rg_ok R lo hi off) (h : rg_rep R lo hi off tm bz B S T) (h1 : 1 ≤ sz) (h2 : off hi - off lo + sz ≤ R)
    (hB : ∀ q, off lo ≤ q → q < off hi → B' (q % R) = B (q % R)) (hB2 : ∀ j, j < sz → B' ((off hi + j) % R) = (tz j).toInt8.toInt32) :
    rg_rep R lo (hi + 1) (zu off (hi + 1) (off hi + sz)) (zu tm hi t) (zcat bz (off hi) tz) B' (upd S (hi % R) (nI (off hi % R))) (upd T (hi % R) t) := by
  have hg := ho.gap (Nat.le_refl lo) ho.2.1 (Nat.le_refl hi)
  have hl := ho.2.1
  refine ⟨fun i a b => ?_, fun i a b => ?_, fun q a b => ?_⟩
  · by_cases c : i = hi
    · subst c
      rw [pk_us, zu_s]
    · rw [pk_un (rg_ne (by omega) (by omega)), zu_n c]
      exact h.1 i a (by omega)
  · rw [zu_n (by omega)]
    by_cases c : i = hi
    · subst c
      rw [pk_us]
    · rw [pk_un (rg_ne (by omega) (by omega))]
      exact h.2.1 i a (by omega)
  · rw [zu_n (by omega)] at a
    rw [zu_s] at b
    unfold zcat
    by_cases c : q < off hi
    · rw [if_pos c, hB q a c]
      exact h.2.2 q a c
    · rw [if_neg c, ← hB2 (q - off hi) (by omega), show off hi + (q - off hi) = q by omega]
/-! answers that are read off the state -/
def md_ix (n : Nat) (k : Int32) : Option Nat := if k < 0 then none else if nI n ≤ k then none else some k.toNatClampNeg
theorem md_ix_some {n j : Nat} (h : j < n) (hn : n < 2 ^ 31) : md_ix n (nI j) = some j := by
  unfold md_ix
  rw [if_neg (nI_pos (by omega)), if_neg (nI_ge h hn), nI_clamp (by omega)]
theorem md_ix_none {n : Nat} {k : Int32} (h : ¬ ∃ j, j < n ∧ k = nI j) (hn : n < 2 ^ 31) : md_ix n k = none := by
  unfold md_ix
  rcases pk_ix k hn with q | q | q
  · rw [if_pos q]
  · by_cases c : k < 0
    · rw [if_pos c]
    · rw [if_neg c, if_pos q]
  · exact absurd q h
def md_out (os : Nat) (oz : Nat → Int32) (j : Int32) : Int32 := match md_ix os j with
  | none => -1
  | some t => oz t &&& 255
def md_count (what : Int32) (a0 a1 a2 a3 a4 a5 a6 a7 : Nat) : Int32 := if what = nI 0 then nI a0 else if what = nI 1 then nI a1 else if what = nI 2 then nI a2 else if what = nI 3 then nI a3 else if what = nI 4 then nI a4 else if what = nI 5 then nI a5 else if what = nI 6 then nI a6 else if what = nI 7 then nI a7 else -1
def md_about (n : Nat) (tmf : Nat → Int32) (szf : Nat → Nat) (k what : Int32) : Int32 := match md_ix n k with
  | none => -1
  | some j => if what = nI 0 then tmf j else if what = nI 1 then nI (szf j) else -1
def md_byteAt (n : Nat) (szf : Nat → Nat) (byf : Nat → Nat → Int32) (k j : Int32) : Int32 := match md_ix n k with
  | none => -1
  | some i => match md_ix (szf i) j with
    | none => -1
    | some t => byf i t &&& 255
def md_room (room : Int32) : Nat := if room < nI 64 then 64 else if nI 16384 < room then 16384 else room.toNatClampNeg
theorem bp_b (x : Int32) : x.toInt8.toInt32 &&& 255 = x &&& 255 := by
  apply Int32.toBitVec_inj.mp
  rw [Int32.toBitVec_and, Int32.toBitVec_and, Int8.toBitVec_toInt32, Int32.toBitVec_toInt8]
  apply BitVec.eq_of_getLsbD_eq
  intro i hi
  rw [BitVec.getLsbD_and, BitVec.getLsbD_and]
  have hm : ∀ i < 32, 8 ≤ i → (255 : Int32).toBitVec.getLsbD i = false := by decide
  rcases Nat.lt_or_ge i 8 with z | z
  · rw [BitVec.getLsbD_signExtend, BitVec.getLsbD_signExtend, if_pos z, if_pos hi]
    simp only [z, hi, decide_true, Bool.true_and]
  · rw [hm i hi z]; simp
theorem zz_255 (x : Int32) : x.toInt8.toInt32 &&& nI 255 = x &&& 255 := bp_b x
theorem md_room_in (room : Int32) : 64 ≤ md_room room ∧ md_room room ≤ 16384 := by
  unfold md_room
  by_cases h1 : room < nI 64
  · rw [if_pos h1]
    omega
  · rw [if_neg h1]
    by_cases h2 : nI 16384 < room
    · rw [if_pos h2]
      omega
    · rw [if_neg h2]
      rw [Int32.lt_iff_toInt_lt, nI_toInt (by omega)] at h1
      rw [Int32.lt_iff_toInt_lt, nI_toInt (by omega)] at h2
      have h3 : ¬ room < 0 := by
        rw [Int32.lt_iff_toInt_lt]
        have h0 : (0 : Int32).toInt = 0 := by decide
        omega
      obtain ⟨j, hj, e⟩ := nI_of h3
      rw [e, nI_toInt hj] at h1 h2
      rw [e, nI_clamp hj]
      omega
theorem md_room_eq (room : Int32) : (if nI 64 < (if room < nI 16384 then room else nI 16384) then (if room < nI 16384 then room else nI 16384) else nI 64) = nI (md_room room) := by
  unfold md_room
  by_cases h1 : room < nI 64
  · have h2 : room < nI 16384 := by
      rw [Int32.lt_iff_toInt_lt, nI_toInt (by omega)] at h1 ⊢
      omega
    have h3 : ¬ nI 64 < room := by
      rw [Int32.lt_iff_toInt_lt, nI_toInt (by omega)] at h1 ⊢
      omega
    rw [if_pos h1, if_pos h2, if_neg h3]
  · rw [if_neg h1]
    by_cases h2 : nI 16384 < room
    · have h3 : ¬ room < nI 16384 := by
        rw [Int32.lt_iff_toInt_lt, nI_toInt (by omega)] at h2 ⊢
        omega
      rw [if_pos h2, if_neg h3, if_pos (nI_lt (by omega) (by omega))]
    · rw [if_neg h2]
      have h4 : ¬ room < 0 := by
        rw [Int32.lt_iff_toInt_lt, nI_toInt (by omega)] at h1
        rw [Int32.lt_iff_toInt_lt]
        have h0 : (0 : Int32).toInt = 0 := by decide
        omega
      obtain ⟨j, hj, e⟩ := nI_of h4
      subst e
      rw [nI_clamp hj]
      rw [Int32.lt_iff_toInt_lt, nI_toInt (by omega), nI_toInt (by omega)] at h1
      rw [Int32.lt_iff_toInt_lt, nI_toInt (by omega), nI_toInt (by omega)] at h2
      by_cases h5 : j < 16384
      · rw [if_pos (nI_lt h5 (by omega))]
        by_cases h6 : 64 < j
        · rw [if_pos (nI_lt h6 (by omega))]
        · rw [if_neg (nI_nlt (by omega) (by omega)), show j = 64 by omega]
      · rw [show j = 16384 by omega, if_neg (nI_nlt (by omega) (by omega)), if_pos (nI_lt (by omega) (by omega))]
theorem zz_sw (x : Int32) (n : Nat) (hn : n < 2 ^ 31) : (∃ k, k < n ∧ x = nI k) ∨ (x.toInt < 0 ∨ (n : Int) - 1 < x.toInt) := by
  rcases pk_ix x hn with h | h | h
  · rw [Int32.lt_iff_toInt_lt] at h
    have h0 : (0 : Int32).toInt = 0 := by decide
    exact Or.inr (Or.inl (by omega))
  · rw [Int32.le_iff_toInt_le, nI_toInt hn] at h
    exact Or.inr (Or.inr (by omega))
  · exact Or.inl h
theorem zz_swne {x : Int32} {n k : Nat} (h : x.toInt < 0 ∨ (n : Int) - 1 < x.toInt) (hk : k < n) (hn : n < 2 ^ 31) : ¬ x = nI k := by
  intro e
  subst e
  rw [nI_toInt (by omega)] at h
  omega
end
section
set_option maxHeartbeats 4000000 in
set_option maxRecDepth 100000 in
/-- Ring.room() -/
theorem c_R_room (l : Launch) (dC : Nat → ClassId) (dI : Nat → Nat → Nat) (aR aB aS aT R o n en us : Nat)  : Met l yX0_room wsX0_room ({ frames := 0, cells := 0, slots := 0, locals := 0 }) (va_Pc [.ref aR] (fun U => va_P (dC, dI) vwCl [(aR, .inr (0, [.int (nI R), .ref aB, .ref aS, .ref aT, .int (nI o), .int (nI n), .int (nI en), .int (nI us)]))] U.heap ∧ va_K (dC, dI) vwCl [] U)) (vp_Si (fun r => r = nI R)) 0 0 (fun _ => False) := by
  refine Met.ofW (cc := cX0_room) (maxL := 1) (ret := (some .int)) (by decide) rfl ?_
  intro p e s m args below meth c s₁ B hml hv
  obtain ⟨rfl, hP, hK⟩ := hv
  have hx := B.exec
  have hb := B.bytes
  have hr := B.returns
  have hts := atoms_spec (ws := wsX0_room) B.pre
  have hown : s.vm.findClass RX0 = some m.cls := findClass_of_methodNamed B.named
  have hlocks := B.notSynchronized
  have hi_R : ∀ w ∈ u_ws RX0 TX0 8, w ∈ wsX0_room := by decide +kernel
  have hP : va_P (dC, dI) vwCl [(aR, .inr (0, [.int (nI R), .ref aB, .ref aS, .ref aT, .int (nI o), .int (nI n), .int (nI en), .int (nI us)]))] s.heap := hP
  have hl := lv_entry ([.ref aR]) (n := 1) (Nat.le_of_ble_eq_true rfl)
  rw [lg_entry_eq]
  generalize (lg_sl ([.ref aR]) ++ List.replicate (1 - (lg_sl ([.ref aR])).length) Slot.unset).toArray = ls at hl ⊢
  have hl : lv_has ls 1 [(0, .ref aR)] := hl
  refine lv_aload_n hx hb dX0_room_0 rfl (lv_at hl 0 rfl) ?_
  refine va_get (D := (dC, dI)) (ci := 0) (v := .int (nI R)) (C := RX0) (T := TX0) (N := 8) hx hb hts hi_R hown hK hP 0 rfl rfl 0 (by decide) (hts (.fieldLink RX0 7 "PacketStore$Ring" "room" "I") (by decide +kernel)) (fun _ h9 => h9) rfl dX0_room_1 ?_
  exact W.iret (v := (nI R)) hx hb hr (fun t ht hW => ⟨_, rfl, rfl, ht⟩) (fun q hq => by cases hq) dX0_room_4
set_option maxHeartbeats 4000000 in
set_option maxRecDepth 100000 in
/-- Ring.packets() -/
theorem c_R_packets (l : Launch) (dC : Nat → ClassId) (dI : Nat → Nat → Nat) (aR aB aS aT R o n en us : Nat)  : Met l yX0_packets wsX0_packets ({ frames := 0, cells := 0, slots := 0, locals := 0 }) (va_Pc [.ref aR] (fun U => va_P (dC, dI) vwCl [(aR, .inr (0, [.int (nI R), .ref aB, .ref aS, .ref aT, .int (nI o), .int (nI n), .int (nI en), .int (nI us)]))] U.heap ∧ va_K (dC, dI) vwCl [] U)) (vp_Si (fun r => r = nI n)) 0 0 (fun _ => False) := by
  refine Met.ofW (cc := cX0_packets) (maxL := 1) (ret := (some .int)) (by decide) rfl ?_
  intro p e s m args below meth c s₁ B hml hv
  obtain ⟨rfl, hP, hK⟩ := hv
  have hx := B.exec
  have hb := B.bytes
  have hr := B.returns
  have hts := atoms_spec (ws := wsX0_packets) B.pre
  have hown : s.vm.findClass RX0 = some m.cls := findClass_of_methodNamed B.named
  have hlocks := B.notSynchronized
  have hi_R : ∀ w ∈ u_ws RX0 TX0 8, w ∈ wsX0_packets := by decide +kernel
  have hP : va_P (dC, dI) vwCl [(aR, .inr (0, [.int (nI R), .ref aB, .ref aS, .ref aT, .int (nI o), .int (nI n), .int (nI en), .int (nI us)]))] s.heap := hP
  have hl := lv_entry ([.ref aR]) (n := 1) (Nat.le_of_ble_eq_true rfl)
  rw [lg_entry_eq]
  generalize (lg_sl ([.ref aR]) ++ List.replicate (1 - (lg_sl ([.ref aR])).length) Slot.unset).toArray = ls at hl ⊢
  have hl : lv_has ls 1 [(0, .ref aR)] := hl
  refine lv_aload_n hx hb dX0_packets_0 rfl (lv_at hl 0 rfl) ?_
  refine va_get (D := (dC, dI)) (ci := 0) (v := .int (nI n)) (C := RX0) (T := TX0) (N := 8) hx hb hts hi_R hown hK hP 0 rfl rfl 5 (by decide) (hts (.fieldLink RX0 24 "PacketStore$Ring" "packets" "I") (by decide +kernel)) (fun _ h9 => h9) rfl dX0_packets_1 ?_
  exact W.iret (v := (nI n)) hx hb hr (fun t ht hW => ⟨_, rfl, rfl, ht⟩) (fun q hq => by cases hq) dX0_packets_4
set_option maxHeartbeats 4000000 in
set_option maxRecDepth 100000 in
/-- Ring.used() -/
theorem c_R_used (l : Launch) (dC : Nat → ClassId) (dI : Nat → Nat → Nat) (aR aB aS aT R o n en us : Nat)  : Met l yX0_used wsX0_used ({ frames := 0, cells := 0, slots := 0, locals := 0 }) (va_Pc [.ref aR] (fun U => va_P (dC, dI) vwCl [(aR, .inr (0, [.int (nI R), .ref aB, .ref aS, .ref aT, .int (nI o), .int (nI n), .int (nI en), .int (nI us)]))] U.heap ∧ va_K (dC, dI) vwCl [] U)) (vp_Si (fun r => r = nI us)) 0 0 (fun _ => False) := by
  refine Met.ofW (cc := cX0_used) (maxL := 1) (ret := (some .int)) (by decide) rfl ?_
  intro p e s m args below meth c s₁ B hml hv
  obtain ⟨rfl, hP, hK⟩ := hv
  have hx := B.exec
  have hb := B.bytes
  have hr := B.returns
  have hts := atoms_spec (ws := wsX0_used) B.pre
  have hown : s.vm.findClass RX0 = some m.cls := findClass_of_methodNamed B.named
  have hlocks := B.notSynchronized
  have hi_R : ∀ w ∈ u_ws RX0 TX0 8, w ∈ wsX0_used := by decide +kernel
  have hP : va_P (dC, dI) vwCl [(aR, .inr (0, [.int (nI R), .ref aB, .ref aS, .ref aT, .int (nI o), .int (nI n), .int (nI en), .int (nI us)]))] s.heap := hP
  have hl := lv_entry ([.ref aR]) (n := 1) (Nat.le_of_ble_eq_true rfl)
  rw [lg_entry_eq]
  generalize (lg_sl ([.ref aR]) ++ List.replicate (1 - (lg_sl ([.ref aR])).length) Slot.unset).toArray = ls at hl ⊢
  have hl : lv_has ls 1 [(0, .ref aR)] := hl
  refine lv_aload_n hx hb dX0_used_0 rfl (lv_at hl 0 rfl) ?_
  refine va_get (D := (dC, dI)) (ci := 0) (v := .int (nI us)) (C := RX0) (T := TX0) (N := 8) hx hb hts hi_R hown hK hP 0 rfl rfl 7 (by decide) (hts (.fieldLink RX0 27 "PacketStore$Ring" "used" "I") (by decide +kernel)) (fun _ h9 => h9) rfl dX0_used_1 ?_
  exact W.iret (v := (nI us)) hx hb hr (fun t ht hW => ⟨_, rfl, rfl, ht⟩) (fun q hq => by cases hq) dX0_used_4
set_option maxHeartbeats 4000000 in
set_option maxRecDepth 100000 in
/-- Ring.has(k) -/
theorem c_R_has (l : Launch) (dC : Nat → ClassId) (dI : Nat → Nat → Nat) (aR aB aS aT R o n en us : Nat) (k : Int32) (hn : n < 2 ^ 31) : Met l yX0_has wsX0_has ({ frames := 0, cells := 0, slots := 0, locals := 0 }) (va_Pc [.ref aR, .int k] (fun U => va_P (dC, dI) vwCl [(aR, .inr (0, [.int (nI R), .ref aB, .ref aS, .ref aT, .int (nI o), .int (nI n), .int (nI en), .int (nI us)]))] U.heap ∧ va_K (dC, dI) vwCl [] U)) (vp_Si (fun r => (r = nI 0 ∧ ¬ ∃ j, j < n ∧ k = nI j) ∨ (r = nI 1 ∧ ∃ j, j < n ∧ k = nI j))) 0 0 (fun _ => False) := by
  refine Met.ofW (cc := cX0_has) (maxL := 2) (ret := (some .boolean)) (by decide) rfl ?_
  intro p e s m args below meth c s₁ B hml hv
  obtain ⟨rfl, hP, hK⟩ := hv
  have hx := B.exec
  have hb := B.bytes
  have hr := B.returns
  have hts := atoms_spec (ws := wsX0_has) B.pre
  have hown : s.vm.findClass RX0 = some m.cls := findClass_of_methodNamed B.named
  have hlocks := B.notSynchronized
  have hi_R : ∀ w ∈ u_ws RX0 TX0 8, w ∈ wsX0_has := by decide +kernel
  have hP : va_P (dC, dI) vwCl [(aR, .inr (0, [.int (nI R), .ref aB, .ref aS, .ref aT, .int (nI o), .int (nI n), .int (nI en), .int (nI us)]))] s.heap := hP
  have hl := lv_entry ([.ref aR, .int k]) (n := 2) (Nat.le_of_ble_eq_true rfl)
  rw [lg_entry_eq]
  generalize (lg_sl ([.ref aR, .int k]) ++ List.replicate (2 - (lg_sl ([.ref aR, .int k])).length) Slot.unset).toArray = ls at hl ⊢
  have hl : lv_has ls 2 [(0, .ref aR), (1, .int k)] := hl
  refine lv_iload_n hx hb dX0_has_0 rfl (lv_at hl 1 rfl) ?_
  refine lv_if_lt (tgt := 16) hx hb dX0_has_1 (by decide) (fun c1 => ?_) (fun c1 => ?_)
  · refine lv_iconst (v := nI 0) hx hb dX0_has_16 (by decide) ?_
    exact W.zret (v := (nI 0)) hx hb hr rfl (fun t ht hW => ⟨_, rfl, Or.inl ⟨rfl, fun ⟨j, h1, h2⟩ => nI_pos (n := j) (by omega) (h2 ▸ c1)⟩, ht⟩) (fun q hq => by cases hq) dX0_has_17
  · refine lv_iload_n hx hb dX0_has_4 rfl (lv_at hl 1 rfl) ?_
    refine lv_aload_n hx hb dX0_has_5 rfl (lv_at hl 0 rfl) ?_
    refine va_get (D := (dC, dI)) (ci := 0) (v := .int (nI n)) (C := RX0) (T := TX0) (N := 8) hx hb hts hi_R hown hK hP 0 rfl rfl 5 (by decide) (hts (.fieldLink RX0 24 "PacketStore$Ring" "packets" "I") (by decide +kernel)) (fun _ h9 => h9) rfl dX0_has_6 ?_
    refine lv_icmp_ge (tgt := 16) hx hb dX0_has_9 (by decide) (fun c9 => ?_) (fun c9 => ?_)
    · refine lv_iconst (v := nI 0) hx hb dX0_has_16 (by decide) ?_
      exact W.zret (v := (nI 0)) hx hb hr rfl (fun t ht hW => ⟨_, rfl, Or.inl ⟨rfl, fun ⟨j, h1, h2⟩ => nI_ge h1 hn (h2 ▸ c9)⟩, ht⟩) (fun q hq => by cases hq) dX0_has_17
    · refine lv_iconst (v := nI 1) hx hb dX0_has_12 (by decide) ?_
      refine lv_goto (tgt := 17) hx hb dX0_has_13 (by decide) ?_
      exact W.zret (v := (nI 1)) hx hb hr rfl (fun t ht hW => ⟨_, rfl, Or.inr ⟨rfl, (pk_ix k hn).elim (fun h => absurd h c1) (fun h => h.elim (fun h => absurd h c9) id)⟩, ht⟩) (fun q hq => by cases hq) dX0_has_17
set_option maxHeartbeats 4000000 in
set_option maxRecDepth 100000 in
/-- Ring.wrapped(place): the place in the ring -/
theorem c_R_wrapped (l : Launch) (dC : Nat → ClassId) (dI : Nat → Nat → Nat) (aR aB aS aT R o n en us : Nat) (q : Nat) (hq : q < 2 * R) (hR : R < 2 ^ 30) : Met l yX0_wrapped wsX0_wrapped ({ frames := 0, cells := 0, slots := 0, locals := 0 }) (va_Pc [.ref aR, .int (nI q)] (fun U => va_P (dC, dI) vwCl [(aR, .inr (0, [.int (nI R), .ref aB, .ref aS, .ref aT, .int (nI o), .int (nI n), .int (nI en), .int (nI us)]))] U.heap ∧ va_K (dC, dI) vwCl [] U)) (vp_Si (fun r => r = nI (q % R))) 0 0 (fun _ => False) := by
  refine Met.ofW (cc := cX0_wrapped) (maxL := 2) (ret := (some .int)) (by decide) rfl ?_
  intro p e s m args below meth c s₁ B hml hv
  obtain ⟨rfl, hP, hK⟩ := hv
  have hx := B.exec
  have hb := B.bytes
  have hr := B.returns
  have hts := atoms_spec (ws := wsX0_wrapped) B.pre
  have hown : s.vm.findClass RX0 = some m.cls := findClass_of_methodNamed B.named
  have hlocks := B.notSynchronized
  have hi_R : ∀ w ∈ u_ws RX0 TX0 8, w ∈ wsX0_wrapped := by decide +kernel
  have hP : va_P (dC, dI) vwCl [(aR, .inr (0, [.int (nI R), .ref aB, .ref aS, .ref aT, .int (nI o), .int (nI n), .int (nI en), .int (nI us)]))] s.heap := hP
  have hl := lv_entry ([.ref aR, .int (nI q)]) (n := 2) (Nat.le_of_ble_eq_true rfl)
  rw [lg_entry_eq]
  generalize (lg_sl ([.ref aR, .int (nI q)]) ++ List.replicate (2 - (lg_sl ([.ref aR, .int (nI q)])).length) Slot.unset).toArray = ls at hl ⊢
  have hl : lv_has ls 2 [(0, .ref aR), (1, .int (nI q))] := hl
  refine lv_iload_n hx hb dX0_wrapped_0 rfl (lv_at hl 1 rfl) ?_
  refine lv_aload_n hx hb dX0_wrapped_1 rfl (lv_at hl 0 rfl) ?_
  refine va_get (D := (dC, dI)) (ci := 0) (v := .int (nI R)) (C := RX0) (T := TX0) (N := 8) hx hb hts hi_R hown hK hP 0 rfl rfl 0 (by decide) (hts (.fieldLink RX0 7 "PacketStore$Ring" "room" "I") (by decide +kernel)) (fun _ h9 => h9) rfl dX0_wrapped_2 ?_
  refine zz_icmp_ge (a := q) (b := R) (tgt := 12) hx hb dX0_wrapped_5 (by decide) (by omega) (by omega) (fun c5 => ?_) (fun c5 => ?_)
  · refine lv_iload_n hx hb dX0_wrapped_12 rfl (lv_at hl 1 rfl) ?_
    refine lv_aload_n hx hb dX0_wrapped_13 rfl (lv_at hl 0 rfl) ?_
    refine va_get (D := (dC, dI)) (ci := 0) (v := .int (nI R)) (C := RX0) (T := TX0) (N := 8) hx hb hts hi_R hown hK hP 0 rfl rfl 0 (by decide) (hts (.fieldLink RX0 7 "PacketStore$Ring" "room" "I") (by decide +kernel)) (fun _ h9 => h9) rfl dX0_wrapped_14 ?_
    refine lv_isub hx hb dX0_wrapped_17 ?_
    refine zz_as (nI (q - R)) (pk_sub (by omega)) ?_
    exact W.iret (v := (nI (q - R))) hx hb hr (fun t ht hW => ⟨_, rfl, by rw [← rg_wrap hq, if_neg (Nat.not_lt.mpr c5)], ht⟩) (fun q hq => by cases hq) dX0_wrapped_18
  · refine lv_iload_n hx hb dX0_wrapped_8 rfl (lv_at hl 1 rfl) ?_
    refine lv_goto (tgt := 18) hx hb dX0_wrapped_9 (by decide) ?_
    exact W.iret (v := (nI q)) hx hb hr (fun t ht hW => ⟨_, rfl, by rw [← rg_wrap hq, if_pos c5], ht⟩) (fun q hq => by cases hq) dX0_wrapped_18
set_option maxHeartbeats 4000000 in
set_option maxRecDepth 100000 in
/-- Ring.timeOf(k) -/
theorem c_R_timeOf (l : Launch) (dC : Nat → ClassId) (dI : Nat → Nat → Nat) (aR aB aS aT R o n en us : Nat) (cT : ClassId) (Tf : Nat → Int32) (k : Nat) (ho : o < R) (hk : k ≤ R) (hR : R < 2 ^ 30) : Met l yX0_timeOf wsX0_timeOf ({ frames := 1, cells := 0, slots := 0, locals := 21 }) (va_Pc [.ref aR, .int (nI k)] (fun U => va_P (dC, dI) vwCl [(aR, .inr (0, [.int (nI R), .ref aB, .ref aS, .ref aT, .int (nI o), .int (nI n), .int (nI en), .int (nI us)])), (aT, .inl (cT, R, .inl Tf))] U.heap ∧ va_K (dC, dI) vwCl [(cT, .int)] U)) (vp_Si (fun r => r = Tf ((o + k) % R))) 0 0 (fun _ => False) := by
  refine Met.ofW (cc := cX0_timeOf) (maxL := 2) (ret := (some .int)) (by decide) rfl ?_
  intro p e s m args below meth c s₁ B hml hv
  obtain ⟨rfl, hP, hK⟩ := hv
  have hx := B.exec
  have hb := B.bytes
  have hr := B.returns
  have hts := atoms_spec (ws := wsX0_timeOf) B.pre
  have hown : s.vm.findClass RX0 = some m.cls := findClass_of_methodNamed B.named
  have hlocks := B.notSynchronized
  have hi_R : ∀ w ∈ u_ws RX0 TX0 8, w ∈ wsX0_timeOf := by decide +kernel
  have hP : va_P (dC, dI) vwCl [(aR, .inr (0, [.int (nI R), .ref aB, .ref aS, .ref aT, .int (nI o), .int (nI n), .int (nI en), .int (nI us)])), (aT, .inl (cT, R, .inl Tf))] s.heap := hP
  have hl := lv_entry ([.ref aR, .int (nI k)]) (n := 2) (Nat.le_of_ble_eq_true rfl)
  rw [lg_entry_eq]
  generalize (lg_sl ([.ref aR, .int (nI k)]) ++ List.replicate (2 - (lg_sl ([.ref aR, .int (nI k)])).length) Slot.unset).toArray = ls at hl ⊢
  have hl : lv_has ls 2 [(0, .ref aR), (1, .int (nI k))] := hl
  refine lv_aload_n hx hb dX0_timeOf_0 rfl (lv_at hl 0 rfl) ?_
  refine va_get (D := (dC, dI)) (ci := 0) (v := .ref aT) (C := RX0) (T := TX0) (N := 8) hx hb hts hi_R hown hK hP 0 rfl rfl 3 (by decide) (hts (.fieldLink RX0 21 "PacketStore$Ring" "times" "[I") (by decide +kernel)) (fun _ h9 => h9) rfl dX0_timeOf_1 ?_
  refine lv_aload_n hx hb dX0_timeOf_4 rfl (lv_at hl 0 rfl) ?_
  refine lv_aload_n hx hb dX0_timeOf_5 rfl (lv_at hl 0 rfl) ?_
  refine va_get (D := (dC, dI)) (ci := 0) (v := .int (nI o)) (C := RX0) (T := TX0) (N := 8) hx hb hts hi_R hown hK hP 0 rfl rfl 4 (by decide) (hts (.fieldLink RX0 30 "PacketStore$Ring" "oldest" "I") (by decide +kernel)) (fun _ h9 => h9) rfl dX0_timeOf_6 ?_
  refine lv_iload_n hx hb dX0_timeOf_9 rfl (lv_at hl 1 rfl) ?_
  refine lv_iadd hx hb dX0_timeOf_10 ?_
  refine zz_as (nI (o + k)) (nI_add _ _) ?_
  refine zz_callR (As := [.int (nI (o + k))]) (rest := [.ref aT]) ⟨hx, hb, hml, hown, hts⟩ (c_R_wrapped l dC dI aR aB aS aT R o n en us (o + k) (by omega) (by omega)) (cwV 1 hts gX0_timeOf_X0_wrapped rfl rfl rfl (by decide +kernel) ⟨Nat.le_of_ble_eq_true rfl, Nat.le_of_ble_eq_true rfl⟩) (hP.sub [0] rfl) (hK.sub [] rfl) 0 rfl rfl rfl rfl hl.1 rfl (Nat.le_of_ble_eq_true rfl) dX0_timeOf_11 ⟨Nat.zero_le _, Nat.zero_le _⟩ (fun r11 e11 => ?_)
  subst e11
  refine zz_iald hx hb hK hP 1 0 rfl rfl (j := (o + k) % R) (Nat.mod_lt _ (by omega)) (by omega) dX0_timeOf_14 ?_
  exact W.iret (v := (Tf ((o + k) % R))) hx hb hr (fun t ht hW => ⟨_, rfl, rfl, ht⟩) (fun q hq => by cases hq) dX0_timeOf_15
set_option maxHeartbeats 4000000 in
set_option maxRecDepth 100000 in
/-- Ring.startOf(k) -/
theorem c_R_startOf (l : Launch) (dC : Nat → ClassId) (dI : Nat → Nat → Nat) (aR aB aS aT R o n en us : Nat) (cS : ClassId) (Sf : Nat → Int32) (k : Nat) (ho : o < R) (hk : k ≤ R) (hR : R < 2 ^ 30) : Met l yX0_startOf wsX0_startOf ({ frames := 1, cells := 0, slots := 0, locals := 21 }) (va_Pc [.ref aR, .int (nI k)] (fun U => va_P (dC, dI) vwCl [(aR, .inr (0, [.int (nI R), .ref aB, .ref aS, .ref aT, .int (nI o), .int (nI n), .int (nI en), .int (nI us)])), (aS, .inl (cS, R, .inl Sf))] U.heap ∧ va_K (dC, dI) vwCl [(cS, .int)] U)) (vp_Si (fun r => r = Sf ((o + k) % R))) 0 0 (fun _ => False) := by
  refine Met.ofW (cc := cX0_startOf) (maxL := 2) (ret := (some .int)) (by decide) rfl ?_
  intro p e s m args below meth c s₁ B hml hv
  obtain ⟨rfl, hP, hK⟩ := hv
  have hx := B.exec
  have hb := B.bytes
  have hr := B.returns
  have hts := atoms_spec (ws := wsX0_startOf) B.pre
  have hown : s.vm.findClass RX0 = some m.cls := findClass_of_methodNamed B.named
  have hlocks := B.notSynchronized
  have hi_R : ∀ w ∈ u_ws RX0 TX0 8, w ∈ wsX0_startOf := by decide +kernel
  have hP : va_P (dC, dI) vwCl [(aR, .inr (0, [.int (nI R), .ref aB, .ref aS, .ref aT, .int (nI o), .int (nI n), .int (nI en), .int (nI us)])), (aS, .inl (cS, R, .inl Sf))] s.heap := hP
  have hl := lv_entry ([.ref aR, .int (nI k)]) (n := 2) (Nat.le_of_ble_eq_true rfl)
  rw [lg_entry_eq]
  generalize (lg_sl ([.ref aR, .int (nI k)]) ++ List.replicate (2 - (lg_sl ([.ref aR, .int (nI k)])).length) Slot.unset).toArray = ls at hl ⊢
  have hl : lv_has ls 2 [(0, .ref aR), (1, .int (nI k))] := hl
  refine lv_aload_n hx hb dX0_startOf_0 rfl (lv_at hl 0 rfl) ?_
  refine va_get (D := (dC, dI)) (ci := 0) (v := .ref aS) (C := RX0) (T := TX0) (N := 8) hx hb hts hi_R hown hK hP 0 rfl rfl 2 (by decide) (hts (.fieldLink RX0 17 "PacketStore$Ring" "starts" "[I") (by decide +kernel)) (fun _ h9 => h9) rfl dX0_startOf_1 ?_
  refine lv_aload_n hx hb dX0_startOf_4 rfl (lv_at hl 0 rfl) ?_
  refine lv_aload_n hx hb dX0_startOf_5 rfl (lv_at hl 0 rfl) ?_
  refine va_get (D := (dC, dI)) (ci := 0) (v := .int (nI o)) (C := RX0) (T := TX0) (N := 8) hx hb hts hi_R hown hK hP 0 rfl rfl 4 (by decide) (hts (.fieldLink RX0 30 "PacketStore$Ring" "oldest" "I") (by decide +kernel)) (fun _ h9 => h9) rfl dX0_startOf_6 ?_
  refine lv_iload_n hx hb dX0_startOf_9 rfl (lv_at hl 1 rfl) ?_
  refine lv_iadd hx hb dX0_startOf_10 ?_
  refine zz_as (nI (o + k)) (nI_add _ _) ?_
  refine zz_callR (As := [.int (nI (o + k))]) (rest := [.ref aS]) ⟨hx, hb, hml, hown, hts⟩ (c_R_wrapped l dC dI aR aB aS aT R o n en us (o + k) (by omega) (by omega)) (cwV 1 hts gX0_startOf_X0_wrapped rfl rfl rfl (by decide +kernel) ⟨Nat.le_of_ble_eq_true rfl, Nat.le_of_ble_eq_true rfl⟩) (hP.sub [0] rfl) (hK.sub [] rfl) 0 rfl rfl rfl rfl hl.1 rfl (Nat.le_of_ble_eq_true rfl) dX0_startOf_11 ⟨Nat.zero_le _, Nat.zero_le _⟩ (fun r11 e11 => ?_)
  subst e11
  refine zz_iald hx hb hK hP 1 0 rfl rfl (j := (o + k) % R) (Nat.mod_lt _ (by omega)) (by omega) dX0_startOf_14 ?_
  exact W.iret (v := (Sf ((o + k) % R))) hx hb hr (fun t ht hW => ⟨_, rfl, rfl, ht⟩) (fun q hq => by cases hq) dX0_startOf_15
set_option maxHeartbeats 4000000 in
set_option maxRecDepth 100000 in
/-- Ring.sizeOf(k) -/
theorem c_R_sizeOf (l : Launch) (dC : Nat → ClassId) (dI : Nat → Nat → Nat) (aR aB aS aT R lo hi : Nat) (off : Nat → Nat) (us : Nat) (cS : ClassId) (Sf : Nat → Int32) (k : Nat) (hok : rg_ok R lo hi off) (hst : ∀ i, lo ≤ i → i < hi → Sf (i % R) = nI (off i % R)) (hk : lo + k < hi) : Met l yX0_sizeOf wsX0_sizeOf ({ frames := 2, cells := 0, slots := 0, locals := 42 }) (va_Pc [.ref aR, .int (nI k)] (fun U => va_P (dC, dI) vwCl [(aR, .inr (0, [.int (nI R), .ref aB, .ref aS, .ref aT, .int (nI (lo % R)), .int (nI (hi - lo)), .int (nI (off hi % R)), .int (nI us)])), (aS, .inl (cS, R, .inl Sf))] U.heap ∧ va_K (dC, dI) vwCl [(cS, .int)] U)) (vp_Si (fun r => r = nI (off (lo + k + 1) - off (lo + k)))) 0 0 (fun _ => False) := by
  refine Met.ofW (cc := cX0_sizeOf) (maxL := 4) (ret := (some .int)) (by decide) rfl ?_
  intro p e s m args below meth c s₁ B hml hv
  obtain ⟨rfl, hP, hK⟩ := hv
  have hx := B.exec
  have hb := B.bytes
  have hr := B.returns
  have hts := atoms_spec (ws := wsX0_sizeOf) B.pre
  have hown : s.vm.findClass RX0 = some m.cls := findClass_of_methodNamed B.named
  have hlocks := B.notSynchronized
  have hi_R : ∀ w ∈ u_ws RX0 TX0 8, w ∈ wsX0_sizeOf := by decide +kernel
  have hP : va_P (dC, dI) vwCl [(aR, .inr (0, [.int (nI R), .ref aB, .ref aS, .ref aT, .int (nI (lo % R)), .int (nI (hi - lo)), .int (nI (off hi % R)), .int (nI us)])), (aS, .inl (cS, R, .inl Sf))] s.heap := hP
  have hl := lv_entry ([.ref aR, .int (nI k)]) (n := 4) (Nat.le_of_ble_eq_true rfl)
  rw [lg_entry_eq]
  generalize (lg_sl ([.ref aR, .int (nI k)]) ++ List.replicate (4 - (lg_sl ([.ref aR, .int (nI k)])).length) Slot.unset).toArray = ls at hl ⊢
  have hl : lv_has ls 4 [(0, .ref aR), (1, .int (nI k))] := hl
  have hRR := hok.1
  have hll := hok.2.1
  have hcap := hok.2.2.1
  have hgap := hok.gap (Nat.le_refl lo) hll (Nat.le_refl hi)
  have hk1 : off (lo + k) < off (lo + k + 1) := hok.2.2.2 (lo + k) (by omega) hk
  have hk2 : off lo + (lo + k - lo) ≤ off (lo + k) := hok.gap (Nat.le_refl lo) (by omega) (by omega)
  have hk3 : off (lo + k + 1) + (hi - (lo + k + 1)) ≤ off hi := hok.gap (by omega) (by omega) (Nat.le_refl hi)
  refine lv_iload_n hx hb dX0_sizeOf_0 rfl (lv_at hl 1 rfl) ?_
  refine lv_iconst (v := nI 1) hx hb dX0_sizeOf_1 (by decide) ?_
  refine lv_iadd hx hb dX0_sizeOf_2 ?_
  refine zz_as (nI (k + 1)) (nI_add _ _) ?_
  refine lv_aload_n hx hb dX0_sizeOf_3 rfl (lv_at hl 0 rfl) ?_
  refine va_get (D := (dC, dI)) (ci := 0) (v := .int (nI (hi - lo))) (C := RX0) (T := TX0) (N := 8) hx hb hts hi_R hown hK hP 0 rfl rfl 5 (by decide) (hts (.fieldLink RX0 24 "PacketStore$Ring" "packets" "I") (by decide +kernel)) (fun _ h9 => h9) rfl dX0_sizeOf_4 ?_
  refine zz_icmp_ge (a := k + 1) (b := hi - lo) (tgt := 20) hx hb dX0_sizeOf_7 (by decide) (by omega) (by omega) (fun c7 => ?_) (fun c7 => ?_)
  · refine lv_aload_n hx hb dX0_sizeOf_20 rfl (lv_at hl 0 rfl) ?_
    refine va_get (D := (dC, dI)) (ci := 0) (v := .int (nI (off hi % R))) (C := RX0) (T := TX0) (N := 8) hx hb hts hi_R hown hK hP 0 rfl rfl 6 (by decide) (hts (.fieldLink RX0 40 "PacketStore$Ring" "end" "I") (by decide +kernel)) (fun _ h9 => h9) rfl dX0_sizeOf_21 ?_
    refine zz_as (nI (off (lo + k + 1) % R)) (by rw [show hi = lo + k + 1 by omega]) ?_
    refine lv_istore_n (lv' := [(2, .int (nI (off (lo + k + 1) % R))), (0, .ref aR), (1, .int (nI k))]) hx hb dX0_sizeOf_24 rfl hl (by decide) rfl (fun ls hl => ?_)
    refine lv_iload_n hx hb dX0_sizeOf_25 rfl (lv_at hl 0 rfl) ?_
    refine lv_aload_n hx hb dX0_sizeOf_26 rfl (lv_at hl 1 rfl) ?_
    refine lv_iload_n hx hb dX0_sizeOf_27 rfl (lv_at hl 2 rfl) ?_
    refine zz_callR (As := [.int (nI k)]) (rest := [.int (nI (off (lo + k + 1) % R))]) ⟨hx, hb, hml, hown, hts⟩ (c_R_startOf l dC dI aR aB aS aT R (lo % R) (hi - lo) (off hi % R) us cS Sf k (Nat.mod_lt _ (by omega)) (by omega) (by omega)) (cwV 1 hts gX0_sizeOf_X0_startOf rfl rfl rfl (by decide +kernel) ⟨Nat.le_of_ble_eq_true rfl, Nat.le_of_ble_eq_true rfl⟩) (hP.sub [0, 1] rfl) (hK.sub [0] rfl) 0 rfl rfl rfl rfl hl.1 rfl (Nat.le_of_ble_eq_true rfl) dX0_sizeOf_28 ⟨Nat.zero_le _, Nat.zero_le _⟩ (fun r28 e28 => ?_)
    subst e28
    refine zz_as (nI (off (lo + k) % R)) (by rw [Nat.mod_add_mod]; exact hst (lo + k) (by omega) (by omega)) ?_
    refine lv_isub hx hb dX0_sizeOf_31 ?_
    refine lv_istore_n (lv' := [(3, .int (((nI (off (lo + k + 1) % R))) - ((nI (off (lo + k) % R))))), (2, .int (nI (off (lo + k + 1) % R))), (0, .ref aR), (1, .int (nI k))]) hx hb dX0_sizeOf_32 rfl hl (by decide) rfl (fun ls hl => ?_)
    refine lv_iload_n hx hb dX0_sizeOf_33 rfl (lv_at hl 0 rfl) ?_
    refine lv_if_le (tgt := 41) hx hb dX0_sizeOf_34 (by decide) (fun c34 => ?_) (fun c34 => ?_)
    · refine lv_iload_n hx hb dX0_sizeOf_41 rfl (lv_at hl 0 rfl) ?_
      refine lv_aload_n hx hb dX0_sizeOf_42 rfl (lv_at hl 2 rfl) ?_
      refine va_get (D := (dC, dI)) (ci := 0) (v := .int (nI R)) (C := RX0) (T := TX0) (N := 8) hx hb hts hi_R hown hK hP 0 rfl rfl 0 (by decide) (hts (.fieldLink RX0 7 "PacketStore$Ring" "room" "I") (by decide +kernel)) (fun _ h9 => h9) rfl dX0_sizeOf_43 ?_
      refine lv_iadd hx hb dX0_sizeOf_46 ?_
      exact W.iret (v := (((((nI (off (lo + k + 1) % R))) - ((nI (off (lo + k) % R))))) + ((nI R)))) hx hb hr (fun t ht hW => ⟨_, rfl, rg_sz2 (by omega) hk1 (by omega) c34, ht⟩) (fun q hq => by cases hq) dX0_sizeOf_47
    · refine lv_iload_n hx hb dX0_sizeOf_37 rfl (lv_at hl 0 rfl) ?_
      refine lv_goto (tgt := 47) hx hb dX0_sizeOf_38 (by decide) ?_
      exact W.iret (v := (((nI (off (lo + k + 1) % R))) - ((nI (off (lo + k) % R))))) hx hb hr (fun t ht hW => ⟨_, rfl, rg_sz1 (by omega) hk1 (by omega) c34, ht⟩) (fun q hq => by cases hq) dX0_sizeOf_47
  · refine lv_aload_n hx hb dX0_sizeOf_10 rfl (lv_at hl 0 rfl) ?_
    refine lv_iload_n hx hb dX0_sizeOf_11 rfl (lv_at hl 1 rfl) ?_
    refine lv_iconst (v := nI 1) hx hb dX0_sizeOf_12 (by decide) ?_
    refine lv_iadd hx hb dX0_sizeOf_13 ?_
    refine zz_as (nI (k + 1)) (nI_add _ _) ?_
    refine zz_callR (As := [.int (nI (k + 1))]) (rest := []) ⟨hx, hb, hml, hown, hts⟩ (c_R_startOf l dC dI aR aB aS aT R (lo % R) (hi - lo) (off hi % R) us cS Sf (k + 1) (Nat.mod_lt _ (by omega)) (by omega) (by omega)) (cwV 1 hts gX0_sizeOf_X0_startOf rfl rfl rfl (by decide +kernel) ⟨Nat.le_of_ble_eq_true rfl, Nat.le_of_ble_eq_true rfl⟩) (hP.sub [0, 1] rfl) (hK.sub [0] rfl) 0 rfl rfl rfl rfl hl.1 rfl (Nat.le_of_ble_eq_true rfl) dX0_sizeOf_14 ⟨Nat.zero_le _, Nat.zero_le _⟩ (fun r14 e14 => ?_)
    subst e14
    refine zz_as (nI (off (lo + (k + 1)) % R)) (by rw [Nat.mod_add_mod]; exact hst (lo + (k + 1)) (by omega) (by omega)) ?_
    refine lv_goto (tgt := 24) hx hb dX0_sizeOf_17 (by decide) ?_
    refine zz_as (nI (off (lo + k + 1) % R)) rfl ?_
    refine lv_istore_n (lv' := [(2, .int (nI (off (lo + k + 1) % R))), (0, .ref aR), (1, .int (nI k))]) hx hb dX0_sizeOf_24 rfl hl (by decide) rfl (fun ls hl => ?_)
    refine lv_iload_n hx hb dX0_sizeOf_25 rfl (lv_at hl 0 rfl) ?_
    refine lv_aload_n hx hb dX0_sizeOf_26 rfl (lv_at hl 1 rfl) ?_
    refine lv_iload_n hx hb dX0_sizeOf_27 rfl (lv_at hl 2 rfl) ?_
    refine zz_callR (As := [.int (nI k)]) (rest := [.int (nI (off (lo + k + 1) % R))]) ⟨hx, hb, hml, hown, hts⟩ (c_R_startOf l dC dI aR aB aS aT R (lo % R) (hi - lo) (off hi % R) us cS Sf k (Nat.mod_lt _ (by omega)) (by omega) (by omega)) (cwV 1 hts gX0_sizeOf_X0_startOf rfl rfl rfl (by decide +kernel) ⟨Nat.le_of_ble_eq_true rfl, Nat.le_of_ble_eq_true rfl⟩) (hP.sub [0, 1] rfl) (hK.sub [0] rfl) 0 rfl rfl rfl rfl hl.1 rfl (Nat.le_of_ble_eq_true rfl) dX0_sizeOf_28 ⟨Nat.zero_le _, Nat.zero_le _⟩ (fun r28 e28 => ?_)
    subst e28
    refine zz_as (nI (off (lo + k) % R)) (by rw [Nat.mod_add_mod]; exact hst (lo + k) (by omega) (by omega)) ?_
    refine lv_isub hx hb dX0_sizeOf_31 ?_
    refine lv_istore_n (lv' := [(3, .int (((nI (off (lo + k + 1) % R))) - ((nI (off (lo + k) % R))))), (2, .int (nI (off (lo + k + 1) % R))), (0, .ref aR), (1, .int (nI k))]) hx hb dX0_sizeOf_32 rfl hl (by decide) rfl (fun ls hl => ?_)
    refine lv_iload_n hx hb dX0_sizeOf_33 rfl (lv_at hl 0 rfl) ?_
    refine lv_if_le (tgt := 41) hx hb dX0_sizeOf_34 (by decide) (fun c34 => ?_) (fun c34 => ?_)
    · refine lv_iload_n hx hb dX0_sizeOf_41 rfl (lv_at hl 0 rfl) ?_
      refine lv_aload_n hx hb dX0_sizeOf_42 rfl (lv_at hl 2 rfl) ?_
      refine va_get (D := (dC, dI)) (ci := 0) (v := .int (nI R)) (C := RX0) (T := TX0) (N := 8) hx hb hts hi_R hown hK hP 0 rfl rfl 0 (by decide) (hts (.fieldLink RX0 7 "PacketStore$Ring" "room" "I") (by decide +kernel)) (fun _ h9 => h9) rfl dX0_sizeOf_43 ?_
      refine lv_iadd hx hb dX0_sizeOf_46 ?_
      exact W.iret (v := (((((nI (off (lo + k + 1) % R))) - ((nI (off (lo + k) % R))))) + ((nI R)))) hx hb hr (fun t ht hW => ⟨_, rfl, rg_sz2 (by omega) hk1 (by omega) c34, ht⟩) (fun q hq => by cases hq) dX0_sizeOf_47
    · refine lv_iload_n hx hb dX0_sizeOf_37 rfl (lv_at hl 0 rfl) ?_
      refine lv_goto (tgt := 47) hx hb dX0_sizeOf_38 (by decide) ?_
      exact W.iret (v := (((nI (off (lo + k + 1) % R))) - ((nI (off (lo + k) % R))))) hx hb hr (fun t ht hW => ⟨_, rfl, rg_sz1 (by omega) hk1 (by omega) c34, ht⟩) (fun q hq => by cases hq) dX0_sizeOf_47
set_option maxHeartbeats 4000000 in
set_option maxRecDepth 100000 in
/-- Ring.byteOf(k, j) -/
theorem c_R_byteOf (l : Launch) (dC : Nat → ClassId) (dI : Nat → Nat → Nat) (aR aB aS aT R lo hi : Nat) (off : Nat → Nat) (us : Nat) (cB cS : ClassId) (Bf Sf bz : Nat → Int32) (k j : Nat) (hok : rg_ok R lo hi off) (hst : ∀ i, lo ≤ i → i < hi → Sf (i % R) = nI (off i % R)) (hbz : ∀ q, off lo ≤ q → q < off hi → Bf (q % R) = (bz q).toInt8.toInt32) (hk : lo + k < hi) (hj : off (lo + k) + j < off (lo + k + 1)) : Met l yX0_byteOf wsX0_byteOf ({ frames := 2, cells := 0, slots := 0, locals := 42 }) (va_Pc [.ref aR, .int (nI k), .int (nI j)] (fun U => va_P (dC, dI) vwCl [(aR, .inr (0, [.int (nI R), .ref aB, .ref aS, .ref aT, .int (nI (lo % R)), .int (nI (hi - lo)), .int (nI (off hi % R)), .int (nI us)])), (aB, .inl (cB, R, .inl Bf)), (aS, .inl (cS, R, .inl Sf))] U.heap ∧ va_K (dC, dI) vwCl [(cB, .byte), (cS, .int)] U)) (vp_Si (fun r => r = (bz (off (lo + k) + j)).toInt8.toInt32)) 0 0 (fun _ => False) := by
  refine Met.ofW (cc := cX0_byteOf) (maxL := 3) (ret := (some .byte)) (by decide) rfl ?_
  intro p e s m args below meth c s₁ B hml hv
  obtain ⟨rfl, hP, hK⟩ := hv
  have hx := B.exec
  have hb := B.bytes
  have hr := B.returns
  have hts := atoms_spec (ws := wsX0_byteOf) B.pre
  have hown : s.vm.findClass RX0 = some m.cls := findClass_of_methodNamed B.named
  have hlocks := B.notSynchronized
  have hi_R : ∀ w ∈ u_ws RX0 TX0 8, w ∈ wsX0_byteOf := by decide +kernel
  have hP : va_P (dC, dI) vwCl [(aR, .inr (0, [.int (nI R), .ref aB, .ref aS, .ref aT, .int (nI (lo % R)), .int (nI (hi - lo)), .int (nI (off hi % R)), .int (nI us)])), (aB, .inl (cB, R, .inl Bf)), (aS, .inl (cS, R, .inl Sf))] s.heap := hP
  have hl := lv_entry ([.ref aR, .int (nI k), .int (nI j)]) (n := 3) (Nat.le_of_ble_eq_true rfl)
  rw [lg_entry_eq]
  generalize (lg_sl ([.ref aR, .int (nI k), .int (nI j)]) ++ List.replicate (3 - (lg_sl ([.ref aR, .int (nI k), .int (nI j)])).length) Slot.unset).toArray = ls at hl ⊢
  have hl : lv_has ls 3 [(0, .ref aR), (1, .int (nI k)), (2, .int (nI j))] := hl
  have hRR := hok.1
  have hll := hok.2.1
  have hcap := hok.2.2.1
  have hgap := hok.gap (Nat.le_refl lo) hll (Nat.le_refl hi)
  have hk1 : off (lo + k) < off (lo + k + 1) := hok.2.2.2 (lo + k) (by omega) hk
  have hk2 : off lo + (lo + k - lo) ≤ off (lo + k) := hok.gap (Nat.le_refl lo) (by omega) (by omega)
  have hk3 : off (lo + k + 1) + (hi - (lo + k + 1)) ≤ off hi := hok.gap (by omega) (by omega) (Nat.le_refl hi)
  refine lv_aload_n hx hb dX0_byteOf_0 rfl (lv_at hl 0 rfl) ?_
  refine va_get (D := (dC, dI)) (ci := 0) (v := .ref aB) (C := RX0) (T := TX0) (N := 8) hx hb hts hi_R hown hK hP 0 rfl rfl 1 (by decide) (hts (.fieldLink RX0 13 "PacketStore$Ring" "bytes" "[B") (by decide +kernel)) (fun _ h9 => h9) rfl dX0_byteOf_1 ?_
  refine lv_aload_n hx hb dX0_byteOf_4 rfl (lv_at hl 0 rfl) ?_
  refine lv_aload_n hx hb dX0_byteOf_5 rfl (lv_at hl 0 rfl) ?_
  refine lv_iload_n hx hb dX0_byteOf_6 rfl (lv_at hl 1 rfl) ?_
  refine zz_callR (As := [.int (nI k)]) (rest := [.ref aR, .ref aB]) ⟨hx, hb, hml, hown, hts⟩ (c_R_startOf l dC dI aR aB aS aT R (lo % R) (hi - lo) (off hi % R) us cS Sf k (Nat.mod_lt _ (by omega)) (by omega) (by omega)) (cwV 1 hts gX0_byteOf_X0_startOf rfl rfl rfl (by decide +kernel) ⟨Nat.le_of_ble_eq_true rfl, Nat.le_of_ble_eq_true rfl⟩) (hP.sub [0, 2] rfl) (hK.sub [1] rfl) 0 rfl rfl rfl rfl hl.1 rfl (Nat.le_of_ble_eq_true rfl) dX0_byteOf_7 ⟨Nat.zero_le _, Nat.zero_le _⟩ (fun r7 e7 => ?_)
  subst e7
  refine zz_as (nI (off (lo + k) % R)) (by rw [Nat.mod_add_mod]; exact hst (lo + k) (by omega) (by omega)) ?_
  refine lv_iload_n hx hb dX0_byteOf_10 rfl (lv_at hl 2 rfl) ?_
  refine lv_iadd hx hb dX0_byteOf_11 ?_
  refine zz_as (nI ((off (lo + k) % R) + j)) (nI_add _ _) ?_
  refine zz_callR (As := [.int (nI ((off (lo + k) % R) + j))]) (rest := [.ref aB]) ⟨hx, hb, hml, hown, hts⟩ (c_R_wrapped l dC dI aR aB aS aT R (lo % R) (hi - lo) (off hi % R) us ((off (lo + k) % R) + j) (by have := Nat.mod_lt (off (lo + k)) (show 0 < R by omega); omega) (by omega)) (cwV 1 hts gX0_byteOf_X0_wrapped rfl rfl rfl (by decide +kernel) ⟨Nat.le_of_ble_eq_true rfl, Nat.le_of_ble_eq_true rfl⟩) (hP.sub [0] rfl) (hK.sub [] rfl) 0 rfl rfl rfl rfl hl.1 rfl (Nat.le_of_ble_eq_true rfl) dX0_byteOf_12 ⟨Nat.zero_le _, Nat.zero_le _⟩ (fun r12 e12 => ?_)
  subst e12
  refine zz_bald hx hb hK hP 1 0 rfl rfl (j := ((off (lo + k) % R) + j) % R) (Nat.mod_lt _ (by omega)) (by omega) dX0_byteOf_15 ?_
  refine zz_as ((bz (off (lo + k) + j)).toInt8.toInt32) (by rw [Nat.mod_add_mod]; exact hbz _ (by omega) (by omega)) ?_
  exact W.zret (v := ((bz (off (lo + k) + j)).toInt8.toInt32)) hx hb hr (pk_nb _) (fun t ht hW => ⟨_, rfl, rfl, ht⟩) (fun q hq => by cases hq) dX0_byteOf_16
theorem zz_updlt {f g : Nat → Int32} {j : Nat} {x : Int32} (h : ∀ t, t < j → f t = g t) (hx : x = g j) : ∀ t, t < j + 1 → upd f j x t = g t := by
  intro t ht
  by_cases q : t = j
  · rw [q, pk_us, hx]
  · rw [pk_un q]
    exact h t (by omega)
set_option maxHeartbeats 4000000 in
set_option maxRecDepth 100000 in
/-- Ring.copy(k, size, target) -/
theorem c_R_copy (l : Launch) (dC : Nat → ClassId) (dI : Nat → Nat → Nat) (aR aB aS aT R lo hi : Nat) (off : Nat → Nat) (us : Nat) (cB cS cO : ClassId) (Bf Sf bz : Nat → Int32) (aO : Nat) (Of : Nat → Int32) (k sz : Nat) (hok : rg_ok R lo hi off) (hst : ∀ i, lo ≤ i → i < hi → Sf (i % R) = nI (off i % R)) (hbz : ∀ q, off lo ≤ q → q < off hi → Bf (q % R) = (bz q).toInt8.toInt32) (hk : lo + k < hi) (hsk : sz = off (lo + k + 1) - off (lo + k)) (hs5 : sz ≤ 512) (hz : Nat) : Met l yX0_copy wsX0_copy ({ frames := 3, cells := 0, slots := 0, locals := 64 }) (va_Pc [.ref aR, .int (nI k), .int (nI sz), .ref aO] (fun U => U.heap.size = hz ∧ va_P (dC, dI) vwCl [(aR, .inr (0, [.int (nI R), .ref aB, .ref aS, .ref aT, .int (nI (lo % R)), .int (nI (hi - lo)), .int (nI (off hi % R)), .int (nI us)])), (aB, .inl (cB, R, .inl Bf)), (aS, .inl (cS, R, .inl Sf)), (aO, .inl (cO, 512, .inl Of))] U.heap ∧ va_K (dC, dI) vwCl [(cB, .byte), (cS, .int), (cO, .byte)] U ∧ va_D (fun _ => True) [(aR, .inr (0, [.int (nI R), .ref aB, .ref aS, .ref aT, .int (nI (lo % R)), .int (nI (hi - lo)), .int (nI (off hi % R)), .int (nI us)])), (aB, .inl (cB, R, .inl Bf)), (aS, .inl (cS, R, .inl Sf)), (aO, .inl (cO, 512, .inl Of))])) (va_Qv (fun (u : Nat → Int32) => ∀ t, t < sz → u t = (bz (off (lo + k) + t)).toInt8.toInt32) (fun u t => va_P (dC, dI) vwCl [(aR, .inr (0, [.int (nI R), .ref aB, .ref aS, .ref aT, .int (nI (lo % R)), .int (nI (hi - lo)), .int (nI (off hi % R)), .int (nI us)])), (aB, .inl (cB, R, .inl Bf)), (aS, .inl (cS, R, .inl Sf)), (aO, .inl (cO, 512, .inl u))] t.heap ∧ va_K (dC, dI) vwCl [(cB, .byte), (cS, .int), (cO, .byte)] t ∧ va_D (va_A [(aR, .inr (0, [.int (nI R), .ref aB, .ref aS, .ref aT, .int (nI (lo % R)), .int (nI (hi - lo)), .int (nI (off hi % R)), .int (nI us)])), (aB, .inl (cB, R, .inl Bf)), (aS, .inl (cS, R, .inl Sf)), (aO, .inl (cO, 512, .inl Of))] hz) [(aR, .inr (0, [.int (nI R), .ref aB, .ref aS, .ref aT, .int (nI (lo % R)), .int (nI (hi - lo)), .int (nI (off hi % R)), .int (nI us)])), (aB, .inl (cB, R, .inl Bf)), (aS, .inl (cS, R, .inl Sf)), (aO, .inl (cO, 512, .inl u))]) (va_A [(aR, .inr (0, [.int (nI R), .ref aB, .ref aS, .ref aT, .int (nI (lo % R)), .int (nI (hi - lo)), .int (nI (off hi % R)), .int (nI us)])), (aB, .inl (cB, R, .inl Bf)), (aS, .inl (cS, R, .inl Sf)), (aO, .inl (cO, 512, .inl Of))] hz)) 0 0 (va_A [(aR, .inr (0, [.int (nI R), .ref aB, .ref aS, .ref aT, .int (nI (lo % R)), .int (nI (hi - lo)), .int (nI (off hi % R)), .int (nI us)])), (aB, .inl (cB, R, .inl Bf)), (aS, .inl (cS, R, .inl Sf)), (aO, .inl (cO, 512, .inl Of))] hz) := by
  refine Met.ofW (cc := cX0_copy) (maxL := 5) (ret := none) (by decide) rfl ?_
  intro p e s m args below meth c s₁ B hml hv
  obtain ⟨rfl, hsz, hP, hK, hD0⟩ := hv
  have hx := B.exec
  have hb := B.bytes
  have hr := B.returns
  have hts := atoms_spec (ws := wsX0_copy) B.pre
  have hown : s.vm.findClass RX0 = some m.cls := findClass_of_methodNamed B.named
  have hlocks := B.notSynchronized
  subst hsz
  have hD := hD0.self (sz := s.heap.size)
  generalize hAe : va_A [(aR, .inr (0, [.int (nI R), .ref aB, .ref aS, .ref aT, .int (nI (lo % R)), .int (nI (hi - lo)), .int (nI (off hi % R)), .int (nI us)])), (aB, .inl (cB, R, .inl Bf)), (aS, .inl (cS, R, .inl Sf)), (aO, .inl (cO, 512, .inl Of))] s.heap.size = A at hD ⊢
  have hA : ∀ q : Nat, s.heap.size ≤ q → A q := fun q h => by rw [← hAe]; exact Or.inr h
  have hS : va_S A s.heap s.heap [] := va_S.rf
  have hP : va_P (dC, dI) vwCl [(aR, .inr (0, [.int (nI R), .ref aB, .ref aS, .ref aT, .int (nI (lo % R)), .int (nI (hi - lo)), .int (nI (off hi % R)), .int (nI us)])), (aB, .inl (cB, R, .inl Bf)), (aS, .inl (cS, R, .inl Sf)), (aO, .inl (cO, 512, .inl Of))] s.heap := hP
  have hl := lv_entry ([.ref aR, .int (nI k), .int (nI sz), .ref aO]) (n := 5) (Nat.le_of_ble_eq_true rfl)
  rw [lg_entry_eq]
  generalize (lg_sl ([.ref aR, .int (nI k), .int (nI sz), .ref aO]) ++ List.replicate (5 - (lg_sl ([.ref aR, .int (nI k), .int (nI sz), .ref aO])).length) Slot.unset).toArray = ls at hl ⊢
  have hl : lv_has ls 5 [(0, .ref aR), (1, .int (nI k)), (2, .int (nI sz)), (3, .ref aO)] := hl
  have hRR := hok.1
  have hll := hok.2.1
  have hcap := hok.2.2.1
  have hgap := hok.gap (Nat.le_refl lo) hll (Nat.le_refl hi)
  have hk1 : off (lo + k) < off (lo + k + 1) := hok.2.2.2 (lo + k) (by omega) hk
  have hk2 : off lo + (lo + k - lo) ≤ off (lo + k) := hok.gap (Nat.le_refl lo) (by omega) (by omega)
  have hk3 : off (lo + k + 1) + (hi - (lo + k + 1)) ≤ off hi := hok.gap (by omega) (by omega) (Nat.le_refl hi)
  refine lv_iconst (v := nI 0) hx hb dX0_copy_0 (by decide) ?_
  refine lv_istore (lv' := [(4, .int (nI 0)), (0, .ref aR), (1, .int (nI k)), (2, .int (nI sz)), (3, .ref aO)]) hx hb dX0_copy_1 hl (by decide) rfl (fun ls hl => ?_)
  refine zz_loop (σ := Nat × (Nat → Int32)) (fun n v H locs ls => (n + v.1 = sz + 1 ∧ v.1 ≤ sz ∧ ∀ t, t < v.1 → v.2 t = (bz (off (lo + k) + t)).toInt8.toInt32) ∧ va_P (dC, dI) vwCl [(aR, .inr (0, [.int (nI R), .ref aB, .ref aS, .ref aT, .int (nI (lo % R)), .int (nI (hi - lo)), .int (nI (off hi % R)), .int (nI us)])), (aB, .inl (cB, R, .inl Bf)), (aS, .inl (cS, R, .inl Sf)), (aO, .inl (cO, 512, .inl v.2))] H ∧ va_D A [(aR, .inr (0, [.int (nI R), .ref aB, .ref aS, .ref aT, .int (nI (lo % R)), .int (nI (hi - lo)), .int (nI (off hi % R)), .int (nI us)])), (aB, .inl (cB, R, .inl Bf)), (aS, .inl (cS, R, .inl Sf)), (aO, .inl (cO, 512, .inl v.2))] ∧ va_S A s.heap H locs ∧ lv_has ls 5 [(4, .int (nI v.1)), (0, .ref aR), (1, .int (nI k)), (2, .int (nI sz)), (3, .ref aO)]) (fun v H locs ls h => ?_) (fun n v H locs ls h ih => ?_) (sz + 1) (0, Of) _ _ _ ⟨⟨rfl, Nat.zero_le _, fun t h => absurd h (Nat.not_lt_zero t)⟩, hP, hD, hS, lv_sub hl [0, 1, 2, 3, 4] rfl⟩
  · obtain ⟨⟨h1, h2, -⟩, -⟩ := h
    omega
  obtain ⟨j, Og⟩ := v
  obtain ⟨⟨hj1, hj2, hO⟩, hP, hD, hS, hl⟩ := h
  dsimp only at hj1 hj2 hO
  have hP : va_P (dC, dI) vwCl [(aR, .inr (0, [.int (nI R), .ref aB, .ref aS, .ref aT, .int (nI (lo % R)), .int (nI (hi - lo)), .int (nI (off hi % R)), .int (nI us)])), (aB, .inl (cB, R, .inl Bf)), (aS, .inl (cS, R, .inl Sf)), (aO, .inl (cO, 512, .inl Og))] H := hP
  have hD : va_D A [(aR, .inr (0, [.int (nI R), .ref aB, .ref aS, .ref aT, .int (nI (lo % R)), .int (nI (hi - lo)), .int (nI (off hi % R)), .int (nI us)])), (aB, .inl (cB, R, .inl Bf)), (aS, .inl (cS, R, .inl Sf)), (aO, .inl (cO, 512, .inl Og))] := hD
  have hl : lv_has ls 5 [(4, .int (nI j)), (0, .ref aR), (1, .int (nI k)), (2, .int (nI sz)), (3, .ref aO)] := hl
  refine lv_iload hx hb dX0_copy_3 (lv_at hl 0 rfl) ?_
  refine lv_iload_n hx hb dX0_copy_5 rfl (lv_at hl 3 rfl) ?_
  refine zz_icmp_ge (a := j) (b := sz) (tgt := 26) hx hb dX0_copy_6 (by decide) (by omega) (by omega) (fun c6 => ?_) (fun c6 => ?_)
  · exact W.vret hx hb hr (fun t ht hW => ⟨⟨Og, rfl, fun t h => hO t (by omega), by rw [ht]; exact hP, va_K.moved hW.alike hK, hD⟩, hS.F ht⟩) hS.2.2 dX0_copy_26
  · refine lv_aload_n hx hb dX0_copy_9 rfl (lv_at hl 4 rfl) ?_
    refine lv_iload hx hb dX0_copy_10 (lv_at hl 0 rfl) ?_
    refine lv_aload_n hx hb dX0_copy_12 rfl (lv_at hl 1 rfl) ?_
    refine lv_iload_n hx hb dX0_copy_13 rfl (lv_at hl 2 rfl) ?_
    refine lv_iload hx hb dX0_copy_14 (lv_at hl 0 rfl) ?_
    refine zz_callR (As := [.int (nI k), .int (nI j)]) (rest := [.int (nI j), .ref aO]) ⟨hx, hb, hml, hown, hts⟩ (c_R_byteOf l dC dI aR aB aS aT R lo hi off us cB cS Bf Sf bz k j hok hst hbz hk (by omega)) (cwV 2 hts gX0_copy_X0_byteOf rfl rfl rfl (by decide +kernel) ⟨Nat.le_of_ble_eq_true rfl, Nat.le_of_ble_eq_true rfl⟩) (hP.sub [0, 1, 2] rfl) (hK.sub [0, 1] rfl) 0 rfl rfl rfl rfl hl.1 rfl (Nat.le_of_ble_eq_true rfl) dX0_copy_16 ⟨Nat.zero_le _, Nat.zero_le _⟩ (fun r16 e16 => ?_)
    subst e16
    refine zz_bast hx hb hK hP hD hS 3 2 rfl rfl (j := j) (x := (((bz (off (lo + k) + j)).toInt8.toInt32))) (by omega) (by omega) dX0_copy_19 (fun H locs hP hD hS => ?_)
    have hP : va_P (dC, dI) vwCl [(aR, .inr (0, [.int (nI R), .ref aB, .ref aS, .ref aT, .int (nI (lo % R)), .int (nI (hi - lo)), .int (nI (off hi % R)), .int (nI us)])), (aB, .inl (cB, R, .inl Bf)), (aS, .inl (cS, R, .inl Sf)), (aO, .inl (cO, 512, .inl (upd Og j ((((bz (off (lo + k) + j)).toInt8.toInt32)).toInt8.toInt32))))] H := hP
    have hD : va_D A [(aR, .inr (0, [.int (nI R), .ref aB, .ref aS, .ref aT, .int (nI (lo % R)), .int (nI (hi - lo)), .int (nI (off hi % R)), .int (nI us)])), (aB, .inl (cB, R, .inl Bf)), (aS, .inl (cS, R, .inl Sf)), (aO, .inl (cO, 512, .inl (upd Og j ((((bz (off (lo + k) + j)).toInt8.toInt32)).toInt8.toInt32))))] := hD
    refine lv_iinc (v := nI (j + 1)) (lv' := [(4, .int (nI (j + 1))), (0, .ref aR), (1, .int (nI k)), (2, .int (nI sz)), (3, .ref aO)]) hx hb dX0_copy_20 hl (k := 0) rfl (show nI j + 1 = nI (j + 1) from nI_1 _) (by decide) rfl (fun ls hl => ?_)
    refine lv_goto (tgt := 3) hx hb dX0_copy_23 (by decide) ?_
    exact ih (j + 1, upd Og j ((((bz (off (lo + k) + j)).toInt8.toInt32)).toInt8.toInt32)) _ _ _ ⟨⟨by show n + (j + 1) = sz + 1; omega, by show j + 1 ≤ sz; omega, zz_updlt (g := fun t => (bz (off (lo + k) + t)).toInt8.toInt32) hO (zz_i8 _)⟩, hP, hD, hS, lv_sub hl [0, 1, 2, 3, 4] rfl⟩
theorem zz_addB1 {f g : Nat → Int32} {R a b j : Nat} {x : Int32} (h : ∀ q, a ≤ q → q < b → f (q % R) = g (q % R)) (h1 : b + j < a + R) (h2 : a ≤ b) : ∀ q, a ≤ q → q < b → upd f ((b + j) % R) x (q % R) = g (q % R) := by
  intro q h3 h4
  rw [pk_un (rg_ne (by omega) (by omega))]
  exact h q h3 h4
theorem zz_addB2 {f g : Nat → Int32} {R b j : Nat} {x : Int32} (h : ∀ t, t < j → f ((b + t) % R) = g t) (hx : x = g j) (h1 : j < R) : ∀ t, t < j + 1 → upd f ((b + j) % R) x ((b + t) % R) = g t := by
  intro t ht
  by_cases q : t = j
  · rw [q, pk_us, hx]
  · rw [pk_un (rg_ne (by omega) (by omega))]
    exact h t (by omega)
set_option maxHeartbeats 4000000 in
set_option maxRecDepth 100000 in
/-- Ring.add(source, size, time) -/
theorem c_R_add (l : Launch) (dC : Nat → ClassId) (dI : Nat → Nat → Nat) (aR aB aS aT R lo hi : Nat) (off : Nat → Nat) (cB cS cT cX : ClassId) (Bf Sf Tf : Nat → Int32) (aX : Nat) (Xf tz : Nat → Int32) (sz : Nat) (tim : Int32) (hok : rg_ok R lo hi off) (hs1 : 1 ≤ sz) (hs5 : sz ≤ 512) (hfit : off hi - off lo + sz ≤ R) (htx : ∀ t, t < sz → Xf t = (tz t).toInt8.toInt32) (hz : Nat) : Met l yX0_add wsX0_add ({ frames := 1, cells := 0, slots := 0, locals := 21 }) (va_Pc [.ref aR, .ref aX, .int (nI sz), .int tim] (fun U => U.heap.size = hz ∧ va_P (dC, dI) vwCl [(aR, .inr (0, [.int (nI R), .ref aB, .ref aS, .ref aT, .int (nI (lo % R)), .int (nI (hi - lo)), .int (nI (off hi % R)), .int (nI (off hi - off lo))])), (aB, .inl (cB, R, .inl Bf)), (aS, .inl (cS, R, .inl Sf)), (aT, .inl (cT, R, .inl Tf)), (aX, .inl (cX, 512, .inl Xf))] U.heap ∧ va_K (dC, dI) vwCl [(cB, .byte), (cS, .int), (cT, .int), (cX, .byte)] U ∧ va_D (fun _ => True) [(aR, .inr (0, [.int (nI R), .ref aB, .ref aS, .ref aT, .int (nI (lo % R)), .int (nI (hi - lo)), .int (nI (off hi % R)), .int (nI (off hi - off lo))])), (aB, .inl (cB, R, .inl Bf)), (aS, .inl (cS, R, .inl Sf)), (aT, .inl (cT, R, .inl Tf)), (aX, .inl (cX, 512, .inl Xf))])) (va_Qv (fun (u : Nat → Int32) => (∀ q, off lo ≤ q → q < off hi → u (q % R) = Bf (q % R)) ∧ ∀ t, t < sz → u ((off hi + t) % R) = (tz t).toInt8.toInt32) (fun u t => va_P (dC, dI) vwCl [(aR, .inr (0, [.int (nI R), .ref aB, .ref aS, .ref aT, .int (nI (lo % R)), .int (nI (hi + 1 - lo)), .int (nI ((off hi + sz) % R)), .int (nI (off hi + sz - off lo))])), (aB, .inl (cB, R, .inl u)), (aS, .inl (cS, R, .inl (upd Sf (hi % R) (nI (off hi % R))))), (aT, .inl (cT, R, .inl (upd Tf (hi % R) tim))), (aX, .inl (cX, 512, .inl Xf))] t.heap ∧ va_K (dC, dI) vwCl [(cB, .byte), (cS, .int), (cT, .int), (cX, .byte)] t ∧ va_D (va_A [(aR, .inr (0, [.int (nI R), .ref aB, .ref aS, .ref aT, .int (nI (lo % R)), .int (nI (hi - lo)), .int (nI (off hi % R)), .int (nI (off hi - off lo))])), (aB, .inl (cB, R, .inl Bf)), (aS, .inl (cS, R, .inl Sf)), (aT, .inl (cT, R, .inl Tf)), (aX, .inl (cX, 512, .inl Xf))] hz) [(aR, .inr (0, [.int (nI R), .ref aB, .ref aS, .ref aT, .int (nI (lo % R)), .int (nI (hi + 1 - lo)), .int (nI ((off hi + sz) % R)), .int (nI (off hi + sz - off lo))])), (aB, .inl (cB, R, .inl u)), (aS, .inl (cS, R, .inl (upd Sf (hi % R) (nI (off hi % R))))), (aT, .inl (cT, R, .inl (upd Tf (hi % R) tim))), (aX, .inl (cX, 512, .inl Xf))]) (va_A [(aR, .inr (0, [.int (nI R), .ref aB, .ref aS, .ref aT, .int (nI (lo % R)), .int (nI (hi - lo)), .int (nI (off hi % R)), .int (nI (off hi - off lo))])), (aB, .inl (cB, R, .inl Bf)), (aS, .inl (cS, R, .inl Sf)), (aT, .inl (cT, R, .inl Tf)), (aX, .inl (cX, 512, .inl Xf))] hz)) 0 0 (va_A [(aR, .inr (0, [.int (nI R), .ref aB, .ref aS, .ref aT, .int (nI (lo % R)), .int (nI (hi - lo)), .int (nI (off hi % R)), .int (nI (off hi - off lo))])), (aB, .inl (cB, R, .inl Bf)), (aS, .inl (cS, R, .inl Sf)), (aT, .inl (cT, R, .inl Tf)), (aX, .inl (cX, 512, .inl Xf))] hz) := by
  refine Met.ofW (cc := cX0_add) (maxL := 6) (ret := none) (by decide) rfl ?_
  intro p e s m args below meth c s₁ B hml hv
  obtain ⟨rfl, hsz, hP, hK, hD0⟩ := hv
  have hx := B.exec
  have hb := B.bytes
  have hr := B.returns
  have hts := atoms_spec (ws := wsX0_add) B.pre
  have hown : s.vm.findClass RX0 = some m.cls := findClass_of_methodNamed B.named
  have hlocks := B.notSynchronized
  have hi_R : ∀ w ∈ u_ws RX0 TX0 8, w ∈ wsX0_add := by decide +kernel
  subst hsz
  have hD := hD0.self (sz := s.heap.size)
  generalize hAe : va_A [(aR, .inr (0, [.int (nI R), .ref aB, .ref aS, .ref aT, .int (nI (lo % R)), .int (nI (hi - lo)), .int (nI (off hi % R)), .int (nI (off hi - off lo))])), (aB, .inl (cB, R, .inl Bf)), (aS, .inl (cS, R, .inl Sf)), (aT, .inl (cT, R, .inl Tf)), (aX, .inl (cX, 512, .inl Xf))] s.heap.size = A at hD ⊢
  have hA : ∀ q : Nat, s.heap.size ≤ q → A q := fun q h => by rw [← hAe]; exact Or.inr h
  have hS : va_S A s.heap s.heap [] := va_S.rf
  have hP : va_P (dC, dI) vwCl [(aR, .inr (0, [.int (nI R), .ref aB, .ref aS, .ref aT, .int (nI (lo % R)), .int (nI (hi - lo)), .int (nI (off hi % R)), .int (nI (off hi - off lo))])), (aB, .inl (cB, R, .inl Bf)), (aS, .inl (cS, R, .inl Sf)), (aT, .inl (cT, R, .inl Tf)), (aX, .inl (cX, 512, .inl Xf))] s.heap := hP
  have hl := lv_entry ([.ref aR, .ref aX, .int (nI sz), .int tim]) (n := 6) (Nat.le_of_ble_eq_true rfl)
  rw [lg_entry_eq]
  generalize (lg_sl ([.ref aR, .ref aX, .int (nI sz), .int tim]) ++ List.replicate (6 - (lg_sl ([.ref aR, .ref aX, .int (nI sz), .int tim])).length) Slot.unset).toArray = ls at hl ⊢
  have hl : lv_has ls 6 [(0, .ref aR), (1, .ref aX), (2, .int (nI sz)), (3, .int tim)] := hl
  have hRR := hok.1
  have hll := hok.2.1
  have hcap := hok.2.2.1
  have hgap := hok.gap (Nat.le_refl lo) hll (Nat.le_refl hi)
  refine lv_aload_n hx hb dX0_add_0 rfl (lv_at hl 0 rfl) ?_
  refine lv_aload_n hx hb dX0_add_1 rfl (lv_at hl 0 rfl) ?_
  refine va_get (D := (dC, dI)) (ci := 0) (v := .int (nI (lo % R))) (C := RX0) (T := TX0) (N := 8) hx hb hts hi_R hown hK hP 0 rfl rfl 4 (by decide) (hts (.fieldLink RX0 30 "PacketStore$Ring" "oldest" "I") (by decide +kernel)) (fun _ h9 => h9) rfl dX0_add_2 ?_
  refine lv_aload_n hx hb dX0_add_5 rfl (lv_at hl 0 rfl) ?_
  refine va_get (D := (dC, dI)) (ci := 0) (v := .int (nI (hi - lo))) (C := RX0) (T := TX0) (N := 8) hx hb hts hi_R hown hK hP 0 rfl rfl 5 (by decide) (hts (.fieldLink RX0 24 "PacketStore$Ring" "packets" "I") (by decide +kernel)) (fun _ h9 => h9) rfl dX0_add_6 ?_
  refine lv_iadd hx hb dX0_add_9 ?_
  refine zz_as (nI ((lo % R) + (hi - lo))) (nI_add _ _) ?_
  refine zz_callR (As := [.int (nI ((lo % R) + (hi - lo)))]) (rest := []) ⟨hx, hb, hml, hown, hts⟩ (c_R_wrapped l dC dI aR aB aS aT R (lo % R) (hi - lo) (off hi % R) (off hi - off lo) ((lo % R) + (hi - lo)) (by have := Nat.mod_lt lo (show 0 < R by omega); have := Nat.mod_lt (off hi) (show 0 < R by omega); omega) (by omega)) (cwV 1 hts gX0_add_X0_wrapped rfl rfl rfl (by decide +kernel) ⟨Nat.le_of_ble_eq_true rfl, Nat.le_of_ble_eq_true rfl⟩) (hP.sub [0] rfl) (hK.sub [] rfl) 0 rfl rfl rfl rfl hl.1 rfl (Nat.le_of_ble_eq_true rfl) dX0_add_10 ⟨Nat.zero_le _, Nat.zero_le _⟩ (fun r10 e10 => ?_)
  subst e10
  refine zz_as (nI (hi % R)) (by rw [Nat.mod_add_mod, show lo + (hi - lo) = hi by omega]) ?_
  refine lv_istore (lv' := [(4, .int (nI (hi % R))), (0, .ref aR), (1, .ref aX), (2, .int (nI sz)), (3, .int tim)]) hx hb dX0_add_13 hl (by decide) rfl (fun ls hl => ?_)
  refine lv_aload_n hx hb dX0_add_15 rfl (lv_at hl 1 rfl) ?_
  refine va_get (D := (dC, dI)) (ci := 0) (v := .ref aS) (C := RX0) (T := TX0) (N := 8) hx hb hts hi_R hown hK hP 0 rfl rfl 2 (by decide) (hts (.fieldLink RX0 17 "PacketStore$Ring" "starts" "[I") (by decide +kernel)) (fun _ h9 => h9) rfl dX0_add_16 ?_
  refine lv_iload hx hb dX0_add_19 (lv_at hl 0 rfl) ?_
  refine lv_aload_n hx hb dX0_add_21 rfl (lv_at hl 1 rfl) ?_
  refine va_get (D := (dC, dI)) (ci := 0) (v := .int (nI (off hi % R))) (C := RX0) (T := TX0) (N := 8) hx hb hts hi_R hown hK hP 0 rfl rfl 6 (by decide) (hts (.fieldLink RX0 40 "PacketStore$Ring" "end" "I") (by decide +kernel)) (fun _ h9 => h9) rfl dX0_add_22 ?_
  refine zz_iast hx hb hK hP hD hS 2 1 rfl rfl (j := hi % R) (x := ((nI (off hi % R)))) (Nat.mod_lt _ (by omega)) (by omega) dX0_add_25 (fun H locs hP hD hS => ?_)
  have hP : va_P (dC, dI) vwCl [(aR, .inr (0, [.int (nI R), .ref aB, .ref aS, .ref aT, .int (nI (lo % R)), .int (nI (hi - lo)), .int (nI (off hi % R)), .int (nI (off hi - off lo))])), (aB, .inl (cB, R, .inl Bf)), (aS, .inl (cS, R, .inl (upd Sf (hi % R) ((nI (off hi % R)))))), (aT, .inl (cT, R, .inl Tf)), (aX, .inl (cX, 512, .inl Xf))] H := hP
  have hD : va_D A [(aR, .inr (0, [.int (nI R), .ref aB, .ref aS, .ref aT, .int (nI (lo % R)), .int (nI (hi - lo)), .int (nI (off hi % R)), .int (nI (off hi - off lo))])), (aB, .inl (cB, R, .inl Bf)), (aS, .inl (cS, R, .inl (upd Sf (hi % R) ((nI (off hi % R)))))), (aT, .inl (cT, R, .inl Tf)), (aX, .inl (cX, 512, .inl Xf))] := hD
  refine lv_aload_n hx hb dX0_add_26 rfl (lv_at hl 1 rfl) ?_
  refine va_get (D := (dC, dI)) (ci := 0) (v := .ref aT) (C := RX0) (T := TX0) (N := 8) hx hb hts hi_R hown hK hP 0 rfl rfl 3 (by decide) (hts (.fieldLink RX0 21 "PacketStore$Ring" "times" "[I") (by decide +kernel)) (fun _ h9 => h9) rfl dX0_add_27 ?_
  refine lv_iload hx hb dX0_add_30 (lv_at hl 0 rfl) ?_
  refine lv_iload_n hx hb dX0_add_32 rfl (lv_at hl 4 rfl) ?_
  refine zz_iast hx hb hK hP hD hS 3 2 rfl rfl (j := hi % R) (x := tim) (Nat.mod_lt _ (by omega)) (by omega) dX0_add_33 (fun H locs hP hD hS => ?_)
  have hP : va_P (dC, dI) vwCl [(aR, .inr (0, [.int (nI R), .ref aB, .ref aS, .ref aT, .int (nI (lo % R)), .int (nI (hi - lo)), .int (nI (off hi % R)), .int (nI (off hi - off lo))])), (aB, .inl (cB, R, .inl Bf)), (aS, .inl (cS, R, .inl (upd Sf (hi % R) ((nI (off hi % R)))))), (aT, .inl (cT, R, .inl (upd Tf (hi % R) tim))), (aX, .inl (cX, 512, .inl Xf))] H := hP
  have hD : va_D A [(aR, .inr (0, [.int (nI R), .ref aB, .ref aS, .ref aT, .int (nI (lo % R)), .int (nI (hi - lo)), .int (nI (off hi % R)), .int (nI (off hi - off lo))])), (aB, .inl (cB, R, .inl Bf)), (aS, .inl (cS, R, .inl (upd Sf (hi % R) ((nI (off hi % R)))))), (aT, .inl (cT, R, .inl (upd Tf (hi % R) tim))), (aX, .inl (cX, 512, .inl Xf))] := hD
  refine lv_iconst (v := nI 0) hx hb dX0_add_34 (by decide) ?_
  refine lv_istore (lv' := [(5, .int (nI 0)), (4, .int (nI (hi % R))), (0, .ref aR), (1, .ref aX), (2, .int (nI sz)), (3, .int tim)]) hx hb dX0_add_35 hl (by decide) rfl (fun ls hl => ?_)
  refine zz_loop (σ := Nat × (Nat → Int32)) (fun n v H locs ls => (n + v.1 = sz + 1 ∧ v.1 ≤ sz ∧ (∀ q, off lo ≤ q → q < off hi → v.2 (q % R) = Bf (q % R)) ∧ ∀ t, t < v.1 → v.2 ((off hi + t) % R) = (tz t).toInt8.toInt32) ∧ va_P (dC, dI) vwCl [(aR, .inr (0, [.int (nI R), .ref aB, .ref aS, .ref aT, .int (nI (lo % R)), .int (nI (hi - lo)), .int (nI (off hi % R)), .int (nI (off hi - off lo))])), (aB, .inl (cB, R, .inl v.2)), (aS, .inl (cS, R, .inl (upd Sf (hi % R) (nI (off hi % R))))), (aT, .inl (cT, R, .inl (upd Tf (hi % R) tim))), (aX, .inl (cX, 512, .inl Xf))] H ∧ va_D A [(aR, .inr (0, [.int (nI R), .ref aB, .ref aS, .ref aT, .int (nI (lo % R)), .int (nI (hi - lo)), .int (nI (off hi % R)), .int (nI (off hi - off lo))])), (aB, .inl (cB, R, .inl v.2)), (aS, .inl (cS, R, .inl (upd Sf (hi % R) (nI (off hi % R))))), (aT, .inl (cT, R, .inl (upd Tf (hi % R) tim))), (aX, .inl (cX, 512, .inl Xf))] ∧ va_S A s.heap H locs ∧ lv_has ls 6 [(5, .int (nI v.1)), (0, .ref aR), (1, .ref aX), (2, .int (nI sz)), (3, .int tim)]) (fun v H locs ls h => ?_) (fun n v H locs ls h ih => ?_) (sz + 1) (0, Bf) _ _ _ ⟨⟨rfl, Nat.zero_le _, fun q _ _ => rfl, fun t h => absurd h (Nat.not_lt_zero t)⟩, hP, hD, hS, lv_sub hl [0, 2, 3, 4, 5] rfl⟩
  · obtain ⟨⟨h1, h2, -⟩, -⟩ := h
    omega
  obtain ⟨j, Bg⟩ := v
  obtain ⟨⟨hj1, hj2, hB1, hB2⟩, hP, hD, hS, hl⟩ := h
  dsimp only at hj1 hj2 hB1 hB2
  have hP : va_P (dC, dI) vwCl [(aR, .inr (0, [.int (nI R), .ref aB, .ref aS, .ref aT, .int (nI (lo % R)), .int (nI (hi - lo)), .int (nI (off hi % R)), .int (nI (off hi - off lo))])), (aB, .inl (cB, R, .inl Bg)), (aS, .inl (cS, R, .inl (upd Sf (hi % R) (nI (off hi % R))))), (aT, .inl (cT, R, .inl (upd Tf (hi % R) tim))), (aX, .inl (cX, 512, .inl Xf))] H := hP
  have hD : va_D A [(aR, .inr (0, [.int (nI R), .ref aB, .ref aS, .ref aT, .int (nI (lo % R)), .int (nI (hi - lo)), .int (nI (off hi % R)), .int (nI (off hi - off lo))])), (aB, .inl (cB, R, .inl Bg)), (aS, .inl (cS, R, .inl (upd Sf (hi % R) (nI (off hi % R))))), (aT, .inl (cT, R, .inl (upd Tf (hi % R) tim))), (aX, .inl (cX, 512, .inl Xf))] := hD
  have hl : lv_has ls 6 [(5, .int (nI j)), (0, .ref aR), (1, .ref aX), (2, .int (nI sz)), (3, .int tim)] := hl
  refine lv_iload hx hb dX0_add_37 (lv_at hl 0 rfl) ?_
  refine lv_iload_n hx hb dX0_add_39 rfl (lv_at hl 3 rfl) ?_
  refine zz_icmp_ge (a := j) (b := sz) (tgt := 69) hx hb dX0_add_40 (by decide) (by omega) (by omega) (fun c40 => ?_) (fun c40 => ?_)
  · refine lv_aload_n hx hb dX0_add_69 rfl (lv_at hl 1 rfl) ?_
    refine lv_aload_n hx hb dX0_add_70 rfl (lv_at hl 1 rfl) ?_
    refine lv_aload_n hx hb dX0_add_71 rfl (lv_at hl 1 rfl) ?_
    refine va_get (D := (dC, dI)) (ci := 0) (v := .int (nI (off hi % R))) (C := RX0) (T := TX0) (N := 8) hx hb hts hi_R hown hK hP 0 rfl rfl 6 (by decide) (hts (.fieldLink RX0 40 "PacketStore$Ring" "end" "I") (by decide +kernel)) (fun _ h9 => h9) rfl dX0_add_72 ?_
    refine lv_iload_n hx hb dX0_add_75 rfl (lv_at hl 3 rfl) ?_
    refine lv_iadd hx hb dX0_add_76 ?_
    refine zz_as (nI ((off hi % R) + sz)) (nI_add _ _) ?_
    refine zz_callR (As := [.int (nI ((off hi % R) + sz))]) (rest := [.ref aR]) ⟨hx, hb, hml, hown, hts⟩ (c_R_wrapped l dC dI aR aB aS aT R (lo % R) (hi - lo) (off hi % R) (off hi - off lo) ((off hi % R) + sz) (by have := Nat.mod_lt lo (show 0 < R by omega); have := Nat.mod_lt (off hi) (show 0 < R by omega); omega) (by omega)) (cwV 1 hts gX0_add_X0_wrapped rfl rfl rfl (by decide +kernel) ⟨Nat.le_of_ble_eq_true rfl, Nat.le_of_ble_eq_true rfl⟩) (hP.sub [0] rfl) (hK.sub [] rfl) 0 rfl rfl rfl rfl hl.1 rfl (Nat.le_of_ble_eq_true rfl) dX0_add_77 ⟨Nat.zero_le _, Nat.zero_le _⟩ (fun r77 e77 => ?_)
    subst e77
    refine zz_as (nI ((off hi + sz) % R)) (by rw [Nat.mod_add_mod]) ?_
    refine va_put (D := (dC, dI)) (ci := 0) (v := .int (nI ((off hi + sz) % R))) (ty := .int) (C := RX0) (T := TX0) (N := 8) hx hb hts hi_R tyX0 tyX0_ok nmX0 hown hK hP hD hS 0 rfl rfl 6 (by decide) (hts (.fieldLink RX0 40 "PacketStore$Ring" "end" "I") (by decide +kernel)) (fun _ h9 => h9) rfl (by decide +kernel) rfl rfl (Nat.le_of_ble_eq_true rfl) dX0_add_80 (fun H locs hP hD hS => ?_)
    have hP : va_P (dC, dI) vwCl [(aR, .inr (0, [.int (nI R), .ref aB, .ref aS, .ref aT, .int (nI (lo % R)), .int (nI (hi - lo)), .int (nI ((off hi + sz) % R)), .int (nI (off hi - off lo))])), (aB, .inl (cB, R, .inl Bg)), (aS, .inl (cS, R, .inl (upd Sf (hi % R) (nI (off hi % R))))), (aT, .inl (cT, R, .inl (upd Tf (hi % R) tim))), (aX, .inl (cX, 512, .inl Xf))] H := hP
    have hD : va_D A [(aR, .inr (0, [.int (nI R), .ref aB, .ref aS, .ref aT, .int (nI (lo % R)), .int (nI (hi - lo)), .int (nI ((off hi + sz) % R)), .int (nI (off hi - off lo))])), (aB, .inl (cB, R, .inl Bg)), (aS, .inl (cS, R, .inl (upd Sf (hi % R) (nI (off hi % R))))), (aT, .inl (cT, R, .inl (upd Tf (hi % R) tim))), (aX, .inl (cX, 512, .inl Xf))] := hD
    refine lv_aload_n hx hb dX0_add_83 rfl (lv_at hl 1 rfl) ?_
    refine lv_dup hx hb dX0_add_84 rfl ?_
    refine va_get (D := (dC, dI)) (ci := 0) (v := .int (nI (hi - lo))) (C := RX0) (T := TX0) (N := 8) hx hb hts hi_R hown hK hP 0 rfl rfl 5 (by decide) (hts (.fieldLink RX0 24 "PacketStore$Ring" "packets" "I") (by decide +kernel)) (fun _ h9 => h9) rfl dX0_add_85 ?_
    refine lv_iconst (v := nI 1) hx hb dX0_add_88 (by decide) ?_
    refine lv_iadd hx hb dX0_add_89 ?_
    refine zz_as (nI ((hi - lo) + 1)) (nI_add _ _) ?_
    refine zz_as (nI (hi + 1 - lo)) (congrArg nI (by omega)) ?_
    refine va_put (D := (dC, dI)) (ci := 0) (v := .int (nI (hi + 1 - lo))) (ty := .int) (C := RX0) (T := TX0) (N := 8) hx hb hts hi_R tyX0 tyX0_ok nmX0 hown hK hP hD hS 0 rfl rfl 5 (by decide) (hts (.fieldLink RX0 24 "PacketStore$Ring" "packets" "I") (by decide +kernel)) (fun _ h9 => h9) rfl (by decide +kernel) rfl rfl (Nat.le_of_ble_eq_true rfl) dX0_add_90 (fun H locs hP hD hS => ?_)
    have hP : va_P (dC, dI) vwCl [(aR, .inr (0, [.int (nI R), .ref aB, .ref aS, .ref aT, .int (nI (lo % R)), .int (nI (hi + 1 - lo)), .int (nI ((off hi + sz) % R)), .int (nI (off hi - off lo))])), (aB, .inl (cB, R, .inl Bg)), (aS, .inl (cS, R, .inl (upd Sf (hi % R) (nI (off hi % R))))), (aT, .inl (cT, R, .inl (upd Tf (hi % R) tim))), (aX, .inl (cX, 512, .inl Xf))] H := hP
    have hD : va_D A [(aR, .inr (0, [.int (nI R), .ref aB, .ref aS, .ref aT, .int (nI (lo % R)), .int (nI (hi + 1 - lo)), .int (nI ((off hi + sz) % R)), .int (nI (off hi - off lo))])), (aB, .inl (cB, R, .inl Bg)), (aS, .inl (cS, R, .inl (upd Sf (hi % R) (nI (off hi % R))))), (aT, .inl (cT, R, .inl (upd Tf (hi % R) tim))), (aX, .inl (cX, 512, .inl Xf))] := hD
    refine lv_aload_n hx hb dX0_add_93 rfl (lv_at hl 1 rfl) ?_
    refine lv_dup hx hb dX0_add_94 rfl ?_
    refine va_get (D := (dC, dI)) (ci := 0) (v := .int (nI (off hi - off lo))) (C := RX0) (T := TX0) (N := 8) hx hb hts hi_R hown hK hP 0 rfl rfl 7 (by decide) (hts (.fieldLink RX0 27 "PacketStore$Ring" "used" "I") (by decide +kernel)) (fun _ h9 => h9) rfl dX0_add_95 ?_
    refine lv_iload_n hx hb dX0_add_98 rfl (lv_at hl 3 rfl) ?_
    refine lv_iadd hx hb dX0_add_99 ?_
    refine zz_as (nI ((off hi - off lo) + sz)) (nI_add _ _) ?_
    refine zz_as (nI (off hi + sz - off lo)) (congrArg nI (by omega)) ?_
    refine va_put (D := (dC, dI)) (ci := 0) (v := .int (nI (off hi + sz - off lo))) (ty := .int) (C := RX0) (T := TX0) (N := 8) hx hb hts hi_R tyX0 tyX0_ok nmX0 hown hK hP hD hS 0 rfl rfl 7 (by decide) (hts (.fieldLink RX0 27 "PacketStore$Ring" "used" "I") (by decide +kernel)) (fun _ h9 => h9) rfl (by decide +kernel) rfl rfl (Nat.le_of_ble_eq_true rfl) dX0_add_100 (fun H locs hP hD hS => ?_)
    have hP : va_P (dC, dI) vwCl [(aR, .inr (0, [.int (nI R), .ref aB, .ref aS, .ref aT, .int (nI (lo % R)), .int (nI (hi + 1 - lo)), .int (nI ((off hi + sz) % R)), .int (nI (off hi + sz - off lo))])), (aB, .inl (cB, R, .inl Bg)), (aS, .inl (cS, R, .inl (upd Sf (hi % R) (nI (off hi % R))))), (aT, .inl (cT, R, .inl (upd Tf (hi % R) tim))), (aX, .inl (cX, 512, .inl Xf))] H := hP
    have hD : va_D A [(aR, .inr (0, [.int (nI R), .ref aB, .ref aS, .ref aT, .int (nI (lo % R)), .int (nI (hi + 1 - lo)), .int (nI ((off hi + sz) % R)), .int (nI (off hi + sz - off lo))])), (aB, .inl (cB, R, .inl Bg)), (aS, .inl (cS, R, .inl (upd Sf (hi % R) (nI (off hi % R))))), (aT, .inl (cT, R, .inl (upd Tf (hi % R) tim))), (aX, .inl (cX, 512, .inl Xf))] := hD
    exact W.vret hx hb hr (fun t ht hW => ⟨⟨Bg, rfl, ⟨hB1, fun t h => hB2 t (by omega)⟩, by rw [ht]; exact hP, va_K.moved hW.alike hK, hD⟩, hS.F ht⟩) hS.2.2 dX0_add_103
  · refine lv_aload_n hx hb dX0_add_43 rfl (lv_at hl 1 rfl) ?_
    refine va_get (D := (dC, dI)) (ci := 0) (v := .ref aB) (C := RX0) (T := TX0) (N := 8) hx hb hts hi_R hown hK hP 0 rfl rfl 1 (by decide) (hts (.fieldLink RX0 13 "PacketStore$Ring" "bytes" "[B") (by decide +kernel)) (fun _ h9 => h9) rfl dX0_add_44 ?_
    refine lv_aload_n hx hb dX0_add_47 rfl (lv_at hl 1 rfl) ?_
    refine lv_aload_n hx hb dX0_add_48 rfl (lv_at hl 1 rfl) ?_
    refine va_get (D := (dC, dI)) (ci := 0) (v := .int (nI (off hi % R))) (C := RX0) (T := TX0) (N := 8) hx hb hts hi_R hown hK hP 0 rfl rfl 6 (by decide) (hts (.fieldLink RX0 40 "PacketStore$Ring" "end" "I") (by decide +kernel)) (fun _ h9 => h9) rfl dX0_add_49 ?_
    refine lv_iload hx hb dX0_add_52 (lv_at hl 0 rfl) ?_
    refine lv_iadd hx hb dX0_add_54 ?_
    refine zz_as (nI ((off hi % R) + j)) (nI_add _ _) ?_
    refine zz_callR (As := [.int (nI ((off hi % R) + j))]) (rest := [.ref aB]) ⟨hx, hb, hml, hown, hts⟩ (c_R_wrapped l dC dI aR aB aS aT R (lo % R) (hi - lo) (off hi % R) (off hi - off lo) ((off hi % R) + j) (by have := Nat.mod_lt lo (show 0 < R by omega); have := Nat.mod_lt (off hi) (show 0 < R by omega); omega) (by omega)) (cwV 1 hts gX0_add_X0_wrapped rfl rfl rfl (by decide +kernel) ⟨Nat.le_of_ble_eq_true rfl, Nat.le_of_ble_eq_true rfl⟩) (hP.sub [0] rfl) (hK.sub [] rfl) 0 rfl rfl rfl rfl hl.1 rfl (Nat.le_of_ble_eq_true rfl) dX0_add_55 ⟨Nat.zero_le _, Nat.zero_le _⟩ (fun r55 e55 => ?_)
    subst e55
    refine zz_as (nI ((off hi + j) % R)) (by rw [Nat.mod_add_mod]) ?_
    refine lv_aload_n hx hb dX0_add_58 rfl (lv_at hl 2 rfl) ?_
    refine lv_iload hx hb dX0_add_59 (lv_at hl 0 rfl) ?_
    refine zz_bald hx hb hK hP 4 3 rfl rfl (j := j) (by omega) (by omega) dX0_add_61 ?_
    refine zz_bast hx hb hK hP hD hS 1 0 rfl rfl (j := (off hi + j) % R) (x := ((Xf j))) (Nat.mod_lt _ (by omega)) (by omega) dX0_add_62 (fun H locs hP hD hS => ?_)
    have hP : va_P (dC, dI) vwCl [(aR, .inr (0, [.int (nI R), .ref aB, .ref aS, .ref aT, .int (nI (lo % R)), .int (nI (hi - lo)), .int (nI (off hi % R)), .int (nI (off hi - off lo))])), (aB, .inl (cB, R, .inl (upd Bg ((off hi + j) % R) (((Xf j)).toInt8.toInt32)))), (aS, .inl (cS, R, .inl (upd Sf (hi % R) (nI (off hi % R))))), (aT, .inl (cT, R, .inl (upd Tf (hi % R) tim))), (aX, .inl (cX, 512, .inl Xf))] H := hP
    have hD : va_D A [(aR, .inr (0, [.int (nI R), .ref aB, .ref aS, .ref aT, .int (nI (lo % R)), .int (nI (hi - lo)), .int (nI (off hi % R)), .int (nI (off hi - off lo))])), (aB, .inl (cB, R, .inl (upd Bg ((off hi + j) % R) (((Xf j)).toInt8.toInt32)))), (aS, .inl (cS, R, .inl (upd Sf (hi % R) (nI (off hi % R))))), (aT, .inl (cT, R, .inl (upd Tf (hi % R) tim))), (aX, .inl (cX, 512, .inl Xf))] := hD
    refine lv_iinc (v := nI (j + 1)) (lv' := [(5, .int (nI (j + 1))), (0, .ref aR), (1, .ref aX), (2, .int (nI sz)), (3, .int tim)]) hx hb dX0_add_63 hl (k := 0) rfl (show nI j + 1 = nI (j + 1) from nI_1 _) (by decide) rfl (fun ls hl => ?_)
    refine lv_goto (tgt := 37) hx hb dX0_add_66 (by decide) ?_
    exact ih (j + 1, upd Bg ((off hi + j) % R) (((Xf j)).toInt8.toInt32)) _ _ _ ⟨⟨by show n + (j + 1) = sz + 1; omega, by show j + 1 ≤ sz; omega, zz_addB1 hB1 (by omega) (by omega), zz_addB2 (g := fun t => (tz t).toInt8.toInt32) hB2 (by rw [htx j (by omega), zz_i8]) (by omega)⟩, hP, hD, hS, lv_sub hl [0, 1, 2, 3, 4] rfl⟩
set_option maxHeartbeats 4000000 in
set_option maxRecDepth 100000 in
/-- Ring.dropOldest() -/
theorem c_R_dropOldest (l : Launch) (dC : Nat → ClassId) (dI : Nat → Nat → Nat) (aR aB aS aT R lo hi : Nat) (off : Nat → Nat) (cS : ClassId) (Sf : Nat → Int32) (hok : rg_ok R lo hi off) (hst : ∀ i, lo ≤ i → i < hi → Sf (i % R) = nI (off i % R)) (hlt : lo < hi) (hz : Nat) : Met l yX0_dropOldest wsX0_dropOldest ({ frames := 3, cells := 0, slots := 0, locals := 65 }) (va_Pc [.ref aR] (fun U => U.heap.size = hz ∧ va_P (dC, dI) vwCl [(aR, .inr (0, [.int (nI R), .ref aB, .ref aS, .ref aT, .int (nI (lo % R)), .int (nI (hi - lo)), .int (nI (off hi % R)), .int (nI (off hi - off lo))])), (aS, .inl (cS, R, .inl Sf))] U.heap ∧ va_K (dC, dI) vwCl [(cS, .int)] U ∧ va_D (fun _ => True) [(aR, .inr (0, [.int (nI R), .ref aB, .ref aS, .ref aT, .int (nI (lo % R)), .int (nI (hi - lo)), .int (nI (off hi % R)), .int (nI (off hi - off lo))])), (aS, .inl (cS, R, .inl Sf))])) (va_Qv (fun (u : Unit) => True) (fun u t => va_P (dC, dI) vwCl [(aR, .inr (0, [.int (nI R), .ref aB, .ref aS, .ref aT, .int (nI ((lo + 1) % R)), .int (nI (hi - (lo + 1))), .int (nI (off hi % R)), .int (nI (off hi - off (lo + 1)))])), (aS, .inl (cS, R, .inl Sf))] t.heap ∧ va_K (dC, dI) vwCl [(cS, .int)] t ∧ va_D (va_A [(aR, .inr (0, [.int (nI R), .ref aB, .ref aS, .ref aT, .int (nI (lo % R)), .int (nI (hi - lo)), .int (nI (off hi % R)), .int (nI (off hi - off lo))])), (aS, .inl (cS, R, .inl Sf))] hz) [(aR, .inr (0, [.int (nI R), .ref aB, .ref aS, .ref aT, .int (nI ((lo + 1) % R)), .int (nI (hi - (lo + 1))), .int (nI (off hi % R)), .int (nI (off hi - off (lo + 1)))])), (aS, .inl (cS, R, .inl Sf))]) (va_A [(aR, .inr (0, [.int (nI R), .ref aB, .ref aS, .ref aT, .int (nI (lo % R)), .int (nI (hi - lo)), .int (nI (off hi % R)), .int (nI (off hi - off lo))])), (aS, .inl (cS, R, .inl Sf))] hz)) 0 0 (va_A [(aR, .inr (0, [.int (nI R), .ref aB, .ref aS, .ref aT, .int (nI (lo % R)), .int (nI (hi - lo)), .int (nI (off hi % R)), .int (nI (off hi - off lo))])), (aS, .inl (cS, R, .inl Sf))] hz) := by
  refine Met.ofW (cc := cX0_dropOldest) (maxL := 1) (ret := none) (by decide) rfl ?_
  intro p e s m args below meth c s₁ B hml hv
  obtain ⟨rfl, hsz, hP, hK, hD0⟩ := hv
  have hx := B.exec
  have hb := B.bytes
  have hr := B.returns
  have hts := atoms_spec (ws := wsX0_dropOldest) B.pre
  have hown : s.vm.findClass RX0 = some m.cls := findClass_of_methodNamed B.named
  have hlocks := B.notSynchronized
  have hi_R : ∀ w ∈ u_ws RX0 TX0 8, w ∈ wsX0_dropOldest := by decide +kernel
  subst hsz
  have hD := hD0.self (sz := s.heap.size)
  generalize hAe : va_A [(aR, .inr (0, [.int (nI R), .ref aB, .ref aS, .ref aT, .int (nI (lo % R)), .int (nI (hi - lo)), .int (nI (off hi % R)), .int (nI (off hi - off lo))])), (aS, .inl (cS, R, .inl Sf))] s.heap.size = A at hD ⊢
  have hA : ∀ q : Nat, s.heap.size ≤ q → A q := fun q h => by rw [← hAe]; exact Or.inr h
  have hS : va_S A s.heap s.heap [] := va_S.rf
  have hP : va_P (dC, dI) vwCl [(aR, .inr (0, [.int (nI R), .ref aB, .ref aS, .ref aT, .int (nI (lo % R)), .int (nI (hi - lo)), .int (nI (off hi % R)), .int (nI (off hi - off lo))])), (aS, .inl (cS, R, .inl Sf))] s.heap := hP
  have hl := lv_entry ([.ref aR]) (n := 1) (Nat.le_of_ble_eq_true rfl)
  rw [lg_entry_eq]
  generalize (lg_sl ([.ref aR]) ++ List.replicate (1 - (lg_sl ([.ref aR])).length) Slot.unset).toArray = ls at hl ⊢
  have hl : lv_has ls 1 [(0, .ref aR)] := hl
  have hRR := hok.1
  have hll := hok.2.1
  have hcap := hok.2.2.1
  have hgap := hok.gap (Nat.le_refl lo) hll (Nat.le_refl hi)
  have hk1 : off lo < off (lo + 1) := hok.2.2.2 lo (Nat.le_refl lo) hlt
  have hk3 : off (lo + 1) + (hi - (lo + 1)) ≤ off hi := hok.gap (by omega) (by omega) (Nat.le_refl hi)
  refine lv_aload_n hx hb dX0_dropOldest_0 rfl (lv_at hl 0 rfl) ?_
  refine lv_dup hx hb dX0_dropOldest_1 rfl ?_
  refine va_get (D := (dC, dI)) (ci := 0) (v := .int (nI (off hi - off lo))) (C := RX0) (T := TX0) (N := 8) hx hb hts hi_R hown hK hP 0 rfl rfl 7 (by decide) (hts (.fieldLink RX0 27 "PacketStore$Ring" "used" "I") (by decide +kernel)) (fun _ h9 => h9) rfl dX0_dropOldest_2 ?_
  refine lv_aload_n hx hb dX0_dropOldest_5 rfl (lv_at hl 0 rfl) ?_
  refine lv_iconst (v := nI 0) hx hb dX0_dropOldest_6 (by decide) ?_
  refine zz_callR (As := [.int (nI 0)]) (rest := [.int (nI (off hi - off lo)), .ref aR]) ⟨hx, hb, hml, hown, hts⟩ (c_R_sizeOf l dC dI aR aB aS aT R lo hi off (off hi - off lo) cS Sf 0 hok hst (by omega)) (cwV 1 hts gX0_dropOldest_X0_sizeOf rfl rfl rfl (by decide +kernel) ⟨Nat.le_of_ble_eq_true rfl, Nat.le_of_ble_eq_true rfl⟩) (hP.sub [0, 1] rfl) (hK.sub [0] rfl) 0 rfl rfl rfl rfl hl.1 rfl (Nat.le_of_ble_eq_true rfl) dX0_dropOldest_7 ⟨Nat.zero_le _, Nat.zero_le _⟩ (fun r7 e7 => ?_)
  subst e7
  refine zz_as (nI (off (lo + 1) - off lo)) rfl ?_
  refine lv_isub hx hb dX0_dropOldest_10 ?_
  refine zz_as (nI ((off hi - off lo) - (off (lo + 1) - off lo))) (pk_sub (by omega)) ?_
  refine zz_as (nI (off hi - off (lo + 1))) (congrArg nI (by omega)) ?_
  refine va_put (D := (dC, dI)) (ci := 0) (v := .int (nI (off hi - off (lo + 1)))) (ty := .int) (C := RX0) (T := TX0) (N := 8) hx hb hts hi_R tyX0 tyX0_ok nmX0 hown hK hP hD hS 0 rfl rfl 7 (by decide) (hts (.fieldLink RX0 27 "PacketStore$Ring" "used" "I") (by decide +kernel)) (fun _ h9 => h9) rfl (by decide +kernel) rfl rfl (Nat.le_of_ble_eq_true rfl) dX0_dropOldest_11 (fun H locs hP hD hS => ?_)
  have hP : va_P (dC, dI) vwCl [(aR, .inr (0, [.int (nI R), .ref aB, .ref aS, .ref aT, .int (nI (lo % R)), .int (nI (hi - lo)), .int (nI (off hi % R)), .int (nI (off hi - off (lo + 1)))])), (aS, .inl (cS, R, .inl Sf))] H := hP
  have hD : va_D A [(aR, .inr (0, [.int (nI R), .ref aB, .ref aS, .ref aT, .int (nI (lo % R)), .int (nI (hi - lo)), .int (nI (off hi % R)), .int (nI (off hi - off (lo + 1)))])), (aS, .inl (cS, R, .inl Sf))] := hD
  refine lv_aload_n hx hb dX0_dropOldest_14 rfl (lv_at hl 0 rfl) ?_
  refine lv_aload_n hx hb dX0_dropOldest_15 rfl (lv_at hl 0 rfl) ?_
  refine lv_aload_n hx hb dX0_dropOldest_16 rfl (lv_at hl 0 rfl) ?_
  refine va_get (D := (dC, dI)) (ci := 0) (v := .int (nI (lo % R))) (C := RX0) (T := TX0) (N := 8) hx hb hts hi_R hown hK hP 0 rfl rfl 4 (by decide) (hts (.fieldLink RX0 30 "PacketStore$Ring" "oldest" "I") (by decide +kernel)) (fun _ h9 => h9) rfl dX0_dropOldest_17 ?_
  refine lv_iconst (v := nI 1) hx hb dX0_dropOldest_20 (by decide) ?_
  refine lv_iadd hx hb dX0_dropOldest_21 ?_
  refine zz_as (nI ((lo % R) + 1)) (nI_add _ _) ?_
  refine zz_callR (As := [.int (nI ((lo % R) + 1))]) (rest := [.ref aR]) ⟨hx, hb, hml, hown, hts⟩ (c_R_wrapped l dC dI aR aB aS aT R (lo % R) (hi - lo) (off hi % R) (off hi - off (lo + 1)) ((lo % R) + 1) (by have := Nat.mod_lt lo (show 0 < R by omega); omega) (by omega)) (cwV 1 hts gX0_dropOldest_X0_wrapped rfl rfl rfl (by decide +kernel) ⟨Nat.le_of_ble_eq_true rfl, Nat.le_of_ble_eq_true rfl⟩) (hP.sub [0] rfl) (hK.sub [] rfl) 0 rfl rfl rfl rfl hl.1 rfl (Nat.le_of_ble_eq_true rfl) dX0_dropOldest_22 ⟨Nat.zero_le _, Nat.zero_le _⟩ (fun r22 e22 => ?_)
  subst e22
  refine zz_as (nI ((lo + 1) % R)) (by rw [Nat.mod_add_mod]) ?_
  refine va_put (D := (dC, dI)) (ci := 0) (v := .int (nI ((lo + 1) % R))) (ty := .int) (C := RX0) (T := TX0) (N := 8) hx hb hts hi_R tyX0 tyX0_ok nmX0 hown hK hP hD hS 0 rfl rfl 4 (by decide) (hts (.fieldLink RX0 30 "PacketStore$Ring" "oldest" "I") (by decide +kernel)) (fun _ h9 => h9) rfl (by decide +kernel) rfl rfl (Nat.le_of_ble_eq_true rfl) dX0_dropOldest_25 (fun H locs hP hD hS => ?_)
  have hP : va_P (dC, dI) vwCl [(aR, .inr (0, [.int (nI R), .ref aB, .ref aS, .ref aT, .int (nI ((lo + 1) % R)), .int (nI (hi - lo)), .int (nI (off hi % R)), .int (nI (off hi - off (lo + 1)))])), (aS, .inl (cS, R, .inl Sf))] H := hP
  have hD : va_D A [(aR, .inr (0, [.int (nI R), .ref aB, .ref aS, .ref aT, .int (nI ((lo + 1) % R)), .int (nI (hi - lo)), .int (nI (off hi % R)), .int (nI (off hi - off (lo + 1)))])), (aS, .inl (cS, R, .inl Sf))] := hD
  refine lv_aload_n hx hb dX0_dropOldest_28 rfl (lv_at hl 0 rfl) ?_
  refine lv_dup hx hb dX0_dropOldest_29 rfl ?_
  refine va_get (D := (dC, dI)) (ci := 0) (v := .int (nI (hi - lo))) (C := RX0) (T := TX0) (N := 8) hx hb hts hi_R hown hK hP 0 rfl rfl 5 (by decide) (hts (.fieldLink RX0 24 "PacketStore$Ring" "packets" "I") (by decide +kernel)) (fun _ h9 => h9) rfl dX0_dropOldest_30 ?_
  refine lv_iconst (v := nI 1) hx hb dX0_dropOldest_33 (by decide) ?_
  refine lv_isub hx hb dX0_dropOldest_34 ?_
  refine zz_as (nI ((hi - lo) - 1)) (pk_sub (by omega)) ?_
  refine zz_as (nI (hi - (lo + 1))) (congrArg nI (by omega)) ?_
  refine va_put (D := (dC, dI)) (ci := 0) (v := .int (nI (hi - (lo + 1)))) (ty := .int) (C := RX0) (T := TX0) (N := 8) hx hb hts hi_R tyX0 tyX0_ok nmX0 hown hK hP hD hS 0 rfl rfl 5 (by decide) (hts (.fieldLink RX0 24 "PacketStore$Ring" "packets" "I") (by decide +kernel)) (fun _ h9 => h9) rfl (by decide +kernel) rfl rfl (Nat.le_of_ble_eq_true rfl) dX0_dropOldest_35 (fun H locs hP hD hS => ?_)
  have hP : va_P (dC, dI) vwCl [(aR, .inr (0, [.int (nI R), .ref aB, .ref aS, .ref aT, .int (nI ((lo + 1) % R)), .int (nI (hi - (lo + 1))), .int (nI (off hi % R)), .int (nI (off hi - off (lo + 1)))])), (aS, .inl (cS, R, .inl Sf))] H := hP
  have hD : va_D A [(aR, .inr (0, [.int (nI R), .ref aB, .ref aS, .ref aT, .int (nI ((lo + 1) % R)), .int (nI (hi - (lo + 1))), .int (nI (off hi % R)), .int (nI (off hi - off (lo + 1)))])), (aS, .inl (cS, R, .inl Sf))] := hD
  exact W.vret hx hb hr (fun t ht hW => ⟨⟨(), rfl, trivial, by rw [ht]; exact hP, va_K.moved hW.alike hK, hD⟩, hS.F ht⟩) hS.2.2 dX0_dropOldest_38
end
section
set_option maxHeartbeats 4000000 in
set_option maxRecDepth 100000 in
/-- PacketStore.dropOldest() -/
theorem c_P_dropOldest (l : Launch) (dC : Nat → ClassId) (dI : Nat → Nat → Nat) (aP aR aB aS aT aX aO R lo hi : Nat) (off : Nat → Nat) (ts os uw : Nat) (fr to : Int32) (pa co dr de : Nat) (cS : ClassId) (Sf : Nat → Int32) (hok : rg_ok R lo hi off) (hst : ∀ i, lo ≤ i → i < hi → Sf (i % R) = nI (off i % R)) (hlt : lo < hi) (hpa : pa - lo < 2 ^ 31) (hz : Nat) : Met l yX1_dropOldest wsX1_dropOldest ({ frames := 4, cells := 0, slots := 0, locals := 85 }) (va_Pc [.ref aP] (fun U => U.heap.size = hz ∧ va_P (dC, dI) vwCl [(aP, .inr (1, [.ref aR, .ref aX, .int (nI ts), .ref aO, .int (nI os), .int (nI uw), .int fr, .int to, .int (nI (pa - lo)), .int (nI co), .int (nI dr), .int (nI de)])), (aR, .inr (0, [.int (nI R), .ref aB, .ref aS, .ref aT, .int (nI (lo % R)), .int (nI (hi - lo)), .int (nI (off hi % R)), .int (nI (off hi - off lo))])), (aS, .inl (cS, R, .inl Sf))] U.heap ∧ va_K (dC, dI) vwCl [(cS, .int)] U ∧ va_D (fun _ => True) [(aP, .inr (1, [.ref aR, .ref aX, .int (nI ts), .ref aO, .int (nI os), .int (nI uw), .int fr, .int to, .int (nI (pa - lo)), .int (nI co), .int (nI dr), .int (nI de)])), (aR, .inr (0, [.int (nI R), .ref aB, .ref aS, .ref aT, .int (nI (lo % R)), .int (nI (hi - lo)), .int (nI (off hi % R)), .int (nI (off hi - off lo))])), (aS, .inl (cS, R, .inl Sf))])) (va_Qv (fun (u : Unit) => True) (fun u t => va_P (dC, dI) vwCl [(aP, .inr (1, [.ref aR, .ref aX, .int (nI ts), .ref aO, .int (nI os), .int (nI uw), .int fr, .int to, .int (nI (pa - (lo + 1))), .int (nI co), .int (nI dr), .int (nI de)])), (aR, .inr (0, [.int (nI R), .ref aB, .ref aS, .ref aT, .int (nI ((lo + 1) % R)), .int (nI (hi - (lo + 1))), .int (nI (off hi % R)), .int (nI (off hi - off (lo + 1)))])), (aS, .inl (cS, R, .inl Sf))] t.heap ∧ va_K (dC, dI) vwCl [(cS, .int)] t ∧ va_D (va_A [(aP, .inr (1, [.ref aR, .ref aX, .int (nI ts), .ref aO, .int (nI os), .int (nI uw), .int fr, .int to, .int (nI (pa - lo)), .int (nI co), .int (nI dr), .int (nI de)])), (aR, .inr (0, [.int (nI R), .ref aB, .ref aS, .ref aT, .int (nI (lo % R)), .int (nI (hi - lo)), .int (nI (off hi % R)), .int (nI (off hi - off lo))])), (aS, .inl (cS, R, .inl Sf))] hz) [(aP, .inr (1, [.ref aR, .ref aX, .int (nI ts), .ref aO, .int (nI os), .int (nI uw), .int fr, .int to, .int (nI (pa - (lo + 1))), .int (nI co), .int (nI dr), .int (nI de)])), (aR, .inr (0, [.int (nI R), .ref aB, .ref aS, .ref aT, .int (nI ((lo + 1) % R)), .int (nI (hi - (lo + 1))), .int (nI (off hi % R)), .int (nI (off hi - off (lo + 1)))])), (aS, .inl (cS, R, .inl Sf))]) (va_A [(aP, .inr (1, [.ref aR, .ref aX, .int (nI ts), .ref aO, .int (nI os), .int (nI uw), .int fr, .int to, .int (nI (pa - lo)), .int (nI co), .int (nI dr), .int (nI de)])), (aR, .inr (0, [.int (nI R), .ref aB, .ref aS, .ref aT, .int (nI (lo % R)), .int (nI (hi - lo)), .int (nI (off hi % R)), .int (nI (off hi - off lo))])), (aS, .inl (cS, R, .inl Sf))] hz)) 0 0 (va_A [(aP, .inr (1, [.ref aR, .ref aX, .int (nI ts), .ref aO, .int (nI os), .int (nI uw), .int fr, .int to, .int (nI (pa - lo)), .int (nI co), .int (nI dr), .int (nI de)])), (aR, .inr (0, [.int (nI R), .ref aB, .ref aS, .ref aT, .int (nI (lo % R)), .int (nI (hi - lo)), .int (nI (off hi % R)), .int (nI (off hi - off lo))])), (aS, .inl (cS, R, .inl Sf))] hz) := by
  refine Met.ofW (cc := cX1_dropOldest) (maxL := 1) (ret := none) (by decide) rfl ?_
  intro p e s m args below meth c s₁ B hml hv
  obtain ⟨rfl, hsz, hP, hK, hD0⟩ := hv
  have hx := B.exec
  have hb := B.bytes
  have hr := B.returns
  have hts := atoms_spec (ws := wsX1_dropOldest) B.pre
  have hown : s.vm.findClass RX1 = some m.cls := findClass_of_methodNamed B.named
  have hlocks := B.notSynchronized
  have hi_P : ∀ w ∈ u_ws RX1 TX1 12, w ∈ wsX1_dropOldest := by decide +kernel
  subst hsz
  have hD := hD0.self (sz := s.heap.size)
  generalize hAe : va_A [(aP, .inr (1, [.ref aR, .ref aX, .int (nI ts), .ref aO, .int (nI os), .int (nI uw), .int fr, .int to, .int (nI (pa - lo)), .int (nI co), .int (nI dr), .int (nI de)])), (aR, .inr (0, [.int (nI R), .ref aB, .ref aS, .ref aT, .int (nI (lo % R)), .int (nI (hi - lo)), .int (nI (off hi % R)), .int (nI (off hi - off lo))])), (aS, .inl (cS, R, .inl Sf))] s.heap.size = A at hD ⊢
  have hA : ∀ q : Nat, s.heap.size ≤ q → A q := fun q h => by rw [← hAe]; exact Or.inr h
  have hS : va_S A s.heap s.heap [] := va_S.rf
  have hP : va_P (dC, dI) vwCl [(aP, .inr (1, [.ref aR, .ref aX, .int (nI ts), .ref aO, .int (nI os), .int (nI uw), .int fr, .int to, .int (nI (pa - lo)), .int (nI co), .int (nI dr), .int (nI de)])), (aR, .inr (0, [.int (nI R), .ref aB, .ref aS, .ref aT, .int (nI (lo % R)), .int (nI (hi - lo)), .int (nI (off hi % R)), .int (nI (off hi - off lo))])), (aS, .inl (cS, R, .inl Sf))] s.heap := hP
  have hl := lv_entry ([.ref aP]) (n := 1) (Nat.le_of_ble_eq_true rfl)
  rw [lg_entry_eq]
  generalize (lg_sl ([.ref aP]) ++ List.replicate (1 - (lg_sl ([.ref aP])).length) Slot.unset).toArray = ls at hl ⊢
  have hl : lv_has ls 1 [(0, .ref aP)] := hl
  have hRR := hok.1
  have hll := hok.2.1
  have hcap := hok.2.2.1
  have hgap := hok.gap (Nat.le_refl lo) hll (Nat.le_refl hi)
  refine lv_aload_n hx hb dX1_dropOldest_0 rfl (lv_at hl 0 rfl) ?_
  refine va_get (D := (dC, dI)) (ci := 1) (v := .ref aR) (C := RX1) (T := TX1) (N := 12) hx hb hts hi_P hown hK hP 0 rfl rfl 0 (by decide) (hts (.fieldLink RX1 23 "PacketStore" "ring" "LPacketStore$Ring;") (by decide +kernel)) (fun _ h9 => h9) rfl dX1_dropOldest_1 ?_
  refine zz_callMv (As := []) (rest := []) (wr := [(aP, .inr (1, [.ref aR, .ref aX, .int (nI ts), .ref aO, .int (nI os), .int (nI uw), .int fr, .int to, .int (nI (pa - lo)), .int (nI co), .int (nI dr), .int (nI de)]))]) ⟨hx, hb, hml, hown, hts⟩ (c_R_dropOldest l dC dI aR aB aS aT R lo hi off cS Sf hok hst hlt _) (cwV 0 hts gX1_dropOldest_X0_dropOldest rfl rfl rfl (by decide +kernel) ⟨Nat.le_of_ble_eq_true rfl, Nat.le_of_ble_eq_true rfl⟩) hP hD hK hS hA [1, 2] [0] [0] rfl rfl rfl (by decide) (by decide) (by decide) rfl 0 rfl rfl rfl rfl hl.1 rfl (Nat.le_of_ble_eq_true rfl) dX1_dropOldest_4 ⟨Nat.zero_le _, Nat.zero_le _⟩ (fun u4 H locs e4 hP hD hS => ?_)
  have hP : va_P (dC, dI) vwCl [(aP, .inr (1, [.ref aR, .ref aX, .int (nI ts), .ref aO, .int (nI os), .int (nI uw), .int fr, .int to, .int (nI (pa - lo)), .int (nI co), .int (nI dr), .int (nI de)])), (aR, .inr (0, [.int (nI R), .ref aB, .ref aS, .ref aT, .int (nI ((lo + 1) % R)), .int (nI (hi - (lo + 1))), .int (nI (off hi % R)), .int (nI (off hi - off (lo + 1)))])), (aS, .inl (cS, R, .inl Sf))] H := hP
  have hD : va_D A [(aP, .inr (1, [.ref aR, .ref aX, .int (nI ts), .ref aO, .int (nI os), .int (nI uw), .int fr, .int to, .int (nI (pa - lo)), .int (nI co), .int (nI dr), .int (nI de)])), (aR, .inr (0, [.int (nI R), .ref aB, .ref aS, .ref aT, .int (nI ((lo + 1) % R)), .int (nI (hi - (lo + 1))), .int (nI (off hi % R)), .int (nI (off hi - off (lo + 1)))])), (aS, .inl (cS, R, .inl Sf))] := hD
  refine lv_aload_n hx hb dX1_dropOldest_7 rfl (lv_at hl 0 rfl) ?_
  refine va_get (D := (dC, dI)) (ci := 1) (v := .int (nI (pa - lo))) (C := RX1) (T := TX1) (N := 12) hx hb hts hi_P hown hK hP 0 rfl rfl 8 (by decide) (hts (.fieldLink RX1 78 "PacketStore" "passed" "I") (by decide +kernel)) (fun _ h9 => h9) rfl dX1_dropOldest_8 ?_
  refine zz_if_le (a := pa - lo) (tgt := 24) hx hb dX1_dropOldest_11 (by decide) hpa (fun c11 => ?_) (fun c11 => ?_)
  · have e11 : pa - lo = pa - (lo + 1) := by omega
    rw [e11] at hP hD
    have hP : va_P (dC, dI) vwCl [(aP, .inr (1, [.ref aR, .ref aX, .int (nI ts), .ref aO, .int (nI os), .int (nI uw), .int fr, .int to, .int (nI (pa - (lo + 1))), .int (nI co), .int (nI dr), .int (nI de)])), (aR, .inr (0, [.int (nI R), .ref aB, .ref aS, .ref aT, .int (nI ((lo + 1) % R)), .int (nI (hi - (lo + 1))), .int (nI (off hi % R)), .int (nI (off hi - off (lo + 1)))])), (aS, .inl (cS, R, .inl Sf))] H := hP
    have hD : va_D A [(aP, .inr (1, [.ref aR, .ref aX, .int (nI ts), .ref aO, .int (nI os), .int (nI uw), .int fr, .int to, .int (nI (pa - (lo + 1))), .int (nI co), .int (nI dr), .int (nI de)])), (aR, .inr (0, [.int (nI R), .ref aB, .ref aS, .ref aT, .int (nI ((lo + 1) % R)), .int (nI (hi - (lo + 1))), .int (nI (off hi % R)), .int (nI (off hi - off (lo + 1)))])), (aS, .inl (cS, R, .inl Sf))] := hD
    exact W.vret hx hb hr (fun t ht hW => ⟨⟨(), rfl, trivial, by rw [ht]; exact hP, va_K.moved hW.alike hK, hD⟩, hS.F ht⟩) hS.2.2 dX1_dropOldest_24
  · refine lv_aload_n hx hb dX1_dropOldest_14 rfl (lv_at hl 0 rfl) ?_
    refine lv_dup hx hb dX1_dropOldest_15 rfl ?_
    refine va_get (D := (dC, dI)) (ci := 1) (v := .int (nI (pa - lo))) (C := RX1) (T := TX1) (N := 12) hx hb hts hi_P hown hK hP 0 rfl rfl 8 (by decide) (hts (.fieldLink RX1 78 "PacketStore" "passed" "I") (by decide +kernel)) (fun _ h9 => h9) rfl dX1_dropOldest_16 ?_
    refine lv_iconst (v := nI 1) hx hb dX1_dropOldest_19 (by decide) ?_
    refine lv_isub hx hb dX1_dropOldest_20 ?_
    refine zz_as (nI ((pa - lo) - 1)) (pk_sub (by omega)) ?_
    refine zz_as (nI (pa - (lo + 1))) (congrArg nI (by omega)) ?_
    refine va_put (D := (dC, dI)) (ci := 1) (v := .int (nI (pa - (lo + 1)))) (ty := .int) (C := RX1) (T := TX1) (N := 12) hx hb hts hi_P tyX1 tyX1_ok nmX1 hown hK hP hD hS 0 rfl rfl 8 (by decide) (hts (.fieldLink RX1 78 "PacketStore" "passed" "I") (by decide +kernel)) (fun _ h9 => h9) rfl (by decide +kernel) rfl rfl (Nat.le_of_ble_eq_true rfl) dX1_dropOldest_21 (fun H locs hP hD hS => ?_)
    have hP : va_P (dC, dI) vwCl [(aP, .inr (1, [.ref aR, .ref aX, .int (nI ts), .ref aO, .int (nI os), .int (nI uw), .int fr, .int to, .int (nI (pa - (lo + 1))), .int (nI co), .int (nI dr), .int (nI de)])), (aR, .inr (0, [.int (nI R), .ref aB, .ref aS, .ref aT, .int (nI ((lo + 1) % R)), .int (nI (hi - (lo + 1))), .int (nI (off hi % R)), .int (nI (off hi - off (lo + 1)))])), (aS, .inl (cS, R, .inl Sf))] H := hP
    have hD : va_D A [(aP, .inr (1, [.ref aR, .ref aX, .int (nI ts), .ref aO, .int (nI os), .int (nI uw), .int fr, .int to, .int (nI (pa - (lo + 1))), .int (nI co), .int (nI dr), .int (nI de)])), (aR, .inr (0, [.int (nI R), .ref aB, .ref aS, .ref aT, .int (nI ((lo + 1) % R)), .int (nI (hi - (lo + 1))), .int (nI (off hi % R)), .int (nI (off hi - off (lo + 1)))])), (aS, .inl (cS, R, .inl Sf))] := hD
    exact W.vret hx hb hr (fun t ht hW => ⟨⟨(), rfl, trivial, by rw [ht]; exact hP, va_K.moved hW.alike hK, hD⟩, hS.F ht⟩) hS.2.2 dX1_dropOldest_24
set_option maxHeartbeats 4000000 in
set_option maxRecDepth 100000 in
/-- PacketStore.makeRoom(size) -/
theorem c_P_makeRoom (l : Launch) (dC : Nat → ClassId) (dI : Nat → Nat → Nat) (aP aR aB aS aT aX aO R lo hi : Nat) (off : Nat → Nat) (ts os uw : Nat) (fr to : Int32) (pa co dr de : Nat) (cS : ClassId) (Sf : Nat → Int32) (sz : Nat) (hok : rg_ok R lo hi off) (hst : ∀ i, lo ≤ i → i < hi → Sf (i % R) = nI (off i % R)) (hpa : pa ≤ hi) (hsR : sz ≤ R) (hz : Nat) : Met l yX1_makeRoom wsX1_makeRoom ({ frames := 5, cells := 0, slots := 0, locals := 105 }) (va_Pc [.ref aP, .int (nI sz)] (fun U => U.heap.size = hz ∧ va_P (dC, dI) vwCl [(aP, .inr (1, [.ref aR, .ref aX, .int (nI ts), .ref aO, .int (nI os), .int (nI uw), .int fr, .int to, .int (nI (pa - lo)), .int (nI co), .int (nI dr), .int (nI de)])), (aR, .inr (0, [.int (nI R), .ref aB, .ref aS, .ref aT, .int (nI (lo % R)), .int (nI (hi - lo)), .int (nI (off hi % R)), .int (nI (off hi - off lo))])), (aS, .inl (cS, R, .inl Sf))] U.heap ∧ va_K (dC, dI) vwCl [(cS, .int)] U ∧ va_D (fun _ => True) [(aP, .inr (1, [.ref aR, .ref aX, .int (nI ts), .ref aO, .int (nI os), .int (nI uw), .int fr, .int to, .int (nI (pa - lo)), .int (nI co), .int (nI dr), .int (nI de)])), (aR, .inr (0, [.int (nI R), .ref aB, .ref aS, .ref aT, .int (nI (lo % R)), .int (nI (hi - lo)), .int (nI (off hi % R)), .int (nI (off hi - off lo))])), (aS, .inl (cS, R, .inl Sf))])) (va_Qi (fun (r : Int32) (u : Nat) => r = nI (u - lo) ∧ lo ≤ u ∧ u ≤ hi ∧ off hi - off u + sz ≤ R ∧ ∀ k, lo ≤ k → k < u → R < off hi - off k + sz) (fun u t => va_P (dC, dI) vwCl [(aP, .inr (1, [.ref aR, .ref aX, .int (nI ts), .ref aO, .int (nI os), .int (nI uw), .int fr, .int to, .int (nI (pa - u)), .int (nI co), .int (nI dr), .int (nI de)])), (aR, .inr (0, [.int (nI R), .ref aB, .ref aS, .ref aT, .int (nI (u % R)), .int (nI (hi - u)), .int (nI (off hi % R)), .int (nI (off hi - off u))])), (aS, .inl (cS, R, .inl Sf))] t.heap ∧ va_K (dC, dI) vwCl [(cS, .int)] t ∧ va_D (va_A [(aP, .inr (1, [.ref aR, .ref aX, .int (nI ts), .ref aO, .int (nI os), .int (nI uw), .int fr, .int to, .int (nI (pa - lo)), .int (nI co), .int (nI dr), .int (nI de)])), (aR, .inr (0, [.int (nI R), .ref aB, .ref aS, .ref aT, .int (nI (lo % R)), .int (nI (hi - lo)), .int (nI (off hi % R)), .int (nI (off hi - off lo))])), (aS, .inl (cS, R, .inl Sf))] hz) [(aP, .inr (1, [.ref aR, .ref aX, .int (nI ts), .ref aO, .int (nI os), .int (nI uw), .int fr, .int to, .int (nI (pa - u)), .int (nI co), .int (nI dr), .int (nI de)])), (aR, .inr (0, [.int (nI R), .ref aB, .ref aS, .ref aT, .int (nI (u % R)), .int (nI (hi - u)), .int (nI (off hi % R)), .int (nI (off hi - off u))])), (aS, .inl (cS, R, .inl Sf))]) (va_A [(aP, .inr (1, [.ref aR, .ref aX, .int (nI ts), .ref aO, .int (nI os), .int (nI uw), .int fr, .int to, .int (nI (pa - lo)), .int (nI co), .int (nI dr), .int (nI de)])), (aR, .inr (0, [.int (nI R), .ref aB, .ref aS, .ref aT, .int (nI (lo % R)), .int (nI (hi - lo)), .int (nI (off hi % R)), .int (nI (off hi - off lo))])), (aS, .inl (cS, R, .inl Sf))] hz)) 0 0 (va_A [(aP, .inr (1, [.ref aR, .ref aX, .int (nI ts), .ref aO, .int (nI os), .int (nI uw), .int fr, .int to, .int (nI (pa - lo)), .int (nI co), .int (nI dr), .int (nI de)])), (aR, .inr (0, [.int (nI R), .ref aB, .ref aS, .ref aT, .int (nI (lo % R)), .int (nI (hi - lo)), .int (nI (off hi % R)), .int (nI (off hi - off lo))])), (aS, .inl (cS, R, .inl Sf))] hz) := by
  refine Met.ofW (cc := cX1_makeRoom) (maxL := 4) (ret := (some .int)) (by decide) rfl ?_
  intro p e s m args below meth c s₁ B hml hv
  obtain ⟨rfl, hsz, hP, hK, hD0⟩ := hv
  have hx := B.exec
  have hb := B.bytes
  have hr := B.returns
  have hts := atoms_spec (ws := wsX1_makeRoom) B.pre
  have hown : s.vm.findClass RX1 = some m.cls := findClass_of_methodNamed B.named
  have hlocks := B.notSynchronized
  have hi_P : ∀ w ∈ u_ws RX1 TX1 12, w ∈ wsX1_makeRoom := by decide +kernel
  subst hsz
  have hD := hD0.self (sz := s.heap.size)
  generalize hAe : va_A [(aP, .inr (1, [.ref aR, .ref aX, .int (nI ts), .ref aO, .int (nI os), .int (nI uw), .int fr, .int to, .int (nI (pa - lo)), .int (nI co), .int (nI dr), .int (nI de)])), (aR, .inr (0, [.int (nI R), .ref aB, .ref aS, .ref aT, .int (nI (lo % R)), .int (nI (hi - lo)), .int (nI (off hi % R)), .int (nI (off hi - off lo))])), (aS, .inl (cS, R, .inl Sf))] s.heap.size = A at hD ⊢
  have hA : ∀ q : Nat, s.heap.size ≤ q → A q := fun q h => by rw [← hAe]; exact Or.inr h
  have hS : va_S A s.heap s.heap [] := va_S.rf
  have hP : va_P (dC, dI) vwCl [(aP, .inr (1, [.ref aR, .ref aX, .int (nI ts), .ref aO, .int (nI os), .int (nI uw), .int fr, .int to, .int (nI (pa - lo)), .int (nI co), .int (nI dr), .int (nI de)])), (aR, .inr (0, [.int (nI R), .ref aB, .ref aS, .ref aT, .int (nI (lo % R)), .int (nI (hi - lo)), .int (nI (off hi % R)), .int (nI (off hi - off lo))])), (aS, .inl (cS, R, .inl Sf))] s.heap := hP
  have hl := lv_entry ([.ref aP, .int (nI sz)]) (n := 4) (Nat.le_of_ble_eq_true rfl)
  rw [lg_entry_eq]
  generalize (lg_sl ([.ref aP, .int (nI sz)]) ++ List.replicate (4 - (lg_sl ([.ref aP, .int (nI sz)])).length) Slot.unset).toArray = ls at hl ⊢
  have hl : lv_has ls 4 [(0, .ref aP), (1, .int (nI sz))] := hl
  have hRR := hok.1
  have hll := hok.2.1
  have hcap := hok.2.2.1
  have hgap := hok.gap (Nat.le_refl lo) hll (Nat.le_refl hi)
  refine lv_aload_n hx hb dX1_makeRoom_0 rfl (lv_at hl 0 rfl) ?_
  refine va_get (D := (dC, dI)) (ci := 1) (v := .ref aR) (C := RX1) (T := TX1) (N := 12) hx hb hts hi_P hown hK hP 0 rfl rfl 0 (by decide) (hts (.fieldLink RX1 23 "PacketStore" "ring" "LPacketStore$Ring;") (by decide +kernel)) (fun _ h9 => h9) rfl dX1_makeRoom_1 ?_
  refine zz_callR (As := []) (rest := []) ⟨hx, hb, hml, hown, hts⟩ (c_R_packets l dC dI aR aB aS aT R (lo % R) (hi - lo) (off hi % R) (off hi - off lo)) (cwV 0 hts gX1_makeRoom_X0_packets rfl rfl rfl (by decide +kernel) ⟨Nat.le_of_ble_eq_true rfl, Nat.le_of_ble_eq_true rfl⟩) (hP.sub [1] rfl) (hK.sub [] rfl) 0 rfl rfl rfl rfl hl.1 rfl (Nat.le_of_ble_eq_true rfl) dX1_makeRoom_4 ⟨Nat.zero_le _, Nat.zero_le _⟩ (fun r4 e4 => ?_)
  subst e4
  refine lv_istore_n (lv' := [(2, .int (nI (hi - lo))), (0, .ref aP), (1, .int (nI sz))]) hx hb dX1_makeRoom_7 rfl hl (by decide) rfl (fun ls hl => ?_)
  refine lv_iconst (v := nI 0) hx hb dX1_makeRoom_8 (by decide) ?_
  refine lv_istore_n (lv' := [(3, .int (nI 0)), (2, .int (nI (hi - lo))), (0, .ref aP), (1, .int (nI sz))]) hx hb dX1_makeRoom_9 rfl hl (by decide) rfl (fun ls hl => ?_)
  refine zz_loop (σ := Nat) (fun n v H locs ls => (n + v = hi - lo + 1 ∧ v ≤ hi - lo ∧ ∀ k, lo ≤ k → k < lo + v → R < off hi - off k + sz) ∧ va_P (dC, dI) vwCl [(aP, .inr (1, [.ref aR, .ref aX, .int (nI ts), .ref aO, .int (nI os), .int (nI uw), .int fr, .int to, .int (nI (pa - (lo + v))), .int (nI co), .int (nI dr), .int (nI de)])), (aR, .inr (0, [.int (nI R), .ref aB, .ref aS, .ref aT, .int (nI ((lo + v) % R)), .int (nI (hi - (lo + v))), .int (nI (off hi % R)), .int (nI (off hi - off (lo + v)))])), (aS, .inl (cS, R, .inl Sf))] H ∧ va_D A [(aP, .inr (1, [.ref aR, .ref aX, .int (nI ts), .ref aO, .int (nI os), .int (nI uw), .int fr, .int to, .int (nI (pa - (lo + v))), .int (nI co), .int (nI dr), .int (nI de)])), (aR, .inr (0, [.int (nI R), .ref aB, .ref aS, .ref aT, .int (nI ((lo + v) % R)), .int (nI (hi - (lo + v))), .int (nI (off hi % R)), .int (nI (off hi - off (lo + v)))])), (aS, .inl (cS, R, .inl Sf))] ∧ va_S A s.heap H locs ∧ lv_has ls 4 [(3, .int (nI v)), (0, .ref aP), (1, .int (nI sz)), (2, .int (nI (hi - lo)))]) (fun v H locs ls h => ?_) (fun n v H locs ls h ih => ?_) (hi - lo + 1) 0 _ _ _ ⟨⟨rfl, Nat.zero_le _, fun k h1 h2 => absurd h2 (Nat.not_lt.mpr h1)⟩, hP, hD, hS, lv_sub hl [0, 2, 3, 1] rfl⟩
  · obtain ⟨⟨h1, h2, -⟩, -⟩ := h
    omega
  obtain ⟨⟨hj1, hj2, hj3⟩, hP, hD, hS, hl⟩ := h
  have hok2 := hok.drop (Nat.le_add_right lo v) (show lo + v ≤ hi by omega)
  have hcap2 := hok2.2.2.1
  have hP : va_P (dC, dI) vwCl [(aP, .inr (1, [.ref aR, .ref aX, .int (nI ts), .ref aO, .int (nI os), .int (nI uw), .int fr, .int to, .int (nI (pa - (lo + v))), .int (nI co), .int (nI dr), .int (nI de)])), (aR, .inr (0, [.int (nI R), .ref aB, .ref aS, .ref aT, .int (nI ((lo + v) % R)), .int (nI (hi - (lo + v))), .int (nI (off hi % R)), .int (nI (off hi - off (lo + v)))])), (aS, .inl (cS, R, .inl Sf))] H := hP
  have hD : va_D A [(aP, .inr (1, [.ref aR, .ref aX, .int (nI ts), .ref aO, .int (nI os), .int (nI uw), .int fr, .int to, .int (nI (pa - (lo + v))), .int (nI co), .int (nI dr), .int (nI de)])), (aR, .inr (0, [.int (nI R), .ref aB, .ref aS, .ref aT, .int (nI ((lo + v) % R)), .int (nI (hi - (lo + v))), .int (nI (off hi % R)), .int (nI (off hi - off (lo + v)))])), (aS, .inl (cS, R, .inl Sf))] := hD
  have hl : lv_has ls 4 [(3, .int (nI v)), (0, .ref aP), (1, .int (nI sz)), (2, .int (nI (hi - lo)))] := hl
  refine lv_iload_n hx hb dX1_makeRoom_10 rfl (lv_at hl 0 rfl) ?_
  refine lv_iload_n hx hb dX1_makeRoom_11 rfl (lv_at hl 3 rfl) ?_
  refine zz_icmp_ge (a := v) (b := hi - lo) (tgt := 44) hx hb dX1_makeRoom_12 (by decide) (by omega) (by omega) (fun c12 => ?_) (fun c12 => ?_)
  · refine lv_iload_n hx hb dX1_makeRoom_44 rfl (lv_at hl 0 rfl) ?_
    exact W.iret (v := (nI v)) hx hb hr (fun t ht hW => ⟨⟨_, lo + v, rfl, ⟨congrArg nI (by omega), by omega, by omega, by rw [show lo + v = hi by omega]; omega, hj3⟩, by rw [ht]; exact hP, va_K.moved hW.alike hK, hD⟩, hS.F ht⟩) hS.2.2 dX1_makeRoom_45
  · refine lv_aload_n hx hb dX1_makeRoom_15 rfl (lv_at hl 1 rfl) ?_
    refine va_get (D := (dC, dI)) (ci := 1) (v := .ref aR) (C := RX1) (T := TX1) (N := 12) hx hb hts hi_P hown hK hP 0 rfl rfl 0 (by decide) (hts (.fieldLink RX1 23 "PacketStore" "ring" "LPacketStore$Ring;") (by decide +kernel)) (fun _ h9 => h9) rfl dX1_makeRoom_16 ?_
    refine zz_callR (As := []) (rest := []) ⟨hx, hb, hml, hown, hts⟩ (c_R_used l dC dI aR aB aS aT R ((lo + v) % R) (hi - (lo + v)) (off hi % R) (off hi - off (lo + v))) (cwV 0 hts gX1_makeRoom_X0_used rfl rfl rfl (by decide +kernel) ⟨Nat.le_of_ble_eq_true rfl, Nat.le_of_ble_eq_true rfl⟩) (hP.sub [1] rfl) (hK.sub [] rfl) 0 rfl rfl rfl rfl hl.1 rfl (Nat.le_of_ble_eq_true rfl) dX1_makeRoom_19 ⟨Nat.zero_le _, Nat.zero_le _⟩ (fun r19 e19 => ?_)
    subst e19
    refine lv_iload_n hx hb dX1_makeRoom_22 rfl (lv_at hl 2 rfl) ?_
    refine lv_iadd hx hb dX1_makeRoom_23 ?_
    refine zz_as (nI ((off hi - off (lo + v)) + sz)) (nI_add _ _) ?_
    refine lv_aload_n hx hb dX1_makeRoom_24 rfl (lv_at hl 1 rfl) ?_
    refine va_get (D := (dC, dI)) (ci := 1) (v := .ref aR) (C := RX1) (T := TX1) (N := 12) hx hb hts hi_P hown hK hP 0 rfl rfl 0 (by decide) (hts (.fieldLink RX1 23 "PacketStore" "ring" "LPacketStore$Ring;") (by decide +kernel)) (fun _ h9 => h9) rfl dX1_makeRoom_25 ?_
    refine zz_callR (As := []) (rest := [.int (nI ((off hi - off (lo + v)) + sz))]) ⟨hx, hb, hml, hown, hts⟩ (c_R_room l dC dI aR aB aS aT R ((lo + v) % R) (hi - (lo + v)) (off hi % R) (off hi - off (lo + v))) (cwV 0 hts gX1_makeRoom_X0_room rfl rfl rfl (by decide +kernel) ⟨Nat.le_of_ble_eq_true rfl, Nat.le_of_ble_eq_true rfl⟩) (hP.sub [1] rfl) (hK.sub [] rfl) 0 rfl rfl rfl rfl hl.1 rfl (Nat.le_of_ble_eq_true rfl) dX1_makeRoom_28 ⟨Nat.zero_le _, Nat.zero_le _⟩ (fun r28 e28 => ?_)
    subst e28
    refine zz_icmp_le (a := (off hi - off (lo + v)) + sz) (b := R) (tgt := 44) hx hb dX1_makeRoom_31 (by decide) (by omega) (by omega) (fun c31 => ?_) (fun c31 => ?_)
    · refine lv_iload_n hx hb dX1_makeRoom_44 rfl (lv_at hl 0 rfl) ?_
      exact W.iret (v := (nI v)) hx hb hr (fun t ht hW => ⟨⟨_, lo + v, rfl, ⟨congrArg nI (by omega), by omega, by omega, c31, hj3⟩, by rw [ht]; exact hP, va_K.moved hW.alike hK, hD⟩, hS.F ht⟩) hS.2.2 dX1_makeRoom_45
    · refine lv_aload_n hx hb dX1_makeRoom_34 rfl (lv_at hl 1 rfl) ?_
      refine zz_callMv (As := []) (rest := []) (wr := []) ⟨hx, hb, hml, hown, hts⟩ (c_P_dropOldest l dC dI aP aR aB aS aT aX aO R (lo + v) hi off ts os uw fr to pa co dr de cS Sf hok2 (fun i a b => hst i (by omega) b) (by omega) (by omega) _) (cwV 0 hts gX1_makeRoom_X1_dropOldest rfl rfl rfl (by decide +kernel) ⟨Nat.le_of_ble_eq_true rfl, Nat.le_of_ble_eq_true rfl⟩) hP hD hK hS hA [0, 1, 2] [] [0] rfl rfl rfl (by decide) (by decide) (by decide) rfl 0 rfl rfl rfl rfl hl.1 rfl (Nat.le_of_ble_eq_true rfl) dX1_makeRoom_35 ⟨Nat.zero_le _, Nat.zero_le _⟩ (fun u35 H locs e35 hP hD hS => ?_)
      have hP : va_P (dC, dI) vwCl [(aP, .inr (1, [.ref aR, .ref aX, .int (nI ts), .ref aO, .int (nI os), .int (nI uw), .int fr, .int to, .int (nI (pa - (lo + v + 1))), .int (nI co), .int (nI dr), .int (nI de)])), (aR, .inr (0, [.int (nI R), .ref aB, .ref aS, .ref aT, .int (nI ((lo + v + 1) % R)), .int (nI (hi - (lo + v + 1))), .int (nI (off hi % R)), .int (nI (off hi - off (lo + v + 1)))])), (aS, .inl (cS, R, .inl Sf))] H := hP
      have hD : va_D A [(aP, .inr (1, [.ref aR, .ref aX, .int (nI ts), .ref aO, .int (nI os), .int (nI uw), .int fr, .int to, .int (nI (pa - (lo + v + 1))), .int (nI co), .int (nI dr), .int (nI de)])), (aR, .inr (0, [.int (nI R), .ref aB, .ref aS, .ref aT, .int (nI ((lo + v + 1) % R)), .int (nI (hi - (lo + v + 1))), .int (nI (off hi % R)), .int (nI (off hi - off (lo + v + 1)))])), (aS, .inl (cS, R, .inl Sf))] := hD
      refine lv_iinc (v := nI (v + 1)) (lv' := [(3, .int (nI (v + 1))), (0, .ref aP), (1, .int (nI sz)), (2, .int (nI (hi - lo)))]) hx hb dX1_makeRoom_38 hl (k := 0) rfl (show nI v + 1 = nI (v + 1) from nI_1 _) (by decide) rfl (fun ls hl => ?_)
      refine lv_goto (tgt := 10) hx hb dX1_makeRoom_41 (by decide) ?_
      exact ih (v + 1) _ _ _ ⟨⟨by omega, by omega, fun k h1 h2 => (Nat.lt_or_ge k (lo + v)).elim (fun q => hj3 k h1 q) (fun q => by rw [show k = lo + v by omega]; exact c31)⟩, hP, hD, hS, lv_sub hl [0, 1, 2, 3] rfl⟩
theorem zz_nlt {x y : Int32} (h : x ≤ y) (h2 : y < x) : False := by
  rw [Int32.le_iff_toInt_le] at h
  rw [Int32.lt_iff_toInt_lt] at h2
  omega
theorem zz_lnt {x y : Int32} (h : ¬ y < x) : x ≤ y := by
  rw [Int32.le_iff_toInt_le]
  rw [Int32.lt_iff_toInt_lt] at h
  omega
set_option maxHeartbeats 4000000 in
set_option maxRecDepth 100000 in
/-- PacketStore.isWanted(time) -/
theorem c_P_isWanted (l : Launch) (dC : Nat → ClassId) (dI : Nat → Nat → Nat) (aP aR aX aO ts os uw : Nat) (fr to : Int32) (pw co dr de : Nat) (tim : Int32)  : Met l yX1_isWanted wsX1_isWanted ({ frames := 0, cells := 0, slots := 0, locals := 0 }) (va_Pc [.ref aP, .int tim] (fun U => va_P (dC, dI) vwCl [(aP, .inr (1, [.ref aR, .ref aX, .int (nI ts), .ref aO, .int (nI os), .int (nI uw), .int fr, .int to, .int (nI pw), .int (nI co), .int (nI dr), .int (nI de)]))] U.heap ∧ va_K (dC, dI) vwCl [] U)) (vp_Si (fun r => (r = nI 0 ∧ ¬ (fr ≤ tim ∧ tim ≤ to)) ∨ (r = nI 1 ∧ (fr ≤ tim ∧ tim ≤ to)))) 0 0 (fun _ => False) := by
  refine Met.ofW (cc := cX1_isWanted) (maxL := 2) (ret := (some .boolean)) (by decide) rfl ?_
  intro p e s m args below meth c s₁ B hml hv
  obtain ⟨rfl, hP, hK⟩ := hv
  have hx := B.exec
  have hb := B.bytes
  have hr := B.returns
  have hts := atoms_spec (ws := wsX1_isWanted) B.pre
  have hown : s.vm.findClass RX1 = some m.cls := findClass_of_methodNamed B.named
  have hlocks := B.notSynchronized
  have hi_P : ∀ w ∈ u_ws RX1 TX1 12, w ∈ wsX1_isWanted := by decide +kernel
  have hP : va_P (dC, dI) vwCl [(aP, .inr (1, [.ref aR, .ref aX, .int (nI ts), .ref aO, .int (nI os), .int (nI uw), .int fr, .int to, .int (nI pw), .int (nI co), .int (nI dr), .int (nI de)]))] s.heap := hP
  have hl := lv_entry ([.ref aP, .int tim]) (n := 2) (Nat.le_of_ble_eq_true rfl)
  rw [lg_entry_eq]
  generalize (lg_sl ([.ref aP, .int tim]) ++ List.replicate (2 - (lg_sl ([.ref aP, .int tim])).length) Slot.unset).toArray = ls at hl ⊢
  have hl : lv_has ls 2 [(0, .ref aP), (1, .int tim)] := hl
  refine lv_aload_n hx hb dX1_isWanted_0 rfl (lv_at hl 0 rfl) ?_
  refine va_get (D := (dC, dI)) (ci := 1) (v := .int fr) (C := RX1) (T := TX1) (N := 12) hx hb hts hi_P hown hK hP 0 rfl rfl 6 (by decide) (hts (.fieldLink RX1 72 "PacketStore" "from" "I") (by decide +kernel)) (fun _ h9 => h9) rfl dX1_isWanted_1 ?_
  refine lv_iload_n hx hb dX1_isWanted_4 rfl (lv_at hl 1 rfl) ?_
  refine lv_icmp_gt (tgt := 20) hx hb dX1_isWanted_5 (by decide) (fun c5 => ?_) (fun c5 => ?_)
  · refine lv_iconst (v := nI 0) hx hb dX1_isWanted_20 (by decide) ?_
    exact W.zret (v := (nI 0)) hx hb hr rfl (fun t ht hW => ⟨_, rfl, Or.inl ⟨rfl, fun h => zz_nlt h.1 c5⟩, ht⟩) (fun q hq => by cases hq) dX1_isWanted_21
  · refine lv_iload_n hx hb dX1_isWanted_8 rfl (lv_at hl 1 rfl) ?_
    refine lv_aload_n hx hb dX1_isWanted_9 rfl (lv_at hl 0 rfl) ?_
    refine va_get (D := (dC, dI)) (ci := 1) (v := .int to) (C := RX1) (T := TX1) (N := 12) hx hb hts hi_P hown hK hP 0 rfl rfl 7 (by decide) (hts (.fieldLink RX1 75 "PacketStore" "to" "I") (by decide +kernel)) (fun _ h9 => h9) rfl dX1_isWanted_10 ?_
    refine lv_icmp_gt (tgt := 20) hx hb dX1_isWanted_13 (by decide) (fun c13 => ?_) (fun c13 => ?_)
    · refine lv_iconst (v := nI 0) hx hb dX1_isWanted_20 (by decide) ?_
      exact W.zret (v := (nI 0)) hx hb hr rfl (fun t ht hW => ⟨_, rfl, Or.inl ⟨rfl, fun h => zz_nlt h.2 c13⟩, ht⟩) (fun q hq => by cases hq) dX1_isWanted_21
    · refine lv_iconst (v := nI 1) hx hb dX1_isWanted_16 (by decide) ?_
      refine lv_goto (tgt := 21) hx hb dX1_isWanted_17 (by decide) ?_
      exact W.zret (v := (nI 1)) hx hb hr rfl (fun t ht hW => ⟨_, rfl, Or.inr ⟨rfl, zz_lnt c5, zz_lnt c13⟩, ht⟩) (fun q hq => by cases hq) dX1_isWanted_21
set_option maxHeartbeats 4000000 in
set_option maxRecDepth 100000 in
/-- PacketStore.passUnwanted() -/
theorem c_P_passUnwanted (l : Launch) (dC : Nat → ClassId) (dI : Nat → Nat → Nat) (aP aR aB aS aT aX aO R lo hi : Nat) (off : Nat → Nat) (ts os uw : Nat) (fr to : Int32) (pa co dr de : Nat) (cT : ClassId) (Tf tm : Nat → Int32) (hok : rg_ok R lo hi off) (htm : ∀ i, lo ≤ i → i < hi → Tf (i % R) = tm i) (hpa : pa ≤ hi) (hz : Nat) : Met l yX1_passUnwanted wsX1_passUnwanted ({ frames := 2, cells := 0, slots := 0, locals := 42 }) (va_Pc [.ref aP] (fun U => U.heap.size = hz ∧ va_P (dC, dI) vwCl [(aP, .inr (1, [.ref aR, .ref aX, .int (nI ts), .ref aO, .int (nI os), .int (nI uw), .int fr, .int to, .int (nI (pa - lo)), .int (nI co), .int (nI dr), .int (nI de)])), (aR, .inr (0, [.int (nI R), .ref aB, .ref aS, .ref aT, .int (nI (lo % R)), .int (nI (hi - lo)), .int (nI (off hi % R)), .int (nI (off hi - off lo))])), (aT, .inl (cT, R, .inl Tf))] U.heap ∧ va_K (dC, dI) vwCl [(cT, .int)] U ∧ va_D (fun _ => True) [(aP, .inr (1, [.ref aR, .ref aX, .int (nI ts), .ref aO, .int (nI os), .int (nI uw), .int fr, .int to, .int (nI (pa - lo)), .int (nI co), .int (nI dr), .int (nI de)])), (aR, .inr (0, [.int (nI R), .ref aB, .ref aS, .ref aT, .int (nI (lo % R)), .int (nI (hi - lo)), .int (nI (off hi % R)), .int (nI (off hi - off lo))])), (aT, .inl (cT, R, .inl Tf))])) (va_Qv (fun (u : Nat) => pa - lo ≤ u ∧ u ≤ hi - lo ∧ (∀ t, pa - lo ≤ t → t < u → ¬ (fr ≤ tm (lo + t) ∧ tm (lo + t) ≤ to)) ∧ (u = hi - lo ∨ (u < hi - lo ∧ (fr ≤ tm (lo + u) ∧ tm (lo + u) ≤ to)))) (fun u t => va_P (dC, dI) vwCl [(aP, .inr (1, [.ref aR, .ref aX, .int (nI ts), .ref aO, .int (nI os), .int (nI uw), .int fr, .int to, .int (nI u), .int (nI co), .int (nI dr), .int (nI de)])), (aR, .inr (0, [.int (nI R), .ref aB, .ref aS, .ref aT, .int (nI (lo % R)), .int (nI (hi - lo)), .int (nI (off hi % R)), .int (nI (off hi - off lo))])), (aT, .inl (cT, R, .inl Tf))] t.heap ∧ va_K (dC, dI) vwCl [(cT, .int)] t ∧ va_D (va_A [(aP, .inr (1, [.ref aR, .ref aX, .int (nI ts), .ref aO, .int (nI os), .int (nI uw), .int fr, .int to, .int (nI (pa - lo)), .int (nI co), .int (nI dr), .int (nI de)])), (aR, .inr (0, [.int (nI R), .ref aB, .ref aS, .ref aT, .int (nI (lo % R)), .int (nI (hi - lo)), .int (nI (off hi % R)), .int (nI (off hi - off lo))])), (aT, .inl (cT, R, .inl Tf))] hz) [(aP, .inr (1, [.ref aR, .ref aX, .int (nI ts), .ref aO, .int (nI os), .int (nI uw), .int fr, .int to, .int (nI u), .int (nI co), .int (nI dr), .int (nI de)])), (aR, .inr (0, [.int (nI R), .ref aB, .ref aS, .ref aT, .int (nI (lo % R)), .int (nI (hi - lo)), .int (nI (off hi % R)), .int (nI (off hi - off lo))])), (aT, .inl (cT, R, .inl Tf))]) (va_A [(aP, .inr (1, [.ref aR, .ref aX, .int (nI ts), .ref aO, .int (nI os), .int (nI uw), .int fr, .int to, .int (nI (pa - lo)), .int (nI co), .int (nI dr), .int (nI de)])), (aR, .inr (0, [.int (nI R), .ref aB, .ref aS, .ref aT, .int (nI (lo % R)), .int (nI (hi - lo)), .int (nI (off hi % R)), .int (nI (off hi - off lo))])), (aT, .inl (cT, R, .inl Tf))] hz)) 0 0 (va_A [(aP, .inr (1, [.ref aR, .ref aX, .int (nI ts), .ref aO, .int (nI os), .int (nI uw), .int fr, .int to, .int (nI (pa - lo)), .int (nI co), .int (nI dr), .int (nI de)])), (aR, .inr (0, [.int (nI R), .ref aB, .ref aS, .ref aT, .int (nI (lo % R)), .int (nI (hi - lo)), .int (nI (off hi % R)), .int (nI (off hi - off lo))])), (aT, .inl (cT, R, .inl Tf))] hz) := by
  refine Met.ofW (cc := cX1_passUnwanted) (maxL := 1) (ret := none) (by decide) rfl ?_
  intro p e s m args below meth c s₁ B hml hv
  obtain ⟨rfl, hsz, hP, hK, hD0⟩ := hv
  have hx := B.exec
  have hb := B.bytes
  have hr := B.returns
  have hts := atoms_spec (ws := wsX1_passUnwanted) B.pre
  have hown : s.vm.findClass RX1 = some m.cls := findClass_of_methodNamed B.named
  have hlocks := B.notSynchronized
  have hi_P : ∀ w ∈ u_ws RX1 TX1 12, w ∈ wsX1_passUnwanted := by decide +kernel
  subst hsz
  have hD := hD0.self (sz := s.heap.size)
  generalize hAe : va_A [(aP, .inr (1, [.ref aR, .ref aX, .int (nI ts), .ref aO, .int (nI os), .int (nI uw), .int fr, .int to, .int (nI (pa - lo)), .int (nI co), .int (nI dr), .int (nI de)])), (aR, .inr (0, [.int (nI R), .ref aB, .ref aS, .ref aT, .int (nI (lo % R)), .int (nI (hi - lo)), .int (nI (off hi % R)), .int (nI (off hi - off lo))])), (aT, .inl (cT, R, .inl Tf))] s.heap.size = A at hD ⊢
  have hA : ∀ q : Nat, s.heap.size ≤ q → A q := fun q h => by rw [← hAe]; exact Or.inr h
  have hS : va_S A s.heap s.heap [] := va_S.rf
  have hP : va_P (dC, dI) vwCl [(aP, .inr (1, [.ref aR, .ref aX, .int (nI ts), .ref aO, .int (nI os), .int (nI uw), .int fr, .int to, .int (nI (pa - lo)), .int (nI co), .int (nI dr), .int (nI de)])), (aR, .inr (0, [.int (nI R), .ref aB, .ref aS, .ref aT, .int (nI (lo % R)), .int (nI (hi - lo)), .int (nI (off hi % R)), .int (nI (off hi - off lo))])), (aT, .inl (cT, R, .inl Tf))] s.heap := hP
  have hl := lv_entry ([.ref aP]) (n := 1) (Nat.le_of_ble_eq_true rfl)
  rw [lg_entry_eq]
  generalize (lg_sl ([.ref aP]) ++ List.replicate (1 - (lg_sl ([.ref aP])).length) Slot.unset).toArray = ls at hl ⊢
  have hl : lv_has ls 1 [(0, .ref aP)] := hl
  have hRR := hok.1
  have hll := hok.2.1
  have hcap := hok.2.2.1
  have hgap := hok.gap (Nat.le_refl lo) hll (Nat.le_refl hi)
  refine zz_loop (σ := Nat) (fun n v H locs ls => (n + v = hi - lo + 1 ∧ v ≤ hi - lo ∧ pa - lo ≤ v ∧ ∀ t, pa - lo ≤ t → t < v → ¬ (fr ≤ tm (lo + t) ∧ tm (lo + t) ≤ to)) ∧ va_P (dC, dI) vwCl [(aP, .inr (1, [.ref aR, .ref aX, .int (nI ts), .ref aO, .int (nI os), .int (nI uw), .int fr, .int to, .int (nI v), .int (nI co), .int (nI dr), .int (nI de)])), (aR, .inr (0, [.int (nI R), .ref aB, .ref aS, .ref aT, .int (nI (lo % R)), .int (nI (hi - lo)), .int (nI (off hi % R)), .int (nI (off hi - off lo))])), (aT, .inl (cT, R, .inl Tf))] H ∧ va_D A [(aP, .inr (1, [.ref aR, .ref aX, .int (nI ts), .ref aO, .int (nI os), .int (nI uw), .int fr, .int to, .int (nI v), .int (nI co), .int (nI dr), .int (nI de)])), (aR, .inr (0, [.int (nI R), .ref aB, .ref aS, .ref aT, .int (nI (lo % R)), .int (nI (hi - lo)), .int (nI (off hi % R)), .int (nI (off hi - off lo))])), (aT, .inl (cT, R, .inl Tf))] ∧ va_S A s.heap H locs ∧ lv_has ls 1 [(0, .ref aP)]) (fun v H locs ls h => ?_) (fun n v H locs ls h ih => ?_) (hi - lo + 1 - (pa - lo)) (pa - lo) _ _ _ ⟨⟨by omega, by omega, Nat.le_refl _, fun t h1 h2 => absurd h2 (Nat.not_lt.mpr h1)⟩, hP, hD, hS, lv_sub hl [0] rfl⟩
  · obtain ⟨⟨h1, h2, -⟩, -⟩ := h
    omega
  obtain ⟨⟨hj1, hj2, hj4, hj3⟩, hP, hD, hS, hl⟩ := h
  have hP : va_P (dC, dI) vwCl [(aP, .inr (1, [.ref aR, .ref aX, .int (nI ts), .ref aO, .int (nI os), .int (nI uw), .int fr, .int to, .int (nI v), .int (nI co), .int (nI dr), .int (nI de)])), (aR, .inr (0, [.int (nI R), .ref aB, .ref aS, .ref aT, .int (nI (lo % R)), .int (nI (hi - lo)), .int (nI (off hi % R)), .int (nI (off hi - off lo))])), (aT, .inl (cT, R, .inl Tf))] H := hP
  have hD : va_D A [(aP, .inr (1, [.ref aR, .ref aX, .int (nI ts), .ref aO, .int (nI os), .int (nI uw), .int fr, .int to, .int (nI v), .int (nI co), .int (nI dr), .int (nI de)])), (aR, .inr (0, [.int (nI R), .ref aB, .ref aS, .ref aT, .int (nI (lo % R)), .int (nI (hi - lo)), .int (nI (off hi % R)), .int (nI (off hi - off lo))])), (aT, .inl (cT, R, .inl Tf))] := hD
  have hl : lv_has ls 1 [(0, .ref aP)] := hl
  refine lv_aload_n hx hb dX1_passUnwanted_0 rfl (lv_at hl 0 rfl) ?_
  refine va_get (D := (dC, dI)) (ci := 1) (v := .int (nI v)) (C := RX1) (T := TX1) (N := 12) hx hb hts hi_P hown hK hP 0 rfl rfl 8 (by decide) (hts (.fieldLink RX1 78 "PacketStore" "passed" "I") (by decide +kernel)) (fun _ h9 => h9) rfl dX1_passUnwanted_1 ?_
  refine lv_aload_n hx hb dX1_passUnwanted_4 rfl (lv_at hl 0 rfl) ?_
  refine va_get (D := (dC, dI)) (ci := 1) (v := .ref aR) (C := RX1) (T := TX1) (N := 12) hx hb hts hi_P hown hK hP 0 rfl rfl 0 (by decide) (hts (.fieldLink RX1 23 "PacketStore" "ring" "LPacketStore$Ring;") (by decide +kernel)) (fun _ h9 => h9) rfl dX1_passUnwanted_5 ?_
  refine zz_callR (As := []) (rest := [.int (nI v)]) ⟨hx, hb, hml, hown, hts⟩ (c_R_packets l dC dI aR aB aS aT R (lo % R) (hi - lo) (off hi % R) (off hi - off lo)) (cwV 0 hts gX1_passUnwanted_X0_packets rfl rfl rfl (by decide +kernel) ⟨Nat.le_of_ble_eq_true rfl, Nat.le_of_ble_eq_true rfl⟩) (hP.sub [1] rfl) (hK.sub [] rfl) 0 rfl rfl rfl rfl hl.1 rfl (Nat.le_of_ble_eq_true rfl) dX1_passUnwanted_8 ⟨Nat.zero_le _, Nat.zero_le _⟩ (fun r8 e8 => ?_)
  subst e8
  refine zz_icmp_ge (a := v) (b := hi - lo) (tgt := 45) hx hb dX1_passUnwanted_11 (by decide) (by omega) (by omega) (fun c11 => ?_) (fun c11 => ?_)
  · exact W.vret hx hb hr (fun t ht hW => ⟨⟨v, rfl, ⟨hj4, hj2, hj3, Or.inl (by omega)⟩, by rw [ht]; exact hP, va_K.moved hW.alike hK, hD⟩, hS.F ht⟩) hS.2.2 dX1_passUnwanted_45
  · refine lv_aload_n hx hb dX1_passUnwanted_14 rfl (lv_at hl 0 rfl) ?_
    refine lv_aload_n hx hb dX1_passUnwanted_15 rfl (lv_at hl 0 rfl) ?_
    refine va_get (D := (dC, dI)) (ci := 1) (v := .ref aR) (C := RX1) (T := TX1) (N := 12) hx hb hts hi_P hown hK hP 0 rfl rfl 0 (by decide) (hts (.fieldLink RX1 23 "PacketStore" "ring" "LPacketStore$Ring;") (by decide +kernel)) (fun _ h9 => h9) rfl dX1_passUnwanted_16 ?_
    refine lv_aload_n hx hb dX1_passUnwanted_19 rfl (lv_at hl 0 rfl) ?_
    refine va_get (D := (dC, dI)) (ci := 1) (v := .int (nI v)) (C := RX1) (T := TX1) (N := 12) hx hb hts hi_P hown hK hP 0 rfl rfl 8 (by decide) (hts (.fieldLink RX1 78 "PacketStore" "passed" "I") (by decide +kernel)) (fun _ h9 => h9) rfl dX1_passUnwanted_20 ?_
    refine zz_callR (As := [.int (nI v)]) (rest := [.ref aP]) ⟨hx, hb, hml, hown, hts⟩ (c_R_timeOf l dC dI aR aB aS aT R (lo % R) (hi - lo) (off hi % R) (off hi - off lo) cT Tf v (Nat.mod_lt _ (by omega)) (by omega) (by omega)) (cwV 1 hts gX1_passUnwanted_X0_timeOf rfl rfl rfl (by decide +kernel) ⟨Nat.le_of_ble_eq_true rfl, Nat.le_of_ble_eq_true rfl⟩) (hP.sub [1, 2] rfl) (hK.sub [0] rfl) 0 rfl rfl rfl rfl hl.1 rfl (Nat.le_of_ble_eq_true rfl) dX1_passUnwanted_23 ⟨Nat.zero_le _, Nat.zero_le _⟩ (fun r23 e23 => ?_)
    subst e23
    refine zz_as (tm (lo + v)) (by rw [Nat.mod_add_mod]; exact htm (lo + v) (by omega) (by omega)) ?_
    refine zz_callR (As := [.int (tm (lo + v))]) (rest := []) ⟨hx, hb, hml, hown, hts⟩ (c_P_isWanted l dC dI aP aR aX aO ts os uw fr to v co dr de ((tm (lo + v)))) (cwV 1 hts gX1_passUnwanted_X1_isWanted rfl rfl rfl (by decide +kernel) ⟨Nat.le_of_ble_eq_true rfl, Nat.le_of_ble_eq_true rfl⟩) (hP.sub [0] rfl) (hK.sub [] rfl) 0 rfl rfl rfl rfl hl.1 rfl (Nat.le_of_ble_eq_true rfl) dX1_passUnwanted_26 ⟨Nat.zero_le _, Nat.zero_le _⟩ (fun r26 e26 => ?_)
    rcases e26 with ⟨e26, e29⟩ | ⟨e26, e29⟩ <;> subst e26
    · refine zz_if_ne (a := 0) (tgt := 45) hx hb dX1_passUnwanted_29 (by decide) (by decide) (fun c29 => ?_) (fun c29 => ?_)
      · exact absurd rfl c29
      · refine lv_aload_n hx hb dX1_passUnwanted_32 rfl (lv_at hl 0 rfl) ?_
        refine lv_dup hx hb dX1_passUnwanted_33 rfl ?_
        refine va_get (D := (dC, dI)) (ci := 1) (v := .int (nI v)) (C := RX1) (T := TX1) (N := 12) hx hb hts hi_P hown hK hP 0 rfl rfl 8 (by decide) (hts (.fieldLink RX1 78 "PacketStore" "passed" "I") (by decide +kernel)) (fun _ h9 => h9) rfl dX1_passUnwanted_34 ?_
        refine lv_iconst (v := nI 1) hx hb dX1_passUnwanted_37 (by decide) ?_
        refine lv_iadd hx hb dX1_passUnwanted_38 ?_
        refine zz_as (nI (v + 1)) (nI_add _ _) ?_
        refine va_put (D := (dC, dI)) (ci := 1) (v := .int (nI (v + 1))) (ty := .int) (C := RX1) (T := TX1) (N := 12) hx hb hts hi_P tyX1 tyX1_ok nmX1 hown hK hP hD hS 0 rfl rfl 8 (by decide) (hts (.fieldLink RX1 78 "PacketStore" "passed" "I") (by decide +kernel)) (fun _ h9 => h9) rfl (by decide +kernel) rfl rfl (Nat.le_of_ble_eq_true rfl) dX1_passUnwanted_39 (fun H locs hP hD hS => ?_)
        have hP : va_P (dC, dI) vwCl [(aP, .inr (1, [.ref aR, .ref aX, .int (nI ts), .ref aO, .int (nI os), .int (nI uw), .int fr, .int to, .int (nI (v + 1)), .int (nI co), .int (nI dr), .int (nI de)])), (aR, .inr (0, [.int (nI R), .ref aB, .ref aS, .ref aT, .int (nI (lo % R)), .int (nI (hi - lo)), .int (nI (off hi % R)), .int (nI (off hi - off lo))])), (aT, .inl (cT, R, .inl Tf))] H := hP
        have hD : va_D A [(aP, .inr (1, [.ref aR, .ref aX, .int (nI ts), .ref aO, .int (nI os), .int (nI uw), .int fr, .int to, .int (nI (v + 1)), .int (nI co), .int (nI dr), .int (nI de)])), (aR, .inr (0, [.int (nI R), .ref aB, .ref aS, .ref aT, .int (nI (lo % R)), .int (nI (hi - lo)), .int (nI (off hi % R)), .int (nI (off hi - off lo))])), (aT, .inl (cT, R, .inl Tf))] := hD
        refine lv_goto (tgt := 0) hx hb dX1_passUnwanted_42 (by decide) ?_
        exact ih (v + 1) _ _ _ ⟨⟨by omega, by omega, by omega, fun t h1 h2 => (Nat.lt_or_ge t v).elim (fun q => hj3 t h1 q) (fun q => by rw [show t = v by omega]; exact e29)⟩, hP, hD, hS, lv_sub hl [0] rfl⟩
    · refine zz_if_ne (a := 1) (tgt := 45) hx hb dX1_passUnwanted_29 (by decide) (by decide) (fun c29 => ?_) (fun c29 => ?_)
      · exact W.vret hx hb hr (fun t ht hW => ⟨⟨v, rfl, ⟨hj4, hj2, hj3, Or.inr ⟨c11, e29⟩⟩, by rw [ht]; exact hP, va_K.moved hW.alike hK, hD⟩, hS.F ht⟩) hS.2.2 dX1_passUnwanted_45
      · exact absurd c29 (by decide)
end
section
set_option maxHeartbeats 4000000 in
set_option maxRecDepth 100000 in
/-- put(b) -/
theorem c_P_put (l : Launch) (dC : Nat → ClassId) (dI : Nat → Nat → Nat) (aP aR aX aO ts os uw : Nat) (fr to : Int32) (pw co dr de : Nat) (cX : ClassId) (Xf : Nat → Int32) (b : Int32) (hts5 : ts ≤ 512) (hz : Nat) : Met l yX1_put wsX1_put ({ frames := 0, cells := 0, slots := 0, locals := 0 }) (va_Pc [.ref aP, .int b] (fun U => U.heap.size = hz ∧ va_P (dC, dI) vwCl [(aP, .inr (1, [.ref aR, .ref aX, .int (nI ts), .ref aO, .int (nI os), .int (nI uw), .int fr, .int to, .int (nI pw), .int (nI co), .int (nI dr), .int (nI de)])), (aX, .inl (cX, 512, .inl Xf))] U.heap ∧ va_K (dC, dI) vwCl [(cX, .byte)] U ∧ va_D (fun _ => True) [(aP, .inr (1, [.ref aR, .ref aX, .int (nI ts), .ref aO, .int (nI os), .int (nI uw), .int fr, .int to, .int (nI pw), .int (nI co), .int (nI dr), .int (nI de)])), (aX, .inl (cX, 512, .inl Xf))])) (va_Qi (fun (r : Int32) (u : Nat × (Nat → Int32)) => (512 ≤ ts ∧ r = (-1) ∧ u.1 = ts ∧ u.2 = Xf) ∨ (ts < 512 ∧ r = nI (ts + 1) ∧ u.1 = ts + 1 ∧ u.2 = upd Xf ts (b.toInt8.toInt32))) (fun u t => va_P (dC, dI) vwCl [(aP, .inr (1, [.ref aR, .ref aX, .int (nI u.1), .ref aO, .int (nI os), .int (nI uw), .int fr, .int to, .int (nI pw), .int (nI co), .int (nI dr), .int (nI de)])), (aX, .inl (cX, 512, .inl u.2))] t.heap ∧ va_K (dC, dI) vwCl [(cX, .byte)] t ∧ va_D (va_A [(aP, .inr (1, [.ref aR, .ref aX, .int (nI ts), .ref aO, .int (nI os), .int (nI uw), .int fr, .int to, .int (nI pw), .int (nI co), .int (nI dr), .int (nI de)])), (aX, .inl (cX, 512, .inl Xf))] hz) [(aP, .inr (1, [.ref aR, .ref aX, .int (nI u.1), .ref aO, .int (nI os), .int (nI uw), .int fr, .int to, .int (nI pw), .int (nI co), .int (nI dr), .int (nI de)])), (aX, .inl (cX, 512, .inl u.2))]) (va_A [(aP, .inr (1, [.ref aR, .ref aX, .int (nI ts), .ref aO, .int (nI os), .int (nI uw), .int fr, .int to, .int (nI pw), .int (nI co), .int (nI dr), .int (nI de)])), (aX, .inl (cX, 512, .inl Xf))] hz)) 0 0 (va_A [(aP, .inr (1, [.ref aR, .ref aX, .int (nI ts), .ref aO, .int (nI os), .int (nI uw), .int fr, .int to, .int (nI pw), .int (nI co), .int (nI dr), .int (nI de)])), (aX, .inl (cX, 512, .inl Xf))] hz) := by
  refine Met.ofW (cc := cX1_put) (maxL := 2) (ret := (some .int)) (by decide) rfl ?_
  intro p e s m args below meth c s₁ B hml hv
  obtain ⟨rfl, hsz, hP, hK, hD0⟩ := hv
  have hx := B.exec
  have hb := B.bytes
  have hr := B.returns
  have hts := atoms_spec (ws := wsX1_put) B.pre
  have hown : s.vm.findClass RX1 = some m.cls := findClass_of_methodNamed B.named
  have hlocks := B.notSynchronized
  have hi_P : ∀ w ∈ u_ws RX1 TX1 12, w ∈ wsX1_put := by decide +kernel
  subst hsz
  have hD := hD0.self (sz := s.heap.size)
  generalize hAe : va_A [(aP, .inr (1, [.ref aR, .ref aX, .int (nI ts), .ref aO, .int (nI os), .int (nI uw), .int fr, .int to, .int (nI pw), .int (nI co), .int (nI dr), .int (nI de)])), (aX, .inl (cX, 512, .inl Xf))] s.heap.size = A at hD ⊢
  have hA : ∀ q : Nat, s.heap.size ≤ q → A q := fun q h => by rw [← hAe]; exact Or.inr h
  have hS : va_S A s.heap s.heap [] := va_S.rf
  have hP : va_P (dC, dI) vwCl [(aP, .inr (1, [.ref aR, .ref aX, .int (nI ts), .ref aO, .int (nI os), .int (nI uw), .int fr, .int to, .int (nI pw), .int (nI co), .int (nI dr), .int (nI de)])), (aX, .inl (cX, 512, .inl Xf))] s.heap := hP
  have hl := lv_entry ([.ref aP, .int b]) (n := 2) (Nat.le_of_ble_eq_true rfl)
  rw [lg_entry_eq]
  generalize (lg_sl ([.ref aP, .int b]) ++ List.replicate (2 - (lg_sl ([.ref aP, .int b])).length) Slot.unset).toArray = ls at hl ⊢
  have hl : lv_has ls 2 [(0, .ref aP), (1, .int b)] := hl
  refine lv_aload_n hx hb dX1_put_0 rfl (lv_at hl 0 rfl) ?_
  refine va_get (D := (dC, dI)) (ci := 1) (v := .int (nI ts)) (C := RX1) (T := TX1) (N := 12) hx hb hts hi_P hown hK hP 0 rfl rfl 2 (by decide) (hts (.fieldLink RX1 34 "PacketStore" "textSize" "I") (by decide +kernel)) (fun _ h9 => h9) rfl dX1_put_1 ?_
  refine lv_sipush (v := nI 512) hx hb dX1_put_4 (by decide) ?_
  refine zz_icmp_lt (a := ts) (b := 512) (tgt := 12) hx hb dX1_put_7 (by decide) (by omega) (by omega) (fun c7 => ?_) (fun c7 => ?_)
  · refine lv_aload_n hx hb dX1_put_12 rfl (lv_at hl 0 rfl) ?_
    refine va_get (D := (dC, dI)) (ci := 1) (v := .ref aX) (C := RX1) (T := TX1) (N := 12) hx hb hts hi_P hown hK hP 0 rfl rfl 1 (by decide) (hts (.fieldLink RX1 27 "PacketStore" "text" "[B") (by decide +kernel)) (fun _ h9 => h9) rfl dX1_put_13 ?_
    refine lv_aload_n hx hb dX1_put_16 rfl (lv_at hl 0 rfl) ?_
    refine va_get (D := (dC, dI)) (ci := 1) (v := .int (nI ts)) (C := RX1) (T := TX1) (N := 12) hx hb hts hi_P hown hK hP 0 rfl rfl 2 (by decide) (hts (.fieldLink RX1 34 "PacketStore" "textSize" "I") (by decide +kernel)) (fun _ h9 => h9) rfl dX1_put_17 ?_
    refine lv_iload_n hx hb dX1_put_20 rfl (lv_at hl 1 rfl) ?_
    refine lv_i2b (v := b.toInt8.toInt32) hx hb dX1_put_21 rfl ?_
    refine zz_bast hx hb hK hP hD hS 1 0 rfl rfl (j := ts) (x := ((b.toInt8.toInt32))) (by omega) (by omega) dX1_put_22 (fun H locs hP hD hS => ?_)
    have hP : va_P (dC, dI) vwCl [(aP, .inr (1, [.ref aR, .ref aX, .int (nI ts), .ref aO, .int (nI os), .int (nI uw), .int fr, .int to, .int (nI pw), .int (nI co), .int (nI dr), .int (nI de)])), (aX, .inl (cX, 512, .inl (upd Xf ts (((b.toInt8.toInt32)).toInt8.toInt32))))] H := hP
    have hD : va_D A [(aP, .inr (1, [.ref aR, .ref aX, .int (nI ts), .ref aO, .int (nI os), .int (nI uw), .int fr, .int to, .int (nI pw), .int (nI co), .int (nI dr), .int (nI de)])), (aX, .inl (cX, 512, .inl (upd Xf ts (((b.toInt8.toInt32)).toInt8.toInt32))))] := hD
    rw [zz_i8] at hP hD
    have hP : va_P (dC, dI) vwCl [(aP, .inr (1, [.ref aR, .ref aX, .int (nI ts), .ref aO, .int (nI os), .int (nI uw), .int fr, .int to, .int (nI pw), .int (nI co), .int (nI dr), .int (nI de)])), (aX, .inl (cX, 512, .inl (upd Xf ts (b.toInt8.toInt32))))] H := hP
    have hD : va_D A [(aP, .inr (1, [.ref aR, .ref aX, .int (nI ts), .ref aO, .int (nI os), .int (nI uw), .int fr, .int to, .int (nI pw), .int (nI co), .int (nI dr), .int (nI de)])), (aX, .inl (cX, 512, .inl (upd Xf ts (b.toInt8.toInt32))))] := hD
    refine lv_aload_n hx hb dX1_put_23 rfl (lv_at hl 0 rfl) ?_
    refine lv_dup hx hb dX1_put_24 rfl ?_
    refine va_get (D := (dC, dI)) (ci := 1) (v := .int (nI ts)) (C := RX1) (T := TX1) (N := 12) hx hb hts hi_P hown hK hP 0 rfl rfl 2 (by decide) (hts (.fieldLink RX1 34 "PacketStore" "textSize" "I") (by decide +kernel)) (fun _ h9 => h9) rfl dX1_put_25 ?_
    refine lv_iconst (v := nI 1) hx hb dX1_put_28 (by decide) ?_
    refine lv_iadd hx hb dX1_put_29 ?_
    refine zz_as (nI (ts + 1)) (nI_add _ _) ?_
    refine va_put (D := (dC, dI)) (ci := 1) (v := .int (nI (ts + 1))) (ty := .int) (C := RX1) (T := TX1) (N := 12) hx hb hts hi_P tyX1 tyX1_ok nmX1 hown hK hP hD hS 0 rfl rfl 2 (by decide) (hts (.fieldLink RX1 34 "PacketStore" "textSize" "I") (by decide +kernel)) (fun _ h9 => h9) rfl (by decide +kernel) rfl rfl (Nat.le_of_ble_eq_true rfl) dX1_put_30 (fun H locs hP hD hS => ?_)
    have hP : va_P (dC, dI) vwCl [(aP, .inr (1, [.ref aR, .ref aX, .int (nI (ts + 1)), .ref aO, .int (nI os), .int (nI uw), .int fr, .int to, .int (nI pw), .int (nI co), .int (nI dr), .int (nI de)])), (aX, .inl (cX, 512, .inl (upd Xf ts (b.toInt8.toInt32))))] H := hP
    have hD : va_D A [(aP, .inr (1, [.ref aR, .ref aX, .int (nI (ts + 1)), .ref aO, .int (nI os), .int (nI uw), .int fr, .int to, .int (nI pw), .int (nI co), .int (nI dr), .int (nI de)])), (aX, .inl (cX, 512, .inl (upd Xf ts (b.toInt8.toInt32))))] := hD
    refine lv_aload_n hx hb dX1_put_33 rfl (lv_at hl 0 rfl) ?_
    refine va_get (D := (dC, dI)) (ci := 1) (v := .int (nI (ts + 1))) (C := RX1) (T := TX1) (N := 12) hx hb hts hi_P hown hK hP 0 rfl rfl 2 (by decide) (hts (.fieldLink RX1 34 "PacketStore" "textSize" "I") (by decide +kernel)) (fun _ h9 => h9) rfl dX1_put_34 ?_
    exact W.iret (v := (nI (ts + 1))) hx hb hr (fun t ht hW => ⟨⟨_, (ts + 1, upd Xf ts (b.toInt8.toInt32)), rfl, Or.inr ⟨by omega, rfl, rfl, rfl⟩, by rw [ht]; exact hP, va_K.moved hW.alike hK, hD⟩, hS.F ht⟩) hS.2.2 dX1_put_37
  · refine lv_iconst (v := (-1)) hx hb dX1_put_10 (by decide) ?_
    exact W.iret (v := ((-1))) hx hb hr (fun t ht hW => ⟨⟨_, (ts, Xf), rfl, Or.inl ⟨c7, rfl, rfl, rfl⟩, by rw [ht]; exact hP, va_K.moved hW.alike hK, hD⟩, hS.F ht⟩) hS.2.2 dX1_put_11
set_option maxHeartbeats 4000000 in
set_option maxRecDepth 100000 in
/-- keep(time), the text is empty -/
theorem c_P_keep_none (l : Launch) (dC : Nat → ClassId) (dI : Nat → Nat → Nat) (aP aR aX aO ts os uw : Nat) (fr to : Int32) (pw co dr de : Nat) (tim : Int32) (h0 : ts = 0) (hz : Nat) : Met l yX1_keep wsX1_keep ({ frames := 0, cells := 0, slots := 0, locals := 0 }) (va_Pc [.ref aP, .int tim] (fun U => U.heap.size = hz ∧ va_P (dC, dI) vwCl [(aP, .inr (1, [.ref aR, .ref aX, .int (nI ts), .ref aO, .int (nI os), .int (nI uw), .int fr, .int to, .int (nI pw), .int (nI co), .int (nI dr), .int (nI de)]))] U.heap ∧ va_K (dC, dI) vwCl [] U ∧ va_D (fun _ => True) [(aP, .inr (1, [.ref aR, .ref aX, .int (nI ts), .ref aO, .int (nI os), .int (nI uw), .int fr, .int to, .int (nI pw), .int (nI co), .int (nI dr), .int (nI de)]))])) (va_Qi (fun (r : Int32) (u : Unit) => r = (-1)) (fun u t => va_P (dC, dI) vwCl [(aP, .inr (1, [.ref aR, .ref aX, .int (nI 0), .ref aO, .int (nI os), .int (nI uw), .int fr, .int to, .int (nI pw), .int (nI co), .int (nI dr), .int (nI de)]))] t.heap ∧ va_K (dC, dI) vwCl [] t ∧ va_D (va_A [(aP, .inr (1, [.ref aR, .ref aX, .int (nI ts), .ref aO, .int (nI os), .int (nI uw), .int fr, .int to, .int (nI pw), .int (nI co), .int (nI dr), .int (nI de)]))] hz) [(aP, .inr (1, [.ref aR, .ref aX, .int (nI 0), .ref aO, .int (nI os), .int (nI uw), .int fr, .int to, .int (nI pw), .int (nI co), .int (nI dr), .int (nI de)]))]) (va_A [(aP, .inr (1, [.ref aR, .ref aX, .int (nI ts), .ref aO, .int (nI os), .int (nI uw), .int fr, .int to, .int (nI pw), .int (nI co), .int (nI dr), .int (nI de)]))] hz)) 0 0 (va_A [(aP, .inr (1, [.ref aR, .ref aX, .int (nI ts), .ref aO, .int (nI os), .int (nI uw), .int fr, .int to, .int (nI pw), .int (nI co), .int (nI dr), .int (nI de)]))] hz) := by
  refine Met.ofW (cc := cX1_keep) (maxL := 4) (ret := (some .int)) (by decide) rfl ?_
  intro p e s m args below meth c s₁ B hml hv
  obtain ⟨rfl, hsz, hP, hK, hD0⟩ := hv
  have hx := B.exec
  have hb := B.bytes
  have hr := B.returns
  have hts := atoms_spec (ws := wsX1_keep) B.pre
  have hown : s.vm.findClass RX1 = some m.cls := findClass_of_methodNamed B.named
  have hlocks := B.notSynchronized
  have hi_P : ∀ w ∈ u_ws RX1 TX1 12, w ∈ wsX1_keep := by decide +kernel
  subst hsz
  have hD := hD0.self (sz := s.heap.size)
  generalize hAe : va_A [(aP, .inr (1, [.ref aR, .ref aX, .int (nI ts), .ref aO, .int (nI os), .int (nI uw), .int fr, .int to, .int (nI pw), .int (nI co), .int (nI dr), .int (nI de)]))] s.heap.size = A at hD ⊢
  have hA : ∀ q : Nat, s.heap.size ≤ q → A q := fun q h => by rw [← hAe]; exact Or.inr h
  have hS : va_S A s.heap s.heap [] := va_S.rf
  have hP : va_P (dC, dI) vwCl [(aP, .inr (1, [.ref aR, .ref aX, .int (nI ts), .ref aO, .int (nI os), .int (nI uw), .int fr, .int to, .int (nI pw), .int (nI co), .int (nI dr), .int (nI de)]))] s.heap := hP
  have hl := lv_entry ([.ref aP, .int tim]) (n := 4) (Nat.le_of_ble_eq_true rfl)
  rw [lg_entry_eq]
  generalize (lg_sl ([.ref aP, .int tim]) ++ List.replicate (4 - (lg_sl ([.ref aP, .int tim])).length) Slot.unset).toArray = ls at hl ⊢
  have hl : lv_has ls 4 [(0, .ref aP), (1, .int tim)] := hl
  refine lv_aload_n hx hb dX1_keep_0 rfl (lv_at hl 0 rfl) ?_
  refine va_get (D := (dC, dI)) (ci := 1) (v := .int (nI ts)) (C := RX1) (T := TX1) (N := 12) hx hb hts hi_P hown hK hP 0 rfl rfl 2 (by decide) (hts (.fieldLink RX1 34 "PacketStore" "textSize" "I") (by decide +kernel)) (fun _ h9 => h9) rfl dX1_keep_1 ?_
  refine lv_istore_n (lv' := [(2, .int (nI ts)), (0, .ref aP), (1, .int tim)]) hx hb dX1_keep_4 rfl hl (by decide) rfl (fun ls hl => ?_)
  refine lv_aload_n hx hb dX1_keep_5 rfl (lv_at hl 1 rfl) ?_
  refine lv_iconst (v := nI 0) hx hb dX1_keep_6 (by decide) ?_
  refine va_put (D := (dC, dI)) (ci := 1) (v := .int (nI 0)) (ty := .int) (C := RX1) (T := TX1) (N := 12) hx hb hts hi_P tyX1 tyX1_ok nmX1 hown hK hP hD hS 0 rfl rfl 2 (by decide) (hts (.fieldLink RX1 34 "PacketStore" "textSize" "I") (by decide +kernel)) (fun _ h9 => h9) rfl (by decide +kernel) rfl rfl (Nat.le_of_ble_eq_true rfl) dX1_keep_7 (fun H locs hP hD hS => ?_)
  have hP : va_P (dC, dI) vwCl [(aP, .inr (1, [.ref aR, .ref aX, .int (nI 0), .ref aO, .int (nI os), .int (nI uw), .int fr, .int to, .int (nI pw), .int (nI co), .int (nI dr), .int (nI de)]))] H := hP
  have hD : va_D A [(aP, .inr (1, [.ref aR, .ref aX, .int (nI 0), .ref aO, .int (nI os), .int (nI uw), .int fr, .int to, .int (nI pw), .int (nI co), .int (nI dr), .int (nI de)]))] := hD
  refine lv_iload_n hx hb dX1_keep_10 rfl (lv_at hl 0 rfl) ?_
  refine zz_if_ne (a := ts) (tgt := 16) hx hb dX1_keep_11 (by decide) (by omega) (fun c11 => ?_) (fun c11 => ?_)
  · exact absurd h0 c11
  · refine lv_iconst (v := (-1)) hx hb dX1_keep_14 (by decide) ?_
    exact W.iret (v := ((-1))) hx hb hr (fun t ht hW => ⟨⟨_, (), rfl, rfl, by rw [ht]; exact hP, va_K.moved hW.alike hK, hD⟩, hS.F ht⟩) hS.2.2 dX1_keep_15
set_option maxHeartbeats 4000000 in
set_option maxRecDepth 100000 in
/-- keep(time), the text has more than the room -/
theorem c_P_keep_full (l : Launch) (dC : Nat → ClassId) (dI : Nat → Nat → Nat) (aP aR aX aO ts os uw : Nat) (fr to : Int32) (pw co dr de : Nat) (aB aS aT R o n en us : Nat) (tim : Int32) (h0 : R < ts) (h5 : ts ≤ 512) (hz : Nat) : Met l yX1_keep wsX1_keep ({ frames := 1, cells := 0, slots := 0, locals := 20 }) (va_Pc [.ref aP, .int tim] (fun U => U.heap.size = hz ∧ va_P (dC, dI) vwCl [(aP, .inr (1, [.ref aR, .ref aX, .int (nI ts), .ref aO, .int (nI os), .int (nI uw), .int fr, .int to, .int (nI pw), .int (nI co), .int (nI dr), .int (nI de)])), (aR, .inr (0, [.int (nI R), .ref aB, .ref aS, .ref aT, .int (nI o), .int (nI n), .int (nI en), .int (nI us)]))] U.heap ∧ va_K (dC, dI) vwCl [] U ∧ va_D (fun _ => True) [(aP, .inr (1, [.ref aR, .ref aX, .int (nI ts), .ref aO, .int (nI os), .int (nI uw), .int fr, .int to, .int (nI pw), .int (nI co), .int (nI dr), .int (nI de)])), (aR, .inr (0, [.int (nI R), .ref aB, .ref aS, .ref aT, .int (nI o), .int (nI n), .int (nI en), .int (nI us)]))])) (va_Qi (fun (r : Int32) (u : Unit) => r = (-2)) (fun u t => va_P (dC, dI) vwCl [(aP, .inr (1, [.ref aR, .ref aX, .int (nI 0), .ref aO, .int (nI os), .int (nI uw), .int fr, .int to, .int (nI pw), .int (nI co), .int (nI dr), .int (nI de)])), (aR, .inr (0, [.int (nI R), .ref aB, .ref aS, .ref aT, .int (nI o), .int (nI n), .int (nI en), .int (nI us)]))] t.heap ∧ va_K (dC, dI) vwCl [] t ∧ va_D (va_A [(aP, .inr (1, [.ref aR, .ref aX, .int (nI ts), .ref aO, .int (nI os), .int (nI uw), .int fr, .int to, .int (nI pw), .int (nI co), .int (nI dr), .int (nI de)])), (aR, .inr (0, [.int (nI R), .ref aB, .ref aS, .ref aT, .int (nI o), .int (nI n), .int (nI en), .int (nI us)]))] hz) [(aP, .inr (1, [.ref aR, .ref aX, .int (nI 0), .ref aO, .int (nI os), .int (nI uw), .int fr, .int to, .int (nI pw), .int (nI co), .int (nI dr), .int (nI de)])), (aR, .inr (0, [.int (nI R), .ref aB, .ref aS, .ref aT, .int (nI o), .int (nI n), .int (nI en), .int (nI us)]))]) (va_A [(aP, .inr (1, [.ref aR, .ref aX, .int (nI ts), .ref aO, .int (nI os), .int (nI uw), .int fr, .int to, .int (nI pw), .int (nI co), .int (nI dr), .int (nI de)])), (aR, .inr (0, [.int (nI R), .ref aB, .ref aS, .ref aT, .int (nI o), .int (nI n), .int (nI en), .int (nI us)]))] hz)) 0 0 (va_A [(aP, .inr (1, [.ref aR, .ref aX, .int (nI ts), .ref aO, .int (nI os), .int (nI uw), .int fr, .int to, .int (nI pw), .int (nI co), .int (nI dr), .int (nI de)])), (aR, .inr (0, [.int (nI R), .ref aB, .ref aS, .ref aT, .int (nI o), .int (nI n), .int (nI en), .int (nI us)]))] hz) := by
  refine Met.ofW (cc := cX1_keep) (maxL := 4) (ret := (some .int)) (by decide) rfl ?_
  intro p e s m args below meth c s₁ B hml hv
  obtain ⟨rfl, hsz, hP, hK, hD0⟩ := hv
  have hx := B.exec
  have hb := B.bytes
  have hr := B.returns
  have hts := atoms_spec (ws := wsX1_keep) B.pre
  have hown : s.vm.findClass RX1 = some m.cls := findClass_of_methodNamed B.named
  have hlocks := B.notSynchronized
  have hi_P : ∀ w ∈ u_ws RX1 TX1 12, w ∈ wsX1_keep := by decide +kernel
  subst hsz
  have hD := hD0.self (sz := s.heap.size)
  generalize hAe : va_A [(aP, .inr (1, [.ref aR, .ref aX, .int (nI ts), .ref aO, .int (nI os), .int (nI uw), .int fr, .int to, .int (nI pw), .int (nI co), .int (nI dr), .int (nI de)])), (aR, .inr (0, [.int (nI R), .ref aB, .ref aS, .ref aT, .int (nI o), .int (nI n), .int (nI en), .int (nI us)]))] s.heap.size = A at hD ⊢
  have hA : ∀ q : Nat, s.heap.size ≤ q → A q := fun q h => by rw [← hAe]; exact Or.inr h
  have hS : va_S A s.heap s.heap [] := va_S.rf
  have hP : va_P (dC, dI) vwCl [(aP, .inr (1, [.ref aR, .ref aX, .int (nI ts), .ref aO, .int (nI os), .int (nI uw), .int fr, .int to, .int (nI pw), .int (nI co), .int (nI dr), .int (nI de)])), (aR, .inr (0, [.int (nI R), .ref aB, .ref aS, .ref aT, .int (nI o), .int (nI n), .int (nI en), .int (nI us)]))] s.heap := hP
  have hl := lv_entry ([.ref aP, .int tim]) (n := 4) (Nat.le_of_ble_eq_true rfl)
  rw [lg_entry_eq]
  generalize (lg_sl ([.ref aP, .int tim]) ++ List.replicate (4 - (lg_sl ([.ref aP, .int tim])).length) Slot.unset).toArray = ls at hl ⊢
  have hl : lv_has ls 4 [(0, .ref aP), (1, .int tim)] := hl
  refine lv_aload_n hx hb dX1_keep_0 rfl (lv_at hl 0 rfl) ?_
  refine va_get (D := (dC, dI)) (ci := 1) (v := .int (nI ts)) (C := RX1) (T := TX1) (N := 12) hx hb hts hi_P hown hK hP 0 rfl rfl 2 (by decide) (hts (.fieldLink RX1 34 "PacketStore" "textSize" "I") (by decide +kernel)) (fun _ h9 => h9) rfl dX1_keep_1 ?_
  refine lv_istore_n (lv' := [(2, .int (nI ts)), (0, .ref aP), (1, .int tim)]) hx hb dX1_keep_4 rfl hl (by decide) rfl (fun ls hl => ?_)
  refine lv_aload_n hx hb dX1_keep_5 rfl (lv_at hl 1 rfl) ?_
  refine lv_iconst (v := nI 0) hx hb dX1_keep_6 (by decide) ?_
  refine va_put (D := (dC, dI)) (ci := 1) (v := .int (nI 0)) (ty := .int) (C := RX1) (T := TX1) (N := 12) hx hb hts hi_P tyX1 tyX1_ok nmX1 hown hK hP hD hS 0 rfl rfl 2 (by decide) (hts (.fieldLink RX1 34 "PacketStore" "textSize" "I") (by decide +kernel)) (fun _ h9 => h9) rfl (by decide +kernel) rfl rfl (Nat.le_of_ble_eq_true rfl) dX1_keep_7 (fun H locs hP hD hS => ?_)
  have hP : va_P (dC, dI) vwCl [(aP, .inr (1, [.ref aR, .ref aX, .int (nI 0), .ref aO, .int (nI os), .int (nI uw), .int fr, .int to, .int (nI pw), .int (nI co), .int (nI dr), .int (nI de)])), (aR, .inr (0, [.int (nI R), .ref aB, .ref aS, .ref aT, .int (nI o), .int (nI n), .int (nI en), .int (nI us)]))] H := hP
  have hD : va_D A [(aP, .inr (1, [.ref aR, .ref aX, .int (nI 0), .ref aO, .int (nI os), .int (nI uw), .int fr, .int to, .int (nI pw), .int (nI co), .int (nI dr), .int (nI de)])), (aR, .inr (0, [.int (nI R), .ref aB, .ref aS, .ref aT, .int (nI o), .int (nI n), .int (nI en), .int (nI us)]))] := hD
  refine lv_iload_n hx hb dX1_keep_10 rfl (lv_at hl 0 rfl) ?_
  refine zz_if_ne (a := ts) (tgt := 16) hx hb dX1_keep_11 (by decide) (by omega) (fun c11 => ?_) (fun c11 => ?_)
  · refine lv_iload_n hx hb dX1_keep_16 rfl (lv_at hl 0 rfl) ?_
    refine lv_aload_n hx hb dX1_keep_17 rfl (lv_at hl 1 rfl) ?_
    refine va_get (D := (dC, dI)) (ci := 1) (v := .ref aR) (C := RX1) (T := TX1) (N := 12) hx hb hts hi_P hown hK hP 0 rfl rfl 0 (by decide) (hts (.fieldLink RX1 23 "PacketStore" "ring" "LPacketStore$Ring;") (by decide +kernel)) (fun _ h9 => h9) rfl dX1_keep_18 ?_
    refine zz_callR (As := []) (rest := [.int (nI ts)]) ⟨hx, hb, hml, hown, hts⟩ (c_R_room l dC dI aR aB aS aT R o n en us) (cwV 0 hts gX1_keep_X0_room rfl rfl rfl (by decide +kernel) ⟨Nat.le_of_ble_eq_true rfl, Nat.le_of_ble_eq_true rfl⟩) (hP.sub [1] rfl) (hK.sub [] rfl) 0 rfl rfl rfl rfl hl.1 rfl (Nat.le_of_ble_eq_true rfl) dX1_keep_21 ⟨Nat.zero_le _, Nat.zero_le _⟩ (fun r21 e21 => ?_)
    subst e21
    refine zz_icmp_le (a := ts) (b := R) (tgt := 30) hx hb dX1_keep_24 (by decide) (by omega) (by omega) (fun c24 => ?_) (fun c24 => ?_)
    · exact absurd c24 (by omega)
    · refine lv_bipush (v := (-2)) hx hb dX1_keep_27 (by decide) ?_
      exact W.iret (v := ((-2))) hx hb hr (fun t ht hW => ⟨⟨_, (), rfl, rfl, by rw [ht]; exact hP, va_K.moved hW.alike hK, hD⟩, hS.F ht⟩) hS.2.2 dX1_keep_29
  · exact absurd c11 (by omega)
set_option maxHeartbeats 4000000 in
set_option maxRecDepth 100000 in
/-- keep(time) -/
theorem c_P_keep_ok (l : Launch) (dC : Nat → ClassId) (dI : Nat → Nat → Nat) (aP aR aB aS aT aX aO R lo hi : Nat) (off : Nat → Nat) (ts os uw : Nat) (fr to : Int32) (pa co dr de : Nat) (cB cS cT cX : ClassId) (Bf Sf Tf Xf : Nat → Int32) (tim : Int32) (tm bz tz : Nat → Int32) (hok : rg_ok R lo hi off) (hrep : rg_rep R lo hi off tm bz Bf Sf Tf) (hpa : pa ≤ hi) (h1 : 1 ≤ ts) (h2 : ts ≤ R) (h5 : ts ≤ 512) (htx : ∀ t, t < ts → Xf t = (tz t).toInt8.toInt32) (hz : Nat) : Met l yX1_keep wsX1_keep ({ frames := 6, cells := 0, slots := 0, locals := 128 }) (va_Pc [.ref aP, .int tim] (fun U => U.heap.size = hz ∧ va_P (dC, dI) vwCl [(aP, .inr (1, [.ref aR, .ref aX, .int (nI ts), .ref aO, .int (nI os), .int (nI uw), .int fr, .int to, .int (nI (pa - lo)), .int (nI co), .int (nI dr), .int (nI de)])), (aR, .inr (0, [.int (nI R), .ref aB, .ref aS, .ref aT, .int (nI (lo % R)), .int (nI (hi - lo)), .int (nI (off hi % R)), .int (nI (off hi - off lo))])), (aB, .inl (cB, R, .inl Bf)), (aS, .inl (cS, R, .inl Sf)), (aT, .inl (cT, R, .inl Tf)), (aX, .inl (cX, 512, .inl Xf))] U.heap ∧ va_K (dC, dI) vwCl [(cB, .byte), (cS, .int), (cT, .int), (cX, .byte)] U ∧ va_D (fun _ => True) [(aP, .inr (1, [.ref aR, .ref aX, .int (nI ts), .ref aO, .int (nI os), .int (nI uw), .int fr, .int to, .int (nI (pa - lo)), .int (nI co), .int (nI dr), .int (nI de)])), (aR, .inr (0, [.int (nI R), .ref aB, .ref aS, .ref aT, .int (nI (lo % R)), .int (nI (hi - lo)), .int (nI (off hi % R)), .int (nI (off hi - off lo))])), (aB, .inl (cB, R, .inl Bf)), (aS, .inl (cS, R, .inl Sf)), (aT, .inl (cT, R, .inl Tf)), (aX, .inl (cX, 512, .inl Xf))])) (va_Qi (fun (r : Int32) (u : Nat × (Nat → Int32)) => r = nI (u.1 - lo) ∧ lo ≤ u.1 ∧ u.1 ≤ hi ∧ off hi - off u.1 + ts ≤ R ∧ (∀ k, lo ≤ k → k < u.1 → R < off hi - off k + ts) ∧ rg_rep R u.1 (hi + 1) (zu off (hi + 1) (off hi + ts)) (zu tm hi tim) (zcat bz (off hi) tz) u.2 (upd Sf (hi % R) (nI (off hi % R))) (upd Tf (hi % R) tim)) (fun u t => va_P (dC, dI) vwCl [(aP, .inr (1, [.ref aR, .ref aX, .int (nI 0), .ref aO, .int (nI os), .int (nI uw), .int fr, .int to, .int (nI (pa - u.1)), .int (nI (co + 1)), .int (nI (dr + (u.1 - lo))), .int (nI de)])), (aR, .inr (0, [.int (nI R), .ref aB, .ref aS, .ref aT, .int (nI (u.1 % R)), .int (nI (hi + 1 - u.1)), .int (nI ((off hi + ts) % R)), .int (nI (off hi + ts - off u.1))])), (aB, .inl (cB, R, .inl u.2)), (aS, .inl (cS, R, .inl (upd Sf (hi % R) (nI (off hi % R))))), (aT, .inl (cT, R, .inl (upd Tf (hi % R) tim))), (aX, .inl (cX, 512, .inl Xf))] t.heap ∧ va_K (dC, dI) vwCl [(cB, .byte), (cS, .int), (cT, .int), (cX, .byte)] t ∧ va_D (va_A [(aP, .inr (1, [.ref aR, .ref aX, .int (nI ts), .ref aO, .int (nI os), .int (nI uw), .int fr, .int to, .int (nI (pa - lo)), .int (nI co), .int (nI dr), .int (nI de)])), (aR, .inr (0, [.int (nI R), .ref aB, .ref aS, .ref aT, .int (nI (lo % R)), .int (nI (hi - lo)), .int (nI (off hi % R)), .int (nI (off hi - off lo))])), (aB, .inl (cB, R, .inl Bf)), (aS, .inl (cS, R, .inl Sf)), (aT, .inl (cT, R, .inl Tf)), (aX, .inl (cX, 512, .inl Xf))] hz) [(aP, .inr (1, [.ref aR, .ref aX, .int (nI 0), .ref aO, .int (nI os), .int (nI uw), .int fr, .int to, .int (nI (pa - u.1)), .int (nI (co + 1)), .int (nI (dr + (u.1 - lo))), .int (nI de)])), (aR, .inr (0, [.int (nI R), .ref aB, .ref aS, .ref aT, .int (nI (u.1 % R)), .int (nI (hi + 1 - u.1)), .int (nI ((off hi + ts) % R)), .int (nI (off hi + ts - off u.1))])), (aB, .inl (cB, R, .inl u.2)), (aS, .inl (cS, R, .inl (upd Sf (hi % R) (nI (off hi % R))))), (aT, .inl (cT, R, .inl (upd Tf (hi % R) tim))), (aX, .inl (cX, 512, .inl Xf))]) (va_A [(aP, .inr (1, [.ref aR, .ref aX, .int (nI ts), .ref aO, .int (nI os), .int (nI uw), .int fr, .int to, .int (nI (pa - lo)), .int (nI co), .int (nI dr), .int (nI de)])), (aR, .inr (0, [.int (nI R), .ref aB, .ref aS, .ref aT, .int (nI (lo % R)), .int (nI (hi - lo)), .int (nI (off hi % R)), .int (nI (off hi - off lo))])), (aB, .inl (cB, R, .inl Bf)), (aS, .inl (cS, R, .inl Sf)), (aT, .inl (cT, R, .inl Tf)), (aX, .inl (cX, 512, .inl Xf))] hz)) 0 0 (va_A [(aP, .inr (1, [.ref aR, .ref aX, .int (nI ts), .ref aO, .int (nI os), .int (nI uw), .int fr, .int to, .int (nI (pa - lo)), .int (nI co), .int (nI dr), .int (nI de)])), (aR, .inr (0, [.int (nI R), .ref aB, .ref aS, .ref aT, .int (nI (lo % R)), .int (nI (hi - lo)), .int (nI (off hi % R)), .int (nI (off hi - off lo))])), (aB, .inl (cB, R, .inl Bf)), (aS, .inl (cS, R, .inl Sf)), (aT, .inl (cT, R, .inl Tf)), (aX, .inl (cX, 512, .inl Xf))] hz) := by
  refine Met.ofW (cc := cX1_keep) (maxL := 4) (ret := (some .int)) (by decide) rfl ?_
  intro p e s m args below meth c s₁ B hml hv
  obtain ⟨rfl, hsz, hP, hK, hD0⟩ := hv
  have hx := B.exec
  have hb := B.bytes
  have hr := B.returns
  have hts := atoms_spec (ws := wsX1_keep) B.pre
  have hown : s.vm.findClass RX1 = some m.cls := findClass_of_methodNamed B.named
  have hlocks := B.notSynchronized
  have hi_P : ∀ w ∈ u_ws RX1 TX1 12, w ∈ wsX1_keep := by decide +kernel
  subst hsz
  have hD := hD0.self (sz := s.heap.size)
  generalize hAe : va_A [(aP, .inr (1, [.ref aR, .ref aX, .int (nI ts), .ref aO, .int (nI os), .int (nI uw), .int fr, .int to, .int (nI (pa - lo)), .int (nI co), .int (nI dr), .int (nI de)])), (aR, .inr (0, [.int (nI R), .ref aB, .ref aS, .ref aT, .int (nI (lo % R)), .int (nI (hi - lo)), .int (nI (off hi % R)), .int (nI (off hi - off lo))])), (aB, .inl (cB, R, .inl Bf)), (aS, .inl (cS, R, .inl Sf)), (aT, .inl (cT, R, .inl Tf)), (aX, .inl (cX, 512, .inl Xf))] s.heap.size = A at hD ⊢
  have hA : ∀ q : Nat, s.heap.size ≤ q → A q := fun q h => by rw [← hAe]; exact Or.inr h
  have hS : va_S A s.heap s.heap [] := va_S.rf
  have hP : va_P (dC, dI) vwCl [(aP, .inr (1, [.ref aR, .ref aX, .int (nI ts), .ref aO, .int (nI os), .int (nI uw), .int fr, .int to, .int (nI (pa - lo)), .int (nI co), .int (nI dr), .int (nI de)])), (aR, .inr (0, [.int (nI R), .ref aB, .ref aS, .ref aT, .int (nI (lo % R)), .int (nI (hi - lo)), .int (nI (off hi % R)), .int (nI (off hi - off lo))])), (aB, .inl (cB, R, .inl Bf)), (aS, .inl (cS, R, .inl Sf)), (aT, .inl (cT, R, .inl Tf)), (aX, .inl (cX, 512, .inl Xf))] s.heap := hP
  have hl := lv_entry ([.ref aP, .int tim]) (n := 4) (Nat.le_of_ble_eq_true rfl)
  rw [lg_entry_eq]
  generalize (lg_sl ([.ref aP, .int tim]) ++ List.replicate (4 - (lg_sl ([.ref aP, .int tim])).length) Slot.unset).toArray = ls at hl ⊢
  have hl : lv_has ls 4 [(0, .ref aP), (1, .int tim)] := hl
  have hRR := hok.1
  have hll := hok.2.1
  have hcap := hok.2.2.1
  have hgap := hok.gap (Nat.le_refl lo) hll (Nat.le_refl hi)
  refine lv_aload_n hx hb dX1_keep_0 rfl (lv_at hl 0 rfl) ?_
  refine va_get (D := (dC, dI)) (ci := 1) (v := .int (nI ts)) (C := RX1) (T := TX1) (N := 12) hx hb hts hi_P hown hK hP 0 rfl rfl 2 (by decide) (hts (.fieldLink RX1 34 "PacketStore" "textSize" "I") (by decide +kernel)) (fun _ h9 => h9) rfl dX1_keep_1 ?_
  refine lv_istore_n (lv' := [(2, .int (nI ts)), (0, .ref aP), (1, .int tim)]) hx hb dX1_keep_4 rfl hl (by decide) rfl (fun ls hl => ?_)
  refine lv_aload_n hx hb dX1_keep_5 rfl (lv_at hl 1 rfl) ?_
  refine lv_iconst (v := nI 0) hx hb dX1_keep_6 (by decide) ?_
  refine va_put (D := (dC, dI)) (ci := 1) (v := .int (nI 0)) (ty := .int) (C := RX1) (T := TX1) (N := 12) hx hb hts hi_P tyX1 tyX1_ok nmX1 hown hK hP hD hS 0 rfl rfl 2 (by decide) (hts (.fieldLink RX1 34 "PacketStore" "textSize" "I") (by decide +kernel)) (fun _ h9 => h9) rfl (by decide +kernel) rfl rfl (Nat.le_of_ble_eq_true rfl) dX1_keep_7 (fun H locs hP hD hS => ?_)
  have hP : va_P (dC, dI) vwCl [(aP, .inr (1, [.ref aR, .ref aX, .int (nI 0), .ref aO, .int (nI os), .int (nI uw), .int fr, .int to, .int (nI (pa - lo)), .int (nI co), .int (nI dr), .int (nI de)])), (aR, .inr (0, [.int (nI R), .ref aB, .ref aS, .ref aT, .int (nI (lo % R)), .int (nI (hi - lo)), .int (nI (off hi % R)), .int (nI (off hi - off lo))])), (aB, .inl (cB, R, .inl Bf)), (aS, .inl (cS, R, .inl Sf)), (aT, .inl (cT, R, .inl Tf)), (aX, .inl (cX, 512, .inl Xf))] H := hP
  have hD : va_D A [(aP, .inr (1, [.ref aR, .ref aX, .int (nI 0), .ref aO, .int (nI os), .int (nI uw), .int fr, .int to, .int (nI (pa - lo)), .int (nI co), .int (nI dr), .int (nI de)])), (aR, .inr (0, [.int (nI R), .ref aB, .ref aS, .ref aT, .int (nI (lo % R)), .int (nI (hi - lo)), .int (nI (off hi % R)), .int (nI (off hi - off lo))])), (aB, .inl (cB, R, .inl Bf)), (aS, .inl (cS, R, .inl Sf)), (aT, .inl (cT, R, .inl Tf)), (aX, .inl (cX, 512, .inl Xf))] := hD
  refine lv_iload_n hx hb dX1_keep_10 rfl (lv_at hl 0 rfl) ?_
  refine zz_if_ne (a := ts) (tgt := 16) hx hb dX1_keep_11 (by decide) (by omega) (fun c11 => ?_) (fun c11 => ?_)
  · refine lv_iload_n hx hb dX1_keep_16 rfl (lv_at hl 0 rfl) ?_
    refine lv_aload_n hx hb dX1_keep_17 rfl (lv_at hl 1 rfl) ?_
    refine va_get (D := (dC, dI)) (ci := 1) (v := .ref aR) (C := RX1) (T := TX1) (N := 12) hx hb hts hi_P hown hK hP 0 rfl rfl 0 (by decide) (hts (.fieldLink RX1 23 "PacketStore" "ring" "LPacketStore$Ring;") (by decide +kernel)) (fun _ h9 => h9) rfl dX1_keep_18 ?_
    refine zz_callR (As := []) (rest := [.int (nI ts)]) ⟨hx, hb, hml, hown, hts⟩ (c_R_room l dC dI aR aB aS aT R (lo % R) (hi - lo) (off hi % R) (off hi - off lo)) (cwV 0 hts gX1_keep_X0_room rfl rfl rfl (by decide +kernel) ⟨Nat.le_of_ble_eq_true rfl, Nat.le_of_ble_eq_true rfl⟩) (hP.sub [1] rfl) (hK.sub [] rfl) 0 rfl rfl rfl rfl hl.1 rfl (Nat.le_of_ble_eq_true rfl) dX1_keep_21 ⟨Nat.zero_le _, Nat.zero_le _⟩ (fun r21 e21 => ?_)
    subst e21
    refine zz_icmp_le (a := ts) (b := R) (tgt := 30) hx hb dX1_keep_24 (by decide) (by omega) (by omega) (fun c24 => ?_) (fun c24 => ?_)
    · refine lv_aload_n hx hb dX1_keep_30 rfl (lv_at hl 1 rfl) ?_
      refine lv_iload_n hx hb dX1_keep_31 rfl (lv_at hl 0 rfl) ?_
      refine zz_callMi (As := [.int (nI ts)]) (rest := []) (wr := [(aB, .inl (cB, R, .inl Bf)), (aT, .inl (cT, R, .inl Tf)), (aX, .inl (cX, 512, .inl Xf))]) ⟨hx, hb, hml, hown, hts⟩ (c_P_makeRoom l dC dI aP aR aB aS aT aX aO R lo hi off 0 os uw fr to pa co dr de cS Sf ts hok hrep.2.1 hpa (by omega) _) (cwV 1 hts gX1_keep_X1_makeRoom rfl rfl rfl (by decide +kernel) ⟨Nat.le_of_ble_eq_true rfl, Nat.le_of_ble_eq_true rfl⟩) hP hD hK hS hA [0, 1, 3] [2, 4, 5] [1] rfl rfl rfl (by decide) (by decide) (by decide) rfl 0 rfl rfl rfl rfl hl.1 rfl (Nat.le_of_ble_eq_true rfl) dX1_keep_32 ⟨Nat.zero_le _, Nat.zero_le _⟩ (fun r32 u32 H locs e32 hP hD hS => ?_)
      have hP : va_P (dC, dI) vwCl [(aB, .inl (cB, R, .inl Bf)), (aT, .inl (cT, R, .inl Tf)), (aX, .inl (cX, 512, .inl Xf)), (aP, .inr (1, [.ref aR, .ref aX, .int (nI 0), .ref aO, .int (nI os), .int (nI uw), .int fr, .int to, .int (nI (pa - u32)), .int (nI co), .int (nI dr), .int (nI de)])), (aR, .inr (0, [.int (nI R), .ref aB, .ref aS, .ref aT, .int (nI (u32 % R)), .int (nI (hi - u32)), .int (nI (off hi % R)), .int (nI (off hi - off u32))])), (aS, .inl (cS, R, .inl Sf))] H := hP
      have hD : va_D A [(aB, .inl (cB, R, .inl Bf)), (aT, .inl (cT, R, .inl Tf)), (aX, .inl (cX, 512, .inl Xf)), (aP, .inr (1, [.ref aR, .ref aX, .int (nI 0), .ref aO, .int (nI os), .int (nI uw), .int fr, .int to, .int (nI (pa - u32)), .int (nI co), .int (nI dr), .int (nI de)])), (aR, .inr (0, [.int (nI R), .ref aB, .ref aS, .ref aT, .int (nI (u32 % R)), .int (nI (hi - u32)), .int (nI (off hi % R)), .int (nI (off hi - off u32))])), (aS, .inl (cS, R, .inl Sf))] := hD
      obtain ⟨e32r, e32a, e32b, e32c, e32d⟩ := e32
      subst e32r
      have hok2 := hok.drop e32a e32b
      refine lv_istore_n (lv' := [(3, .int (nI (u32 - lo))), (2, .int (nI ts)), (0, .ref aP), (1, .int tim)]) hx hb dX1_keep_35 rfl hl (by decide) rfl (fun ls hl => ?_)
      refine lv_aload_n hx hb dX1_keep_36 rfl (lv_at hl 2 rfl) ?_
      refine va_get (D := (dC, dI)) (ci := 1) (v := .ref aR) (C := RX1) (T := TX1) (N := 12) hx hb hts hi_P hown hK hP 3 rfl rfl 0 (by decide) (hts (.fieldLink RX1 23 "PacketStore" "ring" "LPacketStore$Ring;") (by decide +kernel)) (fun _ h9 => h9) rfl dX1_keep_37 ?_
      refine lv_aload_n hx hb dX1_keep_40 rfl (lv_at hl 2 rfl) ?_
      refine va_get (D := (dC, dI)) (ci := 1) (v := .ref aX) (C := RX1) (T := TX1) (N := 12) hx hb hts hi_P hown hK hP 3 rfl rfl 1 (by decide) (hts (.fieldLink RX1 27 "PacketStore" "text" "[B") (by decide +kernel)) (fun _ h9 => h9) rfl dX1_keep_41 ?_
      refine lv_iload_n hx hb dX1_keep_44 rfl (lv_at hl 1 rfl) ?_
      refine lv_iload_n hx hb dX1_keep_45 rfl (lv_at hl 3 rfl) ?_
      refine zz_callMv (As := [.ref aX, .int (nI ts), .int tim]) (rest := []) (wr := [(aP, .inr (1, [.ref aR, .ref aX, .int (nI 0), .ref aO, .int (nI os), .int (nI uw), .int fr, .int to, .int (nI (pa - u32)), .int (nI co), .int (nI dr), .int (nI de)]))]) ⟨hx, hb, hml, hown, hts⟩ (c_R_add l dC dI aR aB aS aT R u32 hi off cB cS cT cX Bf Sf Tf aX Xf tz ts tim hok2 (by omega) (by omega) e32c htx _) (cwV 3 hts gX1_keep_X0_add rfl rfl rfl (by decide +kernel) ⟨Nat.le_of_ble_eq_true rfl, Nat.le_of_ble_eq_true rfl⟩) hP hD hK hS hA [4, 0, 5, 1, 2] [3] [0, 1, 2, 3] rfl rfl rfl (by decide) (by decide) (by decide) rfl 0 rfl rfl rfl rfl hl.1 rfl (Nat.le_of_ble_eq_true rfl) dX1_keep_46 ⟨Nat.zero_le _, Nat.zero_le _⟩ (fun u46 H locs e46 hP hD hS => ?_)
      have hP : va_P (dC, dI) vwCl [(aP, .inr (1, [.ref aR, .ref aX, .int (nI 0), .ref aO, .int (nI os), .int (nI uw), .int fr, .int to, .int (nI (pa - u32)), .int (nI co), .int (nI dr), .int (nI de)])), (aR, .inr (0, [.int (nI R), .ref aB, .ref aS, .ref aT, .int (nI (u32 % R)), .int (nI (hi + 1 - u32)), .int (nI ((off hi + ts) % R)), .int (nI (off hi + ts - off u32))])), (aB, .inl (cB, R, .inl u46)), (aS, .inl (cS, R, .inl (upd Sf (hi % R) (nI (off hi % R))))), (aT, .inl (cT, R, .inl (upd Tf (hi % R) tim))), (aX, .inl (cX, 512, .inl Xf))] H := hP
      have hD : va_D A [(aP, .inr (1, [.ref aR, .ref aX, .int (nI 0), .ref aO, .int (nI os), .int (nI uw), .int fr, .int to, .int (nI (pa - u32)), .int (nI co), .int (nI dr), .int (nI de)])), (aR, .inr (0, [.int (nI R), .ref aB, .ref aS, .ref aT, .int (nI (u32 % R)), .int (nI (hi + 1 - u32)), .int (nI ((off hi + ts) % R)), .int (nI (off hi + ts - off u32))])), (aB, .inl (cB, R, .inl u46)), (aS, .inl (cS, R, .inl (upd Sf (hi % R) (nI (off hi % R))))), (aT, .inl (cT, R, .inl (upd Tf (hi % R) tim))), (aX, .inl (cX, 512, .inl Xf))] := hD
      refine lv_aload_n hx hb dX1_keep_49 rfl (lv_at hl 2 rfl) ?_
      refine lv_dup hx hb dX1_keep_50 rfl ?_
      refine va_get (D := (dC, dI)) (ci := 1) (v := .int (nI dr)) (C := RX1) (T := TX1) (N := 12) hx hb hts hi_P hown hK hP 0 rfl rfl 10 (by decide) (hts (.fieldLink RX1 50 "PacketStore" "drivenOut" "I") (by decide +kernel)) (fun _ h9 => h9) rfl dX1_keep_51 ?_
      refine lv_iload_n hx hb dX1_keep_54 rfl (lv_at hl 0 rfl) ?_
      refine lv_iadd hx hb dX1_keep_55 ?_
      refine zz_as (nI (dr + (u32 - lo))) (nI_add _ _) ?_
      refine va_put (D := (dC, dI)) (ci := 1) (v := .int (nI (dr + (u32 - lo)))) (ty := .int) (C := RX1) (T := TX1) (N := 12) hx hb hts hi_P tyX1 tyX1_ok nmX1 hown hK hP hD hS 0 rfl rfl 10 (by decide) (hts (.fieldLink RX1 50 "PacketStore" "drivenOut" "I") (by decide +kernel)) (fun _ h9 => h9) rfl (by decide +kernel) rfl rfl (Nat.le_of_ble_eq_true rfl) dX1_keep_56 (fun H locs hP hD hS => ?_)
      have hP : va_P (dC, dI) vwCl [(aP, .inr (1, [.ref aR, .ref aX, .int (nI 0), .ref aO, .int (nI os), .int (nI uw), .int fr, .int to, .int (nI (pa - u32)), .int (nI co), .int (nI (dr + (u32 - lo))), .int (nI de)])), (aR, .inr (0, [.int (nI R), .ref aB, .ref aS, .ref aT, .int (nI (u32 % R)), .int (nI (hi + 1 - u32)), .int (nI ((off hi + ts) % R)), .int (nI (off hi + ts - off u32))])), (aB, .inl (cB, R, .inl u46)), (aS, .inl (cS, R, .inl (upd Sf (hi % R) (nI (off hi % R))))), (aT, .inl (cT, R, .inl (upd Tf (hi % R) tim))), (aX, .inl (cX, 512, .inl Xf))] H := hP
      have hD : va_D A [(aP, .inr (1, [.ref aR, .ref aX, .int (nI 0), .ref aO, .int (nI os), .int (nI uw), .int fr, .int to, .int (nI (pa - u32)), .int (nI co), .int (nI (dr + (u32 - lo))), .int (nI de)])), (aR, .inr (0, [.int (nI R), .ref aB, .ref aS, .ref aT, .int (nI (u32 % R)), .int (nI (hi + 1 - u32)), .int (nI ((off hi + ts) % R)), .int (nI (off hi + ts - off u32))])), (aB, .inl (cB, R, .inl u46)), (aS, .inl (cS, R, .inl (upd Sf (hi % R) (nI (off hi % R))))), (aT, .inl (cT, R, .inl (upd Tf (hi % R) tim))), (aX, .inl (cX, 512, .inl Xf))] := hD
      refine lv_aload_n hx hb dX1_keep_59 rfl (lv_at hl 2 rfl) ?_
      refine lv_dup hx hb dX1_keep_60 rfl ?_
      refine va_get (D := (dC, dI)) (ci := 1) (v := .int (nI co)) (C := RX1) (T := TX1) (N := 12) hx hb hts hi_P hown hK hP 0 rfl rfl 9 (by decide) (hts (.fieldLink RX1 53 "PacketStore" "come" "I") (by decide +kernel)) (fun _ h9 => h9) rfl dX1_keep_61 ?_
      refine lv_iconst (v := nI 1) hx hb dX1_keep_64 (by decide) ?_
      refine lv_iadd hx hb dX1_keep_65 ?_
      refine zz_as (nI (co + 1)) (nI_add _ _) ?_
      refine va_put (D := (dC, dI)) (ci := 1) (v := .int (nI (co + 1))) (ty := .int) (C := RX1) (T := TX1) (N := 12) hx hb hts hi_P tyX1 tyX1_ok nmX1 hown hK hP hD hS 0 rfl rfl 9 (by decide) (hts (.fieldLink RX1 53 "PacketStore" "come" "I") (by decide +kernel)) (fun _ h9 => h9) rfl (by decide +kernel) rfl rfl (Nat.le_of_ble_eq_true rfl) dX1_keep_66 (fun H locs hP hD hS => ?_)
      have hP : va_P (dC, dI) vwCl [(aP, .inr (1, [.ref aR, .ref aX, .int (nI 0), .ref aO, .int (nI os), .int (nI uw), .int fr, .int to, .int (nI (pa - u32)), .int (nI (co + 1)), .int (nI (dr + (u32 - lo))), .int (nI de)])), (aR, .inr (0, [.int (nI R), .ref aB, .ref aS, .ref aT, .int (nI (u32 % R)), .int (nI (hi + 1 - u32)), .int (nI ((off hi + ts) % R)), .int (nI (off hi + ts - off u32))])), (aB, .inl (cB, R, .inl u46)), (aS, .inl (cS, R, .inl (upd Sf (hi % R) (nI (off hi % R))))), (aT, .inl (cT, R, .inl (upd Tf (hi % R) tim))), (aX, .inl (cX, 512, .inl Xf))] H := hP
      have hD : va_D A [(aP, .inr (1, [.ref aR, .ref aX, .int (nI 0), .ref aO, .int (nI os), .int (nI uw), .int fr, .int to, .int (nI (pa - u32)), .int (nI (co + 1)), .int (nI (dr + (u32 - lo))), .int (nI de)])), (aR, .inr (0, [.int (nI R), .ref aB, .ref aS, .ref aT, .int (nI (u32 % R)), .int (nI (hi + 1 - u32)), .int (nI ((off hi + ts) % R)), .int (nI (off hi + ts - off u32))])), (aB, .inl (cB, R, .inl u46)), (aS, .inl (cS, R, .inl (upd Sf (hi % R) (nI (off hi % R))))), (aT, .inl (cT, R, .inl (upd Tf (hi % R) tim))), (aX, .inl (cX, 512, .inl Xf))] := hD
      refine lv_iload_n hx hb dX1_keep_69 rfl (lv_at hl 0 rfl) ?_
      have hP := hP.sub (ws' := [(aP, .inr (1, [.ref aR, .ref aX, .int (nI 0), .ref aO, .int (nI os), .int (nI uw), .int fr, .int to, .int (nI (pa - u32)), .int (nI (co + 1)), .int (nI (dr + (u32 - lo))), .int (nI de)])), (aR, .inr (0, [.int (nI R), .ref aB, .ref aS, .ref aT, .int (nI (u32 % R)), .int (nI (hi + 1 - u32)), .int (nI ((off hi + ts) % R)), .int (nI (off hi + ts - off u32))])), (aB, .inl (cB, R, .inl u46)), (aS, .inl (cS, R, .inl (upd Sf (hi % R) (nI (off hi % R))))), (aT, .inl (cT, R, .inl (upd Tf (hi % R) tim))), (aX, .inl (cX, 512, .inl Xf))]) [0, 1, 2, 3, 4, 5] rfl
      have hD := hD.sub (ws' := [(aP, .inr (1, [.ref aR, .ref aX, .int (nI 0), .ref aO, .int (nI os), .int (nI uw), .int fr, .int to, .int (nI (pa - u32)), .int (nI (co + 1)), .int (nI (dr + (u32 - lo))), .int (nI de)])), (aR, .inr (0, [.int (nI R), .ref aB, .ref aS, .ref aT, .int (nI (u32 % R)), .int (nI (hi + 1 - u32)), .int (nI ((off hi + ts) % R)), .int (nI (off hi + ts - off u32))])), (aB, .inl (cB, R, .inl u46)), (aS, .inl (cS, R, .inl (upd Sf (hi % R) (nI (off hi % R))))), (aT, .inl (cT, R, .inl (upd Tf (hi % R) tim))), (aX, .inl (cX, 512, .inl Xf))]) [0, 1, 2, 3, 4, 5] (by decide) rfl
      exact W.iret (v := (nI (u32 - lo))) hx hb hr (fun t ht hW => ⟨⟨_, (u32, u46), rfl, ⟨rfl, e32a, e32b, e32c, e32d, (hrep.drop hok e32a e32b).add hok2 h1 e32c e46.1 e46.2⟩, by rw [ht]; exact hP, va_K.moved hW.alike hK, hD⟩, hS.F ht⟩) hS.2.2 dX1_keep_70
    · exact absurd c24 (by omega)
  · exact absurd c11 (by omega)
set_option maxHeartbeats 4000000 in
set_option maxRecDepth 100000 in
/-- delete(time) -/
theorem c_P_delete (l : Launch) (dC : Nat → ClassId) (dI : Nat → Nat → Nat) (aP aR aB aS aT aX aO R lo hi : Nat) (off : Nat → Nat) (ts os uw : Nat) (fr to : Int32) (pa co dr de : Nat) (cS cT : ClassId) (Sf Tf tm : Nat → Int32) (tim : Int32) (hok : rg_ok R lo hi off) (hst : ∀ i, lo ≤ i → i < hi → Sf (i % R) = nI (off i % R)) (htm : ∀ i, lo ≤ i → i < hi → Tf (i % R) = tm i) (hpa : pa ≤ hi) (hz : Nat) : Met l yX1_delete wsX1_delete ({ frames := 5, cells := 0, slots := 0, locals := 105 }) (va_Pc [.ref aP, .int tim] (fun U => U.heap.size = hz ∧ va_P (dC, dI) vwCl [(aP, .inr (1, [.ref aR, .ref aX, .int (nI ts), .ref aO, .int (nI os), .int (nI uw), .int fr, .int to, .int (nI (pa - lo)), .int (nI co), .int (nI dr), .int (nI de)])), (aR, .inr (0, [.int (nI R), .ref aB, .ref aS, .ref aT, .int (nI (lo % R)), .int (nI (hi - lo)), .int (nI (off hi % R)), .int (nI (off hi - off lo))])), (aS, .inl (cS, R, .inl Sf)), (aT, .inl (cT, R, .inl Tf))] U.heap ∧ va_K (dC, dI) vwCl [(cS, .int), (cT, .int)] U ∧ va_D (fun _ => True) [(aP, .inr (1, [.ref aR, .ref aX, .int (nI ts), .ref aO, .int (nI os), .int (nI uw), .int fr, .int to, .int (nI (pa - lo)), .int (nI co), .int (nI dr), .int (nI de)])), (aR, .inr (0, [.int (nI R), .ref aB, .ref aS, .ref aT, .int (nI (lo % R)), .int (nI (hi - lo)), .int (nI (off hi % R)), .int (nI (off hi - off lo))])), (aS, .inl (cS, R, .inl Sf)), (aT, .inl (cT, R, .inl Tf))])) (va_Qi (fun (r : Int32) (u : Nat) => r = nI (u - lo) ∧ lo ≤ u ∧ u ≤ hi ∧ (∀ k, lo ≤ k → k < u → ¬ tim < tm k) ∧ (u < hi → tim < tm u)) (fun u t => va_P (dC, dI) vwCl [(aP, .inr (1, [.ref aR, .ref aX, .int (nI ts), .ref aO, .int (nI os), .int (nI uw), .int fr, .int to, .int (nI (pa - u)), .int (nI co), .int (nI dr), .int (nI (de + (u - lo)))])), (aR, .inr (0, [.int (nI R), .ref aB, .ref aS, .ref aT, .int (nI (u % R)), .int (nI (hi - u)), .int (nI (off hi % R)), .int (nI (off hi - off u))])), (aS, .inl (cS, R, .inl Sf)), (aT, .inl (cT, R, .inl Tf))] t.heap ∧ va_K (dC, dI) vwCl [(cS, .int), (cT, .int)] t ∧ va_D (va_A [(aP, .inr (1, [.ref aR, .ref aX, .int (nI ts), .ref aO, .int (nI os), .int (nI uw), .int fr, .int to, .int (nI (pa - lo)), .int (nI co), .int (nI dr), .int (nI de)])), (aR, .inr (0, [.int (nI R), .ref aB, .ref aS, .ref aT, .int (nI (lo % R)), .int (nI (hi - lo)), .int (nI (off hi % R)), .int (nI (off hi - off lo))])), (aS, .inl (cS, R, .inl Sf)), (aT, .inl (cT, R, .inl Tf))] hz) [(aP, .inr (1, [.ref aR, .ref aX, .int (nI ts), .ref aO, .int (nI os), .int (nI uw), .int fr, .int to, .int (nI (pa - u)), .int (nI co), .int (nI dr), .int (nI (de + (u - lo)))])), (aR, .inr (0, [.int (nI R), .ref aB, .ref aS, .ref aT, .int (nI (u % R)), .int (nI (hi - u)), .int (nI (off hi % R)), .int (nI (off hi - off u))])), (aS, .inl (cS, R, .inl Sf)), (aT, .inl (cT, R, .inl Tf))]) (va_A [(aP, .inr (1, [.ref aR, .ref aX, .int (nI ts), .ref aO, .int (nI os), .int (nI uw), .int fr, .int to, .int (nI (pa - lo)), .int (nI co), .int (nI dr), .int (nI de)])), (aR, .inr (0, [.int (nI R), .ref aB, .ref aS, .ref aT, .int (nI (lo % R)), .int (nI (hi - lo)), .int (nI (off hi % R)), .int (nI (off hi - off lo))])), (aS, .inl (cS, R, .inl Sf)), (aT, .inl (cT, R, .inl Tf))] hz)) 0 0 (va_A [(aP, .inr (1, [.ref aR, .ref aX, .int (nI ts), .ref aO, .int (nI os), .int (nI uw), .int fr, .int to, .int (nI (pa - lo)), .int (nI co), .int (nI dr), .int (nI de)])), (aR, .inr (0, [.int (nI R), .ref aB, .ref aS, .ref aT, .int (nI (lo % R)), .int (nI (hi - lo)), .int (nI (off hi % R)), .int (nI (off hi - off lo))])), (aS, .inl (cS, R, .inl Sf)), (aT, .inl (cT, R, .inl Tf))] hz) := by
  refine Met.ofW (cc := cX1_delete) (maxL := 4) (ret := (some .int)) (by decide) rfl ?_
  intro p e s m args below meth c s₁ B hml hv
  obtain ⟨rfl, hsz, hP, hK, hD0⟩ := hv
  have hx := B.exec
  have hb := B.bytes
  have hr := B.returns
  have hts := atoms_spec (ws := wsX1_delete) B.pre
  have hown : s.vm.findClass RX1 = some m.cls := findClass_of_methodNamed B.named
  have hlocks := B.notSynchronized
  have hi_P : ∀ w ∈ u_ws RX1 TX1 12, w ∈ wsX1_delete := by decide +kernel
  subst hsz
  have hD := hD0.self (sz := s.heap.size)
  generalize hAe : va_A [(aP, .inr (1, [.ref aR, .ref aX, .int (nI ts), .ref aO, .int (nI os), .int (nI uw), .int fr, .int to, .int (nI (pa - lo)), .int (nI co), .int (nI dr), .int (nI de)])), (aR, .inr (0, [.int (nI R), .ref aB, .ref aS, .ref aT, .int (nI (lo % R)), .int (nI (hi - lo)), .int (nI (off hi % R)), .int (nI (off hi - off lo))])), (aS, .inl (cS, R, .inl Sf)), (aT, .inl (cT, R, .inl Tf))] s.heap.size = A at hD ⊢
  have hA : ∀ q : Nat, s.heap.size ≤ q → A q := fun q h => by rw [← hAe]; exact Or.inr h
  have hS : va_S A s.heap s.heap [] := va_S.rf
  have hP : va_P (dC, dI) vwCl [(aP, .inr (1, [.ref aR, .ref aX, .int (nI ts), .ref aO, .int (nI os), .int (nI uw), .int fr, .int to, .int (nI (pa - lo)), .int (nI co), .int (nI dr), .int (nI de)])), (aR, .inr (0, [.int (nI R), .ref aB, .ref aS, .ref aT, .int (nI (lo % R)), .int (nI (hi - lo)), .int (nI (off hi % R)), .int (nI (off hi - off lo))])), (aS, .inl (cS, R, .inl Sf)), (aT, .inl (cT, R, .inl Tf))] s.heap := hP
  have hl := lv_entry ([.ref aP, .int tim]) (n := 4) (Nat.le_of_ble_eq_true rfl)
  rw [lg_entry_eq]
  generalize (lg_sl ([.ref aP, .int tim]) ++ List.replicate (4 - (lg_sl ([.ref aP, .int tim])).length) Slot.unset).toArray = ls at hl ⊢
  have hl : lv_has ls 4 [(0, .ref aP), (1, .int tim)] := hl
  have hRR := hok.1
  have hll := hok.2.1
  have hcap := hok.2.2.1
  have hgap := hok.gap (Nat.le_refl lo) hll (Nat.le_refl hi)
  refine lv_aload_n hx hb dX1_delete_0 rfl (lv_at hl 0 rfl) ?_
  refine va_get (D := (dC, dI)) (ci := 1) (v := .ref aR) (C := RX1) (T := TX1) (N := 12) hx hb hts hi_P hown hK hP 0 rfl rfl 0 (by decide) (hts (.fieldLink RX1 23 "PacketStore" "ring" "LPacketStore$Ring;") (by decide +kernel)) (fun _ h9 => h9) rfl dX1_delete_1 ?_
  refine zz_callR (As := []) (rest := []) ⟨hx, hb, hml, hown, hts⟩ (c_R_packets l dC dI aR aB aS aT R (lo % R) (hi - lo) (off hi % R) (off hi - off lo)) (cwV 0 hts gX1_delete_X0_packets rfl rfl rfl (by decide +kernel) ⟨Nat.le_of_ble_eq_true rfl, Nat.le_of_ble_eq_true rfl⟩) (hP.sub [1] rfl) (hK.sub [] rfl) 0 rfl rfl rfl rfl hl.1 rfl (Nat.le_of_ble_eq_true rfl) dX1_delete_4 ⟨Nat.zero_le _, Nat.zero_le _⟩ (fun r4 e4 => ?_)
  subst e4
  refine lv_istore_n (lv' := [(2, .int (nI (hi - lo))), (0, .ref aP), (1, .int tim)]) hx hb dX1_delete_7 rfl hl (by decide) rfl (fun ls hl => ?_)
  refine lv_iconst (v := nI 0) hx hb dX1_delete_8 (by decide) ?_
  refine lv_istore_n (lv' := [(3, .int (nI 0)), (2, .int (nI (hi - lo))), (0, .ref aP), (1, .int tim)]) hx hb dX1_delete_9 rfl hl (by decide) rfl (fun ls hl => ?_)
  have hP := hP.sub (ws' := [(aT, .inl (cT, R, .inl Tf)), (aP, .inr (1, [.ref aR, .ref aX, .int (nI ts), .ref aO, .int (nI os), .int (nI uw), .int fr, .int to, .int (nI (pa - lo)), .int (nI co), .int (nI dr), .int (nI de)])), (aR, .inr (0, [.int (nI R), .ref aB, .ref aS, .ref aT, .int (nI (lo % R)), .int (nI (hi - lo)), .int (nI (off hi % R)), .int (nI (off hi - off lo))])), (aS, .inl (cS, R, .inl Sf))]) [3, 0, 1, 2] rfl
  have hD := hD.sub (ws' := [(aT, .inl (cT, R, .inl Tf)), (aP, .inr (1, [.ref aR, .ref aX, .int (nI ts), .ref aO, .int (nI os), .int (nI uw), .int fr, .int to, .int (nI (pa - lo)), .int (nI co), .int (nI dr), .int (nI de)])), (aR, .inr (0, [.int (nI R), .ref aB, .ref aS, .ref aT, .int (nI (lo % R)), .int (nI (hi - lo)), .int (nI (off hi % R)), .int (nI (off hi - off lo))])), (aS, .inl (cS, R, .inl Sf))]) [3, 0, 1, 2] (by decide) rfl
  refine zz_loop (σ := Nat) (fun n v H locs ls => (n + v = hi - lo + 1 ∧ v ≤ hi - lo ∧ ∀ k, lo ≤ k → k < lo + v → ¬ tim < tm k) ∧ va_P (dC, dI) vwCl [(aT, .inl (cT, R, .inl Tf)), (aP, .inr (1, [.ref aR, .ref aX, .int (nI ts), .ref aO, .int (nI os), .int (nI uw), .int fr, .int to, .int (nI (pa - (lo + v))), .int (nI co), .int (nI dr), .int (nI de)])), (aR, .inr (0, [.int (nI R), .ref aB, .ref aS, .ref aT, .int (nI ((lo + v) % R)), .int (nI (hi - (lo + v))), .int (nI (off hi % R)), .int (nI (off hi - off (lo + v)))])), (aS, .inl (cS, R, .inl Sf))] H ∧ va_D A [(aT, .inl (cT, R, .inl Tf)), (aP, .inr (1, [.ref aR, .ref aX, .int (nI ts), .ref aO, .int (nI os), .int (nI uw), .int fr, .int to, .int (nI (pa - (lo + v))), .int (nI co), .int (nI dr), .int (nI de)])), (aR, .inr (0, [.int (nI R), .ref aB, .ref aS, .ref aT, .int (nI ((lo + v) % R)), .int (nI (hi - (lo + v))), .int (nI (off hi % R)), .int (nI (off hi - off (lo + v)))])), (aS, .inl (cS, R, .inl Sf))] ∧ va_S A s.heap H locs ∧ lv_has ls 4 [(3, .int (nI v)), (0, .ref aP), (1, .int tim), (2, .int (nI (hi - lo)))]) (fun v H locs ls h => ?_) (fun n v H locs ls h ih => ?_) (hi - lo + 1) 0 _ _ _ ⟨⟨rfl, Nat.zero_le _, fun k h1 h2 => absurd h2 (Nat.not_lt.mpr h1)⟩, hP, hD, hS, lv_sub hl [0, 2, 3, 1] rfl⟩
  · obtain ⟨⟨h1, h2, -⟩, -⟩ := h
    omega
  obtain ⟨⟨hj1, hj2, hj3⟩, hP, hD, hS, hl⟩ := h
  have hok2 := hok.drop (Nat.le_add_right lo v) (show lo + v ≤ hi by omega)
  have hgap2 := hok2.gap (Nat.le_refl _) hok2.2.1 (Nat.le_refl hi)
  have hcap2 := hok2.2.2.1
  have hP : va_P (dC, dI) vwCl [(aT, .inl (cT, R, .inl Tf)), (aP, .inr (1, [.ref aR, .ref aX, .int (nI ts), .ref aO, .int (nI os), .int (nI uw), .int fr, .int to, .int (nI (pa - (lo + v))), .int (nI co), .int (nI dr), .int (nI de)])), (aR, .inr (0, [.int (nI R), .ref aB, .ref aS, .ref aT, .int (nI ((lo + v) % R)), .int (nI (hi - (lo + v))), .int (nI (off hi % R)), .int (nI (off hi - off (lo + v)))])), (aS, .inl (cS, R, .inl Sf))] H := hP
  have hD : va_D A [(aT, .inl (cT, R, .inl Tf)), (aP, .inr (1, [.ref aR, .ref aX, .int (nI ts), .ref aO, .int (nI os), .int (nI uw), .int fr, .int to, .int (nI (pa - (lo + v))), .int (nI co), .int (nI dr), .int (nI de)])), (aR, .inr (0, [.int (nI R), .ref aB, .ref aS, .ref aT, .int (nI ((lo + v) % R)), .int (nI (hi - (lo + v))), .int (nI (off hi % R)), .int (nI (off hi - off (lo + v)))])), (aS, .inl (cS, R, .inl Sf))] := hD
  have hl : lv_has ls 4 [(3, .int (nI v)), (0, .ref aP), (1, .int tim), (2, .int (nI (hi - lo)))] := hl
  refine lv_iload_n hx hb dX1_delete_10 rfl (lv_at hl 0 rfl) ?_
  refine lv_iload_n hx hb dX1_delete_11 rfl (lv_at hl 3 rfl) ?_
  refine zz_icmp_ge (a := v) (b := hi - lo) (tgt := 37) hx hb dX1_delete_12 (by decide) (by omega) (by omega) (fun c12 => ?_) (fun c12 => ?_)
  · refine lv_aload_n hx hb dX1_delete_37 rfl (lv_at hl 1 rfl) ?_
    refine lv_dup hx hb dX1_delete_38 rfl ?_
    refine va_get (D := (dC, dI)) (ci := 1) (v := .int (nI de)) (C := RX1) (T := TX1) (N := 12) hx hb hts hi_P hown hK hP 1 rfl rfl 11 (by decide) (hts (.fieldLink RX1 65 "PacketStore" "deleted" "I") (by decide +kernel)) (fun _ h9 => h9) rfl dX1_delete_39 ?_
    refine lv_iload_n hx hb dX1_delete_42 rfl (lv_at hl 0 rfl) ?_
    refine lv_iadd hx hb dX1_delete_43 ?_
    refine zz_as (nI (de + v)) (nI_add _ _) ?_
    refine zz_as (nI (de + (lo + v - lo))) (congrArg nI (by omega)) ?_
    refine va_put (D := (dC, dI)) (ci := 1) (v := .int (nI (de + (lo + v - lo)))) (ty := .int) (C := RX1) (T := TX1) (N := 12) hx hb hts hi_P tyX1 tyX1_ok nmX1 hown hK hP hD hS 1 rfl rfl 11 (by decide) (hts (.fieldLink RX1 65 "PacketStore" "deleted" "I") (by decide +kernel)) (fun _ h9 => h9) rfl (by decide +kernel) rfl rfl (Nat.le_of_ble_eq_true rfl) dX1_delete_44 (fun H locs hP hD hS => ?_)
    have hP : va_P (dC, dI) vwCl [(aT, .inl (cT, R, .inl Tf)), (aP, .inr (1, [.ref aR, .ref aX, .int (nI ts), .ref aO, .int (nI os), .int (nI uw), .int fr, .int to, .int (nI (pa - (lo + v))), .int (nI co), .int (nI dr), .int (nI (de + (lo + v - lo)))])), (aR, .inr (0, [.int (nI R), .ref aB, .ref aS, .ref aT, .int (nI ((lo + v) % R)), .int (nI (hi - (lo + v))), .int (nI (off hi % R)), .int (nI (off hi - off (lo + v)))])), (aS, .inl (cS, R, .inl Sf))] H := hP
    have hD : va_D A [(aT, .inl (cT, R, .inl Tf)), (aP, .inr (1, [.ref aR, .ref aX, .int (nI ts), .ref aO, .int (nI os), .int (nI uw), .int fr, .int to, .int (nI (pa - (lo + v))), .int (nI co), .int (nI dr), .int (nI (de + (lo + v - lo)))])), (aR, .inr (0, [.int (nI R), .ref aB, .ref aS, .ref aT, .int (nI ((lo + v) % R)), .int (nI (hi - (lo + v))), .int (nI (off hi % R)), .int (nI (off hi - off (lo + v)))])), (aS, .inl (cS, R, .inl Sf))] := hD
    refine lv_iload_n hx hb dX1_delete_47 rfl (lv_at hl 0 rfl) ?_
    have hP := hP.sub (ws' := [(aP, .inr (1, [.ref aR, .ref aX, .int (nI ts), .ref aO, .int (nI os), .int (nI uw), .int fr, .int to, .int (nI (pa - (lo + v))), .int (nI co), .int (nI dr), .int (nI (de + (lo + v - lo)))])), (aR, .inr (0, [.int (nI R), .ref aB, .ref aS, .ref aT, .int (nI ((lo + v) % R)), .int (nI (hi - (lo + v))), .int (nI (off hi % R)), .int (nI (off hi - off (lo + v)))])), (aS, .inl (cS, R, .inl Sf)), (aT, .inl (cT, R, .inl Tf))]) [1, 2, 3, 0] rfl
    have hD := hD.sub (ws' := [(aP, .inr (1, [.ref aR, .ref aX, .int (nI ts), .ref aO, .int (nI os), .int (nI uw), .int fr, .int to, .int (nI (pa - (lo + v))), .int (nI co), .int (nI dr), .int (nI (de + (lo + v - lo)))])), (aR, .inr (0, [.int (nI R), .ref aB, .ref aS, .ref aT, .int (nI ((lo + v) % R)), .int (nI (hi - (lo + v))), .int (nI (off hi % R)), .int (nI (off hi - off (lo + v)))])), (aS, .inl (cS, R, .inl Sf)), (aT, .inl (cT, R, .inl Tf))]) [1, 2, 3, 0] (by decide) rfl
    exact W.iret (v := (nI v)) hx hb hr (fun t ht hW => ⟨⟨_, lo + v, rfl, ⟨congrArg nI (by omega), by omega, by omega, hj3, fun h => absurd h (by omega)⟩, by rw [ht]; exact hP, va_K.moved hW.alike hK, hD⟩, hS.F ht⟩) hS.2.2 dX1_delete_48
  · refine lv_aload_n hx hb dX1_delete_15 rfl (lv_at hl 1 rfl) ?_
    refine va_get (D := (dC, dI)) (ci := 1) (v := .ref aR) (C := RX1) (T := TX1) (N := 12) hx hb hts hi_P hown hK hP 1 rfl rfl 0 (by decide) (hts (.fieldLink RX1 23 "PacketStore" "ring" "LPacketStore$Ring;") (by decide +kernel)) (fun _ h9 => h9) rfl dX1_delete_16 ?_
    refine lv_iconst (v := nI 0) hx hb dX1_delete_19 (by decide) ?_
    refine zz_callR (As := [.int (nI 0)]) (rest := []) ⟨hx, hb, hml, hown, hts⟩ (c_R_timeOf l dC dI aR aB aS aT R ((lo + v) % R) (hi - (lo + v)) (off hi % R) (off hi - off (lo + v)) cT Tf 0 (Nat.mod_lt _ (by omega)) (by omega) (by omega)) (cwV 1 hts gX1_delete_X0_timeOf rfl rfl rfl (by decide +kernel) ⟨Nat.le_of_ble_eq_true rfl, Nat.le_of_ble_eq_true rfl⟩) (hP.sub [2, 0] rfl) (hK.sub [1] rfl) 0 rfl rfl rfl rfl hl.1 rfl (Nat.le_of_ble_eq_true rfl) dX1_delete_20 ⟨Nat.zero_le _, Nat.zero_le _⟩ (fun r20 e20 => ?_)
    subst e20
    refine zz_as (tm (lo + v + 0)) (by rw [Nat.mod_add_mod]; exact htm (lo + v + 0) (by omega) (by omega)) ?_
    refine lv_iload_n hx hb dX1_delete_23 rfl (lv_at hl 2 rfl) ?_
    refine lv_icmp_gt (tgt := 37) hx hb dX1_delete_24 (by decide) (fun c24 => ?_) (fun c24 => ?_)
    · refine lv_aload_n hx hb dX1_delete_37 rfl (lv_at hl 1 rfl) ?_
      refine lv_dup hx hb dX1_delete_38 rfl ?_
      refine va_get (D := (dC, dI)) (ci := 1) (v := .int (nI de)) (C := RX1) (T := TX1) (N := 12) hx hb hts hi_P hown hK hP 1 rfl rfl 11 (by decide) (hts (.fieldLink RX1 65 "PacketStore" "deleted" "I") (by decide +kernel)) (fun _ h9 => h9) rfl dX1_delete_39 ?_
      refine lv_iload_n hx hb dX1_delete_42 rfl (lv_at hl 0 rfl) ?_
      refine lv_iadd hx hb dX1_delete_43 ?_
      refine zz_as (nI (de + v)) (nI_add _ _) ?_
      refine zz_as (nI (de + (lo + v - lo))) (congrArg nI (by omega)) ?_
      refine va_put (D := (dC, dI)) (ci := 1) (v := .int (nI (de + (lo + v - lo)))) (ty := .int) (C := RX1) (T := TX1) (N := 12) hx hb hts hi_P tyX1 tyX1_ok nmX1 hown hK hP hD hS 1 rfl rfl 11 (by decide) (hts (.fieldLink RX1 65 "PacketStore" "deleted" "I") (by decide +kernel)) (fun _ h9 => h9) rfl (by decide +kernel) rfl rfl (Nat.le_of_ble_eq_true rfl) dX1_delete_44 (fun H locs hP hD hS => ?_)
      have hP : va_P (dC, dI) vwCl [(aT, .inl (cT, R, .inl Tf)), (aP, .inr (1, [.ref aR, .ref aX, .int (nI ts), .ref aO, .int (nI os), .int (nI uw), .int fr, .int to, .int (nI (pa - (lo + v))), .int (nI co), .int (nI dr), .int (nI (de + (lo + v - lo)))])), (aR, .inr (0, [.int (nI R), .ref aB, .ref aS, .ref aT, .int (nI ((lo + v) % R)), .int (nI (hi - (lo + v))), .int (nI (off hi % R)), .int (nI (off hi - off (lo + v)))])), (aS, .inl (cS, R, .inl Sf))] H := hP
      have hD : va_D A [(aT, .inl (cT, R, .inl Tf)), (aP, .inr (1, [.ref aR, .ref aX, .int (nI ts), .ref aO, .int (nI os), .int (nI uw), .int fr, .int to, .int (nI (pa - (lo + v))), .int (nI co), .int (nI dr), .int (nI (de + (lo + v - lo)))])), (aR, .inr (0, [.int (nI R), .ref aB, .ref aS, .ref aT, .int (nI ((lo + v) % R)), .int (nI (hi - (lo + v))), .int (nI (off hi % R)), .int (nI (off hi - off (lo + v)))])), (aS, .inl (cS, R, .inl Sf))] := hD
      refine lv_iload_n hx hb dX1_delete_47 rfl (lv_at hl 0 rfl) ?_
      have hP := hP.sub (ws' := [(aP, .inr (1, [.ref aR, .ref aX, .int (nI ts), .ref aO, .int (nI os), .int (nI uw), .int fr, .int to, .int (nI (pa - (lo + v))), .int (nI co), .int (nI dr), .int (nI (de + (lo + v - lo)))])), (aR, .inr (0, [.int (nI R), .ref aB, .ref aS, .ref aT, .int (nI ((lo + v) % R)), .int (nI (hi - (lo + v))), .int (nI (off hi % R)), .int (nI (off hi - off (lo + v)))])), (aS, .inl (cS, R, .inl Sf)), (aT, .inl (cT, R, .inl Tf))]) [1, 2, 3, 0] rfl
      have hD := hD.sub (ws' := [(aP, .inr (1, [.ref aR, .ref aX, .int (nI ts), .ref aO, .int (nI os), .int (nI uw), .int fr, .int to, .int (nI (pa - (lo + v))), .int (nI co), .int (nI dr), .int (nI (de + (lo + v - lo)))])), (aR, .inr (0, [.int (nI R), .ref aB, .ref aS, .ref aT, .int (nI ((lo + v) % R)), .int (nI (hi - (lo + v))), .int (nI (off hi % R)), .int (nI (off hi - off (lo + v)))])), (aS, .inl (cS, R, .inl Sf)), (aT, .inl (cT, R, .inl Tf))]) [1, 2, 3, 0] (by decide) rfl
      exact W.iret (v := (nI v)) hx hb hr (fun t ht hW => ⟨⟨_, lo + v, rfl, ⟨congrArg nI (by omega), by omega, by omega, hj3, fun _ => c24⟩, by rw [ht]; exact hP, va_K.moved hW.alike hK, hD⟩, hS.F ht⟩) hS.2.2 dX1_delete_48
    · refine lv_aload_n hx hb dX1_delete_27 rfl (lv_at hl 1 rfl) ?_
      refine zz_callMv (As := []) (rest := []) (wr := [(aT, .inl (cT, R, .inl Tf))]) ⟨hx, hb, hml, hown, hts⟩ (c_P_dropOldest l dC dI aP aR aB aS aT aX aO R (lo + v) hi off ts os uw fr to pa co dr de cS Sf hok2 (fun i a b => hst i (by omega) b) (by omega) (by omega) _) (cwV 0 hts gX1_delete_X1_dropOldest rfl rfl rfl (by decide +kernel) ⟨Nat.le_of_ble_eq_true rfl, Nat.le_of_ble_eq_true rfl⟩) hP hD hK hS hA [1, 2, 3] [0] [0] rfl rfl rfl (by decide) (by decide) (by decide) rfl 0 rfl rfl rfl rfl hl.1 rfl (Nat.le_of_ble_eq_true rfl) dX1_delete_28 ⟨Nat.zero_le _, Nat.zero_le _⟩ (fun u28 H locs e28 hP hD hS => ?_)
      have hP : va_P (dC, dI) vwCl [(aT, .inl (cT, R, .inl Tf)), (aP, .inr (1, [.ref aR, .ref aX, .int (nI ts), .ref aO, .int (nI os), .int (nI uw), .int fr, .int to, .int (nI (pa - (lo + v + 1))), .int (nI co), .int (nI dr), .int (nI de)])), (aR, .inr (0, [.int (nI R), .ref aB, .ref aS, .ref aT, .int (nI ((lo + v + 1) % R)), .int (nI (hi - (lo + v + 1))), .int (nI (off hi % R)), .int (nI (off hi - off (lo + v + 1)))])), (aS, .inl (cS, R, .inl Sf))] H := hP
      have hD : va_D A [(aT, .inl (cT, R, .inl Tf)), (aP, .inr (1, [.ref aR, .ref aX, .int (nI ts), .ref aO, .int (nI os), .int (nI uw), .int fr, .int to, .int (nI (pa - (lo + v + 1))), .int (nI co), .int (nI dr), .int (nI de)])), (aR, .inr (0, [.int (nI R), .ref aB, .ref aS, .ref aT, .int (nI ((lo + v + 1) % R)), .int (nI (hi - (lo + v + 1))), .int (nI (off hi % R)), .int (nI (off hi - off (lo + v + 1)))])), (aS, .inl (cS, R, .inl Sf))] := hD
      refine lv_iinc (v := nI (v + 1)) (lv' := [(3, .int (nI (v + 1))), (0, .ref aP), (1, .int tim), (2, .int (nI (hi - lo)))]) hx hb dX1_delete_31 hl (k := 0) rfl (show nI v + 1 = nI (v + 1) from nI_1 _) (by decide) rfl (fun ls hl => ?_)
      refine lv_goto (tgt := 10) hx hb dX1_delete_34 (by decide) ?_
      exact ih (v + 1) _ _ _ ⟨⟨by omega, by omega, fun k h1 h2 => (Nat.lt_or_ge k (lo + v)).elim (fun q => hj3 k h1 q) (fun q => by rw [show k = lo + v by omega]; exact c24)⟩, hP, hD, hS, lv_sub hl [0, 1, 2, 3] rfl⟩
set_option maxHeartbeats 4000000 in
set_option maxRecDepth 100000 in
/-- begin(from, to) -/
theorem c_P_begin (l : Launch) (dC : Nat → ClassId) (dI : Nat → Nat → Nat) (aP aR aX aO ts os uw : Nat) (fr to : Int32) (pw co dr de : Nat) (f2 t2 : Int32) (huw : uw ≤ 1) (hz : Nat) : Met l yX1_begin wsX1_begin ({ frames := 0, cells := 0, slots := 0, locals := 0 }) (va_Pc [.ref aP, .int f2, .int t2] (fun U => U.heap.size = hz ∧ va_P (dC, dI) vwCl [(aP, .inr (1, [.ref aR, .ref aX, .int (nI ts), .ref aO, .int (nI os), .int (nI uw), .int fr, .int to, .int (nI pw), .int (nI co), .int (nI dr), .int (nI de)]))] U.heap ∧ va_K (dC, dI) vwCl [] U ∧ va_D (fun _ => True) [(aP, .inr (1, [.ref aR, .ref aX, .int (nI ts), .ref aO, .int (nI os), .int (nI uw), .int fr, .int to, .int (nI pw), .int (nI co), .int (nI dr), .int (nI de)]))])) (va_Qi (fun (r : Int32) (u : Nat × Int32 × Int32 × Nat) => (uw ≠ 0 ∧ r = nI 0 ∧ u = (uw, fr, to, pw)) ∨ (uw = 0 ∧ r = nI 1 ∧ u = (1, f2, t2, 0))) (fun u t => va_P (dC, dI) vwCl [(aP, .inr (1, [.ref aR, .ref aX, .int (nI ts), .ref aO, .int (nI os), .int (nI u.1), .int u.2.1, .int u.2.2.1, .int (nI u.2.2.2), .int (nI co), .int (nI dr), .int (nI de)]))] t.heap ∧ va_K (dC, dI) vwCl [] t ∧ va_D (va_A [(aP, .inr (1, [.ref aR, .ref aX, .int (nI ts), .ref aO, .int (nI os), .int (nI uw), .int fr, .int to, .int (nI pw), .int (nI co), .int (nI dr), .int (nI de)]))] hz) [(aP, .inr (1, [.ref aR, .ref aX, .int (nI ts), .ref aO, .int (nI os), .int (nI u.1), .int u.2.1, .int u.2.2.1, .int (nI u.2.2.2), .int (nI co), .int (nI dr), .int (nI de)]))]) (va_A [(aP, .inr (1, [.ref aR, .ref aX, .int (nI ts), .ref aO, .int (nI os), .int (nI uw), .int fr, .int to, .int (nI pw), .int (nI co), .int (nI dr), .int (nI de)]))] hz)) 0 0 (va_A [(aP, .inr (1, [.ref aR, .ref aX, .int (nI ts), .ref aO, .int (nI os), .int (nI uw), .int fr, .int to, .int (nI pw), .int (nI co), .int (nI dr), .int (nI de)]))] hz) := by
  refine Met.ofW (cc := cX1_begin) (maxL := 3) (ret := (some .boolean)) (by decide) rfl ?_
  intro p e s m args below meth c s₁ B hml hv
  obtain ⟨rfl, hsz, hP, hK, hD0⟩ := hv
  have hx := B.exec
  have hb := B.bytes
  have hr := B.returns
  have hts := atoms_spec (ws := wsX1_begin) B.pre
  have hown : s.vm.findClass RX1 = some m.cls := findClass_of_methodNamed B.named
  have hlocks := B.notSynchronized
  have hi_P : ∀ w ∈ u_ws RX1 TX1 12, w ∈ wsX1_begin := by decide +kernel
  subst hsz
  have hD := hD0.self (sz := s.heap.size)
  generalize hAe : va_A [(aP, .inr (1, [.ref aR, .ref aX, .int (nI ts), .ref aO, .int (nI os), .int (nI uw), .int fr, .int to, .int (nI pw), .int (nI co), .int (nI dr), .int (nI de)]))] s.heap.size = A at hD ⊢
  have hA : ∀ q : Nat, s.heap.size ≤ q → A q := fun q h => by rw [← hAe]; exact Or.inr h
  have hS : va_S A s.heap s.heap [] := va_S.rf
  have hP : va_P (dC, dI) vwCl [(aP, .inr (1, [.ref aR, .ref aX, .int (nI ts), .ref aO, .int (nI os), .int (nI uw), .int fr, .int to, .int (nI pw), .int (nI co), .int (nI dr), .int (nI de)]))] s.heap := hP
  have hl := lv_entry ([.ref aP, .int f2, .int t2]) (n := 3) (Nat.le_of_ble_eq_true rfl)
  rw [lg_entry_eq]
  generalize (lg_sl ([.ref aP, .int f2, .int t2]) ++ List.replicate (3 - (lg_sl ([.ref aP, .int f2, .int t2])).length) Slot.unset).toArray = ls at hl ⊢
  have hl : lv_has ls 3 [(0, .ref aP), (1, .int f2), (2, .int t2)] := hl
  refine lv_aload_n hx hb dX1_begin_0 rfl (lv_at hl 0 rfl) ?_
  refine va_get (D := (dC, dI)) (ci := 1) (v := .int (nI uw)) (C := RX1) (T := TX1) (N := 12) hx hb hts hi_P hown hK hP 0 rfl rfl 5 (by decide) (hts (.fieldLink RX1 68 "PacketStore" "underWay" "Z") (by decide +kernel)) (fun _ h9 => h9) rfl dX1_begin_1 ?_
  refine zz_if_eq (a := uw) (tgt := 9) hx hb dX1_begin_4 (by decide) (by omega) (fun c4 => ?_) (fun c4 => ?_)
  · refine lv_aload_n hx hb dX1_begin_9 rfl (lv_at hl 0 rfl) ?_
    refine lv_iconst (v := nI 1) hx hb dX1_begin_10 (by decide) ?_
    refine va_put (D := (dC, dI)) (ci := 1) (v := .int (nI 1)) (ty := .boolean) (C := RX1) (T := TX1) (N := 12) hx hb hts hi_P tyX1 tyX1_ok nmX1 hown hK hP hD hS 0 rfl rfl 5 (by decide) (hts (.fieldLink RX1 68 "PacketStore" "underWay" "Z") (by decide +kernel)) (fun _ h9 => h9) rfl (by decide +kernel) rfl rfl (Nat.le_of_ble_eq_true rfl) dX1_begin_11 (fun H locs hP hD hS => ?_)
    have hP : va_P (dC, dI) vwCl [(aP, .inr (1, [.ref aR, .ref aX, .int (nI ts), .ref aO, .int (nI os), .int (nI 1), .int fr, .int to, .int (nI pw), .int (nI co), .int (nI dr), .int (nI de)]))] H := hP
    have hD : va_D A [(aP, .inr (1, [.ref aR, .ref aX, .int (nI ts), .ref aO, .int (nI os), .int (nI 1), .int fr, .int to, .int (nI pw), .int (nI co), .int (nI dr), .int (nI de)]))] := hD
    refine lv_aload_n hx hb dX1_begin_14 rfl (lv_at hl 0 rfl) ?_
    refine lv_iload_n hx hb dX1_begin_15 rfl (lv_at hl 1 rfl) ?_
    refine va_put (D := (dC, dI)) (ci := 1) (v := .int f2) (ty := .int) (C := RX1) (T := TX1) (N := 12) hx hb hts hi_P tyX1 tyX1_ok nmX1 hown hK hP hD hS 0 rfl rfl 6 (by decide) (hts (.fieldLink RX1 72 "PacketStore" "from" "I") (by decide +kernel)) (fun _ h9 => h9) rfl (by decide +kernel) rfl rfl (Nat.le_of_ble_eq_true rfl) dX1_begin_16 (fun H locs hP hD hS => ?_)
    have hP : va_P (dC, dI) vwCl [(aP, .inr (1, [.ref aR, .ref aX, .int (nI ts), .ref aO, .int (nI os), .int (nI 1), .int f2, .int to, .int (nI pw), .int (nI co), .int (nI dr), .int (nI de)]))] H := hP
    have hD : va_D A [(aP, .inr (1, [.ref aR, .ref aX, .int (nI ts), .ref aO, .int (nI os), .int (nI 1), .int f2, .int to, .int (nI pw), .int (nI co), .int (nI dr), .int (nI de)]))] := hD
    refine lv_aload_n hx hb dX1_begin_19 rfl (lv_at hl 0 rfl) ?_
    refine lv_iload_n hx hb dX1_begin_20 rfl (lv_at hl 2 rfl) ?_
    refine va_put (D := (dC, dI)) (ci := 1) (v := .int t2) (ty := .int) (C := RX1) (T := TX1) (N := 12) hx hb hts hi_P tyX1 tyX1_ok nmX1 hown hK hP hD hS 0 rfl rfl 7 (by decide) (hts (.fieldLink RX1 75 "PacketStore" "to" "I") (by decide +kernel)) (fun _ h9 => h9) rfl (by decide +kernel) rfl rfl (Nat.le_of_ble_eq_true rfl) dX1_begin_21 (fun H locs hP hD hS => ?_)
    have hP : va_P (dC, dI) vwCl [(aP, .inr (1, [.ref aR, .ref aX, .int (nI ts), .ref aO, .int (nI os), .int (nI 1), .int f2, .int t2, .int (nI pw), .int (nI co), .int (nI dr), .int (nI de)]))] H := hP
    have hD : va_D A [(aP, .inr (1, [.ref aR, .ref aX, .int (nI ts), .ref aO, .int (nI os), .int (nI 1), .int f2, .int t2, .int (nI pw), .int (nI co), .int (nI dr), .int (nI de)]))] := hD
    refine lv_aload_n hx hb dX1_begin_24 rfl (lv_at hl 0 rfl) ?_
    refine lv_iconst (v := nI 0) hx hb dX1_begin_25 (by decide) ?_
    refine va_put (D := (dC, dI)) (ci := 1) (v := .int (nI 0)) (ty := .int) (C := RX1) (T := TX1) (N := 12) hx hb hts hi_P tyX1 tyX1_ok nmX1 hown hK hP hD hS 0 rfl rfl 8 (by decide) (hts (.fieldLink RX1 78 "PacketStore" "passed" "I") (by decide +kernel)) (fun _ h9 => h9) rfl (by decide +kernel) rfl rfl (Nat.le_of_ble_eq_true rfl) dX1_begin_26 (fun H locs hP hD hS => ?_)
    have hP : va_P (dC, dI) vwCl [(aP, .inr (1, [.ref aR, .ref aX, .int (nI ts), .ref aO, .int (nI os), .int (nI 1), .int f2, .int t2, .int (nI 0), .int (nI co), .int (nI dr), .int (nI de)]))] H := hP
    have hD : va_D A [(aP, .inr (1, [.ref aR, .ref aX, .int (nI ts), .ref aO, .int (nI os), .int (nI 1), .int f2, .int t2, .int (nI 0), .int (nI co), .int (nI dr), .int (nI de)]))] := hD
    refine lv_iconst (v := nI 1) hx hb dX1_begin_29 (by decide) ?_
    exact W.zret (v := (nI 1)) hx hb hr rfl (fun t ht hW => ⟨⟨_, (1, f2, t2, 0), rfl, Or.inr ⟨c4, rfl, rfl⟩, by rw [ht]; exact hP, va_K.moved hW.alike hK, hD⟩, hS.F ht⟩) hS.2.2 dX1_begin_30
  · refine lv_iconst (v := nI 0) hx hb dX1_begin_7 (by decide) ?_
    exact W.zret (v := (nI 0)) hx hb hr rfl (fun t ht hW => ⟨⟨_, (uw, fr, to, pw), rfl, Or.inl ⟨c4, rfl, rfl⟩, by rw [ht]; exact hP, va_K.moved hW.alike hK, hD⟩, hS.F ht⟩) hS.2.2 dX1_begin_8
set_option maxHeartbeats 4000000 in
set_option maxRecDepth 100000 in
/-- stop() -/
theorem c_P_stop (l : Launch) (dC : Nat → ClassId) (dI : Nat → Nat → Nat) (aP aR aX aO ts os uw : Nat) (fr to : Int32) (pw co dr de : Nat) (huw : uw ≤ 1) (hz : Nat) : Met l yX1_stop wsX1_stop ({ frames := 0, cells := 0, slots := 0, locals := 0 }) (va_Pc [.ref aP] (fun U => U.heap.size = hz ∧ va_P (dC, dI) vwCl [(aP, .inr (1, [.ref aR, .ref aX, .int (nI ts), .ref aO, .int (nI os), .int (nI uw), .int fr, .int to, .int (nI pw), .int (nI co), .int (nI dr), .int (nI de)]))] U.heap ∧ va_K (dC, dI) vwCl [] U ∧ va_D (fun _ => True) [(aP, .inr (1, [.ref aR, .ref aX, .int (nI ts), .ref aO, .int (nI os), .int (nI uw), .int fr, .int to, .int (nI pw), .int (nI co), .int (nI dr), .int (nI de)]))])) (va_Qi (fun (r : Int32) (u : Unit) => r = nI uw) (fun u t => va_P (dC, dI) vwCl [(aP, .inr (1, [.ref aR, .ref aX, .int (nI ts), .ref aO, .int (nI os), .int (nI 0), .int fr, .int to, .int (nI pw), .int (nI co), .int (nI dr), .int (nI de)]))] t.heap ∧ va_K (dC, dI) vwCl [] t ∧ va_D (va_A [(aP, .inr (1, [.ref aR, .ref aX, .int (nI ts), .ref aO, .int (nI os), .int (nI uw), .int fr, .int to, .int (nI pw), .int (nI co), .int (nI dr), .int (nI de)]))] hz) [(aP, .inr (1, [.ref aR, .ref aX, .int (nI ts), .ref aO, .int (nI os), .int (nI 0), .int fr, .int to, .int (nI pw), .int (nI co), .int (nI dr), .int (nI de)]))]) (va_A [(aP, .inr (1, [.ref aR, .ref aX, .int (nI ts), .ref aO, .int (nI os), .int (nI uw), .int fr, .int to, .int (nI pw), .int (nI co), .int (nI dr), .int (nI de)]))] hz)) 0 0 (va_A [(aP, .inr (1, [.ref aR, .ref aX, .int (nI ts), .ref aO, .int (nI os), .int (nI uw), .int fr, .int to, .int (nI pw), .int (nI co), .int (nI dr), .int (nI de)]))] hz) := by
  refine Met.ofW (cc := cX1_stop) (maxL := 2) (ret := (some .boolean)) (by decide) rfl ?_
  intro p e s m args below meth c s₁ B hml hv
  obtain ⟨rfl, hsz, hP, hK, hD0⟩ := hv
  have hx := B.exec
  have hb := B.bytes
  have hr := B.returns
  have hts := atoms_spec (ws := wsX1_stop) B.pre
  have hown : s.vm.findClass RX1 = some m.cls := findClass_of_methodNamed B.named
  have hlocks := B.notSynchronized
  have hi_P : ∀ w ∈ u_ws RX1 TX1 12, w ∈ wsX1_stop := by decide +kernel
  subst hsz
  have hD := hD0.self (sz := s.heap.size)
  generalize hAe : va_A [(aP, .inr (1, [.ref aR, .ref aX, .int (nI ts), .ref aO, .int (nI os), .int (nI uw), .int fr, .int to, .int (nI pw), .int (nI co), .int (nI dr), .int (nI de)]))] s.heap.size = A at hD ⊢
  have hA : ∀ q : Nat, s.heap.size ≤ q → A q := fun q h => by rw [← hAe]; exact Or.inr h
  have hS : va_S A s.heap s.heap [] := va_S.rf
  have hP : va_P (dC, dI) vwCl [(aP, .inr (1, [.ref aR, .ref aX, .int (nI ts), .ref aO, .int (nI os), .int (nI uw), .int fr, .int to, .int (nI pw), .int (nI co), .int (nI dr), .int (nI de)]))] s.heap := hP
  have hl := lv_entry ([.ref aP]) (n := 2) (Nat.le_of_ble_eq_true rfl)
  rw [lg_entry_eq]
  generalize (lg_sl ([.ref aP]) ++ List.replicate (2 - (lg_sl ([.ref aP])).length) Slot.unset).toArray = ls at hl ⊢
  have hl : lv_has ls 2 [(0, .ref aP)] := hl
  refine lv_aload_n hx hb dX1_stop_0 rfl (lv_at hl 0 rfl) ?_
  refine va_get (D := (dC, dI)) (ci := 1) (v := .int (nI uw)) (C := RX1) (T := TX1) (N := 12) hx hb hts hi_P hown hK hP 0 rfl rfl 5 (by decide) (hts (.fieldLink RX1 68 "PacketStore" "underWay" "Z") (by decide +kernel)) (fun _ h9 => h9) rfl dX1_stop_1 ?_
  refine lv_istore_n (lv' := [(1, .int (nI uw)), (0, .ref aP)]) hx hb dX1_stop_4 rfl hl (by decide) rfl (fun ls hl => ?_)
  refine lv_aload_n hx hb dX1_stop_5 rfl (lv_at hl 1 rfl) ?_
  refine lv_iconst (v := nI 0) hx hb dX1_stop_6 (by decide) ?_
  refine va_put (D := (dC, dI)) (ci := 1) (v := .int (nI 0)) (ty := .boolean) (C := RX1) (T := TX1) (N := 12) hx hb hts hi_P tyX1 tyX1_ok nmX1 hown hK hP hD hS 0 rfl rfl 5 (by decide) (hts (.fieldLink RX1 68 "PacketStore" "underWay" "Z") (by decide +kernel)) (fun _ h9 => h9) rfl (by decide +kernel) rfl rfl (Nat.le_of_ble_eq_true rfl) dX1_stop_7 (fun H locs hP hD hS => ?_)
  have hP : va_P (dC, dI) vwCl [(aP, .inr (1, [.ref aR, .ref aX, .int (nI ts), .ref aO, .int (nI os), .int (nI 0), .int fr, .int to, .int (nI pw), .int (nI co), .int (nI dr), .int (nI de)]))] H := hP
  have hD : va_D A [(aP, .inr (1, [.ref aR, .ref aX, .int (nI ts), .ref aO, .int (nI os), .int (nI 0), .int fr, .int to, .int (nI pw), .int (nI co), .int (nI dr), .int (nI de)]))] := hD
  refine lv_iload_n hx hb dX1_stop_10 rfl (lv_at hl 0 rfl) ?_
  exact W.zret (v := (nI uw)) hx hb hr (by rcases (show uw = 0 ∨ uw = 1 by omega) with h | h <;> subst h <;> rfl) (fun t ht hW => ⟨⟨_, (), rfl, rfl, by rw [ht]; exact hP, va_K.moved hW.alike hK, hD⟩, hS.F ht⟩) hS.2.2 dX1_stop_11
set_option maxHeartbeats 4000000 in
set_option maxRecDepth 100000 in
/-- next(most), none under way -/
theorem c_P_next_none (l : Launch) (dC : Nat → ClassId) (dI : Nat → Nat → Nat) (aP aR aX aO ts os uw : Nat) (fr to : Int32) (pw co dr de : Nat) (most : Int32) (h0 : uw = 0) : Met l yX1_next wsX1_next ({ frames := 0, cells := 0, slots := 0, locals := 0 }) (va_Pc [.ref aP, .int most] (fun U => va_P (dC, dI) vwCl [(aP, .inr (1, [.ref aR, .ref aX, .int (nI ts), .ref aO, .int (nI os), .int (nI uw), .int fr, .int to, .int (nI pw), .int (nI co), .int (nI dr), .int (nI de)]))] U.heap ∧ va_K (dC, dI) vwCl [] U)) (vp_Si (fun r => r = (-1))) 0 0 (fun _ => False) := by
  refine Met.ofW (cc := cX1_next) (maxL := 3) (ret := (some .int)) (by decide) rfl ?_
  intro p e s m args below meth c s₁ B hml hv
  obtain ⟨rfl, hP, hK⟩ := hv
  have hx := B.exec
  have hb := B.bytes
  have hr := B.returns
  have hts := atoms_spec (ws := wsX1_next) B.pre
  have hown : s.vm.findClass RX1 = some m.cls := findClass_of_methodNamed B.named
  have hlocks := B.notSynchronized
  have hi_P : ∀ w ∈ u_ws RX1 TX1 12, w ∈ wsX1_next := by decide +kernel
  have hP : va_P (dC, dI) vwCl [(aP, .inr (1, [.ref aR, .ref aX, .int (nI ts), .ref aO, .int (nI os), .int (nI uw), .int fr, .int to, .int (nI pw), .int (nI co), .int (nI dr), .int (nI de)]))] s.heap := hP
  have hl := lv_entry ([.ref aP, .int most]) (n := 3) (Nat.le_of_ble_eq_true rfl)
  rw [lg_entry_eq]
  generalize (lg_sl ([.ref aP, .int most]) ++ List.replicate (3 - (lg_sl ([.ref aP, .int most])).length) Slot.unset).toArray = ls at hl ⊢
  have hl : lv_has ls 3 [(0, .ref aP), (1, .int most)] := hl
  refine lv_aload_n hx hb dX1_next_0 rfl (lv_at hl 0 rfl) ?_
  refine va_get (D := (dC, dI)) (ci := 1) (v := .int (nI uw)) (C := RX1) (T := TX1) (N := 12) hx hb hts hi_P hown hK hP 0 rfl rfl 5 (by decide) (hts (.fieldLink RX1 68 "PacketStore" "underWay" "Z") (by decide +kernel)) (fun _ h9 => h9) rfl dX1_next_1 ?_
  refine zz_if_ne (a := uw) (tgt := 9) hx hb dX1_next_4 (by decide) (by omega) (fun c4 => ?_) (fun c4 => ?_)
  · exact absurd h0 c4
  · refine lv_iconst (v := (-1)) hx hb dX1_next_7 (by decide) ?_
    exact W.iret (v := ((-1))) hx hb hr (fun t ht hW => ⟨_, rfl, rfl, ht⟩) (fun q hq => by cases hq) dX1_next_8
set_option maxHeartbeats 4000000 in
set_option maxRecDepth 100000 in
/-- next(most), a retrieval is under way -/
theorem c_P_next (l : Launch) (dC : Nat → ClassId) (dI : Nat → Nat → Nat) (aP aR aB aS aT aX aO R lo hi : Nat) (off : Nat → Nat) (ts os : Nat) (fr to : Int32) (pa co dr de : Nat) (cB cS cT cO : ClassId) (Bf Sf Tf Of tm bz : Nat → Int32) (most : Int32) (hok : rg_ok R lo hi off) (hrep : rg_rep R lo hi off tm bz Bf Sf Tf) (hpa : pa ≤ hi) (h512 : ∀ i, lo ≤ i → i < hi → off (i + 1) - off i ≤ 512) (hz : Nat) : Met l yX1_next wsX1_next ({ frames := 4, cells := 0, slots := 0, locals := 88 }) (va_Pc [.ref aP, .int most] (fun U => U.heap.size = hz ∧ va_P (dC, dI) vwCl [(aP, .inr (1, [.ref aR, .ref aX, .int (nI ts), .ref aO, .int (nI os), .int (nI 1), .int fr, .int to, .int (nI (pa - lo)), .int (nI co), .int (nI dr), .int (nI de)])), (aR, .inr (0, [.int (nI R), .ref aB, .ref aS, .ref aT, .int (nI (lo % R)), .int (nI (hi - lo)), .int (nI (off hi % R)), .int (nI (off hi - off lo))])), (aB, .inl (cB, R, .inl Bf)), (aS, .inl (cS, R, .inl Sf)), (aT, .inl (cT, R, .inl Tf)), (aO, .inl (cO, 512, .inl Of))] U.heap ∧ va_K (dC, dI) vwCl [(cB, .byte), (cS, .int), (cT, .int), (cO, .byte)] U ∧ va_D (fun _ => True) [(aP, .inr (1, [.ref aR, .ref aX, .int (nI ts), .ref aO, .int (nI os), .int (nI 1), .int fr, .int to, .int (nI (pa - lo)), .int (nI co), .int (nI dr), .int (nI de)])), (aR, .inr (0, [.int (nI R), .ref aB, .ref aS, .ref aT, .int (nI (lo % R)), .int (nI (hi - lo)), .int (nI (off hi % R)), .int (nI (off hi - off lo))])), (aB, .inl (cB, R, .inl Bf)), (aS, .inl (cS, R, .inl Sf)), (aT, .inl (cT, R, .inl Tf)), (aO, .inl (cO, 512, .inl Of))])) (va_Qi (fun (r : Int32) (u : Nat × Nat × Nat × (Nat → Int32)) => ∃ w, pa - lo ≤ w ∧ w ≤ hi - lo ∧ (∀ t, pa - lo ≤ t → t < w → ¬ (fr ≤ tm (lo + t) ∧ tm (lo + t) ≤ to)) ∧ ((w = hi - lo ∧ r = (-1) ∧ u = (w, 0, os, Of)) ∨ (w < hi - lo ∧ (fr ≤ tm (lo + w) ∧ tm (lo + w) ≤ to) ∧ ((¬ nI (off (lo + w + 1) - off (lo + w)) ≤ most ∧ r = (-2) ∧ u = (w, 1, os, Of)) ∨ (nI (off (lo + w + 1) - off (lo + w)) ≤ most ∧ r = nI (off (lo + w + 1) - off (lo + w)) ∧ u.1 = w + 1 ∧ u.2.1 = 1 ∧ u.2.2.1 = off (lo + w + 1) - off (lo + w) ∧ ∀ t, t < off (lo + w + 1) - off (lo + w) → u.2.2.2 t = (bz (off (lo + w) + t)).toInt8.toInt32))))) (fun u t => va_P (dC, dI) vwCl [(aP, .inr (1, [.ref aR, .ref aX, .int (nI ts), .ref aO, .int (nI u.2.2.1), .int (nI u.2.1), .int fr, .int to, .int (nI u.1), .int (nI co), .int (nI dr), .int (nI de)])), (aR, .inr (0, [.int (nI R), .ref aB, .ref aS, .ref aT, .int (nI (lo % R)), .int (nI (hi - lo)), .int (nI (off hi % R)), .int (nI (off hi - off lo))])), (aB, .inl (cB, R, .inl Bf)), (aS, .inl (cS, R, .inl Sf)), (aT, .inl (cT, R, .inl Tf)), (aO, .inl (cO, 512, .inl u.2.2.2))] t.heap ∧ va_K (dC, dI) vwCl [(cB, .byte), (cS, .int), (cT, .int), (cO, .byte)] t ∧ va_D (va_A [(aP, .inr (1, [.ref aR, .ref aX, .int (nI ts), .ref aO, .int (nI os), .int (nI 1), .int fr, .int to, .int (nI (pa - lo)), .int (nI co), .int (nI dr), .int (nI de)])), (aR, .inr (0, [.int (nI R), .ref aB, .ref aS, .ref aT, .int (nI (lo % R)), .int (nI (hi - lo)), .int (nI (off hi % R)), .int (nI (off hi - off lo))])), (aB, .inl (cB, R, .inl Bf)), (aS, .inl (cS, R, .inl Sf)), (aT, .inl (cT, R, .inl Tf)), (aO, .inl (cO, 512, .inl Of))] hz) [(aP, .inr (1, [.ref aR, .ref aX, .int (nI ts), .ref aO, .int (nI u.2.2.1), .int (nI u.2.1), .int fr, .int to, .int (nI u.1), .int (nI co), .int (nI dr), .int (nI de)])), (aR, .inr (0, [.int (nI R), .ref aB, .ref aS, .ref aT, .int (nI (lo % R)), .int (nI (hi - lo)), .int (nI (off hi % R)), .int (nI (off hi - off lo))])), (aB, .inl (cB, R, .inl Bf)), (aS, .inl (cS, R, .inl Sf)), (aT, .inl (cT, R, .inl Tf)), (aO, .inl (cO, 512, .inl u.2.2.2))]) (va_A [(aP, .inr (1, [.ref aR, .ref aX, .int (nI ts), .ref aO, .int (nI os), .int (nI 1), .int fr, .int to, .int (nI (pa - lo)), .int (nI co), .int (nI dr), .int (nI de)])), (aR, .inr (0, [.int (nI R), .ref aB, .ref aS, .ref aT, .int (nI (lo % R)), .int (nI (hi - lo)), .int (nI (off hi % R)), .int (nI (off hi - off lo))])), (aB, .inl (cB, R, .inl Bf)), (aS, .inl (cS, R, .inl Sf)), (aT, .inl (cT, R, .inl Tf)), (aO, .inl (cO, 512, .inl Of))] hz)) 0 0 (va_A [(aP, .inr (1, [.ref aR, .ref aX, .int (nI ts), .ref aO, .int (nI os), .int (nI 1), .int fr, .int to, .int (nI (pa - lo)), .int (nI co), .int (nI dr), .int (nI de)])), (aR, .inr (0, [.int (nI R), .ref aB, .ref aS, .ref aT, .int (nI (lo % R)), .int (nI (hi - lo)), .int (nI (off hi % R)), .int (nI (off hi - off lo))])), (aB, .inl (cB, R, .inl Bf)), (aS, .inl (cS, R, .inl Sf)), (aT, .inl (cT, R, .inl Tf)), (aO, .inl (cO, 512, .inl Of))] hz) := by
  refine Met.ofW (cc := cX1_next) (maxL := 3) (ret := (some .int)) (by decide) rfl ?_
  intro p e s m args below meth c s₁ B hml hv
  obtain ⟨rfl, hsz, hP, hK, hD0⟩ := hv
  have hx := B.exec
  have hb := B.bytes
  have hr := B.returns
  have hts := atoms_spec (ws := wsX1_next) B.pre
  have hown : s.vm.findClass RX1 = some m.cls := findClass_of_methodNamed B.named
  have hlocks := B.notSynchronized
  have hi_P : ∀ w ∈ u_ws RX1 TX1 12, w ∈ wsX1_next := by decide +kernel
  subst hsz
  have hD := hD0.self (sz := s.heap.size)
  generalize hAe : va_A [(aP, .inr (1, [.ref aR, .ref aX, .int (nI ts), .ref aO, .int (nI os), .int (nI 1), .int fr, .int to, .int (nI (pa - lo)), .int (nI co), .int (nI dr), .int (nI de)])), (aR, .inr (0, [.int (nI R), .ref aB, .ref aS, .ref aT, .int (nI (lo % R)), .int (nI (hi - lo)), .int (nI (off hi % R)), .int (nI (off hi - off lo))])), (aB, .inl (cB, R, .inl Bf)), (aS, .inl (cS, R, .inl Sf)), (aT, .inl (cT, R, .inl Tf)), (aO, .inl (cO, 512, .inl Of))] s.heap.size = A at hD ⊢
  have hA : ∀ q : Nat, s.heap.size ≤ q → A q := fun q h => by rw [← hAe]; exact Or.inr h
  have hS : va_S A s.heap s.heap [] := va_S.rf
  have hP : va_P (dC, dI) vwCl [(aP, .inr (1, [.ref aR, .ref aX, .int (nI ts), .ref aO, .int (nI os), .int (nI 1), .int fr, .int to, .int (nI (pa - lo)), .int (nI co), .int (nI dr), .int (nI de)])), (aR, .inr (0, [.int (nI R), .ref aB, .ref aS, .ref aT, .int (nI (lo % R)), .int (nI (hi - lo)), .int (nI (off hi % R)), .int (nI (off hi - off lo))])), (aB, .inl (cB, R, .inl Bf)), (aS, .inl (cS, R, .inl Sf)), (aT, .inl (cT, R, .inl Tf)), (aO, .inl (cO, 512, .inl Of))] s.heap := hP
  have hl := lv_entry ([.ref aP, .int most]) (n := 3) (Nat.le_of_ble_eq_true rfl)
  rw [lg_entry_eq]
  generalize (lg_sl ([.ref aP, .int most]) ++ List.replicate (3 - (lg_sl ([.ref aP, .int most])).length) Slot.unset).toArray = ls at hl ⊢
  have hl : lv_has ls 3 [(0, .ref aP), (1, .int most)] := hl
  have hRR := hok.1
  have hll := hok.2.1
  have hcap := hok.2.2.1
  have hgap := hok.gap (Nat.le_refl lo) hll (Nat.le_refl hi)
  refine lv_aload_n hx hb dX1_next_0 rfl (lv_at hl 0 rfl) ?_
  refine va_get (D := (dC, dI)) (ci := 1) (v := .int (nI 1)) (C := RX1) (T := TX1) (N := 12) hx hb hts hi_P hown hK hP 0 rfl rfl 5 (by decide) (hts (.fieldLink RX1 68 "PacketStore" "underWay" "Z") (by decide +kernel)) (fun _ h9 => h9) rfl dX1_next_1 ?_
  refine zz_if_ne (a := 1) (tgt := 9) hx hb dX1_next_4 (by decide) (by decide) (fun c4 => ?_) (fun c4 => ?_)
  · refine lv_aload_n hx hb dX1_next_9 rfl (lv_at hl 0 rfl) ?_
    refine zz_callMv (As := []) (rest := []) (wr := [(aB, .inl (cB, R, .inl Bf)), (aS, .inl (cS, R, .inl Sf)), (aO, .inl (cO, 512, .inl Of))]) ⟨hx, hb, hml, hown, hts⟩ (c_P_passUnwanted l dC dI aP aR aB aS aT aX aO R lo hi off ts os 1 fr to pa co dr de cT Tf tm hok hrep.1 hpa _) (cwV 0 hts gX1_next_X1_passUnwanted rfl rfl rfl (by decide +kernel) ⟨Nat.le_of_ble_eq_true rfl, Nat.le_of_ble_eq_true rfl⟩) hP hD hK hS hA [0, 1, 4] [2, 3, 5] [2] rfl rfl rfl (by decide) (by decide) (by decide) rfl 0 rfl rfl rfl rfl hl.1 rfl (Nat.le_of_ble_eq_true rfl) dX1_next_10 ⟨Nat.zero_le _, Nat.zero_le _⟩ (fun u10 H locs e10 hP hD hS => ?_)
    have hP : va_P (dC, dI) vwCl [(aB, .inl (cB, R, .inl Bf)), (aS, .inl (cS, R, .inl Sf)), (aO, .inl (cO, 512, .inl Of)), (aP, .inr (1, [.ref aR, .ref aX, .int (nI ts), .ref aO, .int (nI os), .int (nI 1), .int fr, .int to, .int (nI u10), .int (nI co), .int (nI dr), .int (nI de)])), (aR, .inr (0, [.int (nI R), .ref aB, .ref aS, .ref aT, .int (nI (lo % R)), .int (nI (hi - lo)), .int (nI (off hi % R)), .int (nI (off hi - off lo))])), (aT, .inl (cT, R, .inl Tf))] H := hP
    have hD : va_D A [(aB, .inl (cB, R, .inl Bf)), (aS, .inl (cS, R, .inl Sf)), (aO, .inl (cO, 512, .inl Of)), (aP, .inr (1, [.ref aR, .ref aX, .int (nI ts), .ref aO, .int (nI os), .int (nI 1), .int fr, .int to, .int (nI u10), .int (nI co), .int (nI dr), .int (nI de)])), (aR, .inr (0, [.int (nI R), .ref aB, .ref aS, .ref aT, .int (nI (lo % R)), .int (nI (hi - lo)), .int (nI (off hi % R)), .int (nI (off hi - off lo))])), (aT, .inl (cT, R, .inl Tf))] := hD
    obtain ⟨q1, q2, q3, q4⟩ := e10
    refine lv_aload_n hx hb dX1_next_13 rfl (lv_at hl 0 rfl) ?_
    refine va_get (D := (dC, dI)) (ci := 1) (v := .int (nI u10)) (C := RX1) (T := TX1) (N := 12) hx hb hts hi_P hown hK hP 3 rfl rfl 8 (by decide) (hts (.fieldLink RX1 78 "PacketStore" "passed" "I") (by decide +kernel)) (fun _ h9 => h9) rfl dX1_next_14 ?_
    refine lv_aload_n hx hb dX1_next_17 rfl (lv_at hl 0 rfl) ?_
    refine va_get (D := (dC, dI)) (ci := 1) (v := .ref aR) (C := RX1) (T := TX1) (N := 12) hx hb hts hi_P hown hK hP 3 rfl rfl 0 (by decide) (hts (.fieldLink RX1 23 "PacketStore" "ring" "LPacketStore$Ring;") (by decide +kernel)) (fun _ h9 => h9) rfl dX1_next_18 ?_
    refine zz_callR (As := []) (rest := [.int (nI u10)]) ⟨hx, hb, hml, hown, hts⟩ (c_R_packets l dC dI aR aB aS aT R (lo % R) (hi - lo) (off hi % R) (off hi - off lo)) (cwV 0 hts gX1_next_X0_packets rfl rfl rfl (by decide +kernel) ⟨Nat.le_of_ble_eq_true rfl, Nat.le_of_ble_eq_true rfl⟩) (hP.sub [4] rfl) (hK.sub [] rfl) 0 rfl rfl rfl rfl hl.1 rfl (Nat.le_of_ble_eq_true rfl) dX1_next_21 ⟨Nat.zero_le _, Nat.zero_le _⟩ (fun r21 e21 => ?_)
    subst e21
    refine zz_icmp_lt (a := u10) (b := hi - lo) (tgt := 34) hx hb dX1_next_24 (by decide) (by omega) (by omega) (fun c24 => ?_) (fun c24 => ?_)
    · refine lv_aload_n hx hb dX1_next_34 rfl (lv_at hl 0 rfl) ?_
      refine va_get (D := (dC, dI)) (ci := 1) (v := .ref aR) (C := RX1) (T := TX1) (N := 12) hx hb hts hi_P hown hK hP 3 rfl rfl 0 (by decide) (hts (.fieldLink RX1 23 "PacketStore" "ring" "LPacketStore$Ring;") (by decide +kernel)) (fun _ h9 => h9) rfl dX1_next_35 ?_
      refine lv_aload_n hx hb dX1_next_38 rfl (lv_at hl 0 rfl) ?_
      refine va_get (D := (dC, dI)) (ci := 1) (v := .int (nI u10)) (C := RX1) (T := TX1) (N := 12) hx hb hts hi_P hown hK hP 3 rfl rfl 8 (by decide) (hts (.fieldLink RX1 78 "PacketStore" "passed" "I") (by decide +kernel)) (fun _ h9 => h9) rfl dX1_next_39 ?_
      refine zz_callR (As := [.int (nI u10)]) (rest := []) ⟨hx, hb, hml, hown, hts⟩ (c_R_sizeOf l dC dI aR aB aS aT R lo hi off (off hi - off lo) cS Sf u10 hok hrep.2.1 (by omega)) (cwV 1 hts gX1_next_X0_sizeOf rfl rfl rfl (by decide +kernel) ⟨Nat.le_of_ble_eq_true rfl, Nat.le_of_ble_eq_true rfl⟩) (hP.sub [4, 1] rfl) (hK.sub [1] rfl) 0 rfl rfl rfl rfl hl.1 rfl (Nat.le_of_ble_eq_true rfl) dX1_next_42 ⟨Nat.zero_le _, Nat.zero_le _⟩ (fun r42 e42 => ?_)
      subst e42
      have hk : lo + u10 < hi := by omega
      have hwant := q4.resolve_left (by omega)
      have hk1 : off (lo + u10) < off (lo + u10 + 1) := hok.2.2.2 (lo + u10) (by omega) hk
      have hk4 := h512 (lo + u10) (by omega) hk
      refine lv_istore_n (lv' := [(2, .int (nI (off (lo + u10 + 1) - off (lo + u10)))), (0, .ref aP), (1, .int most)]) hx hb dX1_next_45 rfl hl (by decide) rfl (fun ls hl => ?_)
      refine lv_iload_n hx hb dX1_next_46 rfl (lv_at hl 0 rfl) ?_
      refine lv_iload_n hx hb dX1_next_47 rfl (lv_at hl 2 rfl) ?_
      refine lv_icmp_le (tgt := 54) hx hb dX1_next_48 (by decide) (fun c48 => ?_) (fun c48 => ?_)
      · refine lv_aload_n hx hb dX1_next_54 rfl (lv_at hl 1 rfl) ?_
        refine va_get (D := (dC, dI)) (ci := 1) (v := .ref aR) (C := RX1) (T := TX1) (N := 12) hx hb hts hi_P hown hK hP 3 rfl rfl 0 (by decide) (hts (.fieldLink RX1 23 "PacketStore" "ring" "LPacketStore$Ring;") (by decide +kernel)) (fun _ h9 => h9) rfl dX1_next_55 ?_
        refine lv_aload_n hx hb dX1_next_58 rfl (lv_at hl 1 rfl) ?_
        refine va_get (D := (dC, dI)) (ci := 1) (v := .int (nI u10)) (C := RX1) (T := TX1) (N := 12) hx hb hts hi_P hown hK hP 3 rfl rfl 8 (by decide) (hts (.fieldLink RX1 78 "PacketStore" "passed" "I") (by decide +kernel)) (fun _ h9 => h9) rfl dX1_next_59 ?_
        refine lv_iload_n hx hb dX1_next_62 rfl (lv_at hl 0 rfl) ?_
        refine lv_aload_n hx hb dX1_next_63 rfl (lv_at hl 1 rfl) ?_
        refine va_get (D := (dC, dI)) (ci := 1) (v := .ref aO) (C := RX1) (T := TX1) (N := 12) hx hb hts hi_P hown hK hP 3 rfl rfl 3 (by decide) (hts (.fieldLink RX1 31 "PacketStore" "output" "[B") (by decide +kernel)) (fun _ h9 => h9) rfl dX1_next_64 ?_
        refine zz_callMv (As := [.int (nI u10), .int (nI (off (lo + u10 + 1) - off (lo + u10))), .ref aO]) (rest := []) (wr := [(aP, .inr (1, [.ref aR, .ref aX, .int (nI ts), .ref aO, .int (nI os), .int (nI 1), .int fr, .int to, .int (nI u10), .int (nI co), .int (nI dr), .int (nI de)])), (aT, .inl (cT, R, .inl Tf))]) ⟨hx, hb, hml, hown, hts⟩ (c_R_copy l dC dI aR aB aS aT R lo hi off (off hi - off lo) cB cS cO Bf Sf bz aO Of u10 (off (lo + u10 + 1) - off (lo + u10)) hok hrep.2.1 hrep.2.2 hk rfl hk4 _) (cwV 3 hts gX1_next_X0_copy rfl rfl rfl (by decide +kernel) ⟨Nat.le_of_ble_eq_true rfl, Nat.le_of_ble_eq_true rfl⟩) hP hD hK hS hA [4, 0, 1, 2] [3, 5] [0, 1, 3] rfl rfl rfl (by decide) (by decide) (by decide) rfl 0 rfl rfl rfl rfl hl.1 rfl (Nat.le_of_ble_eq_true rfl) dX1_next_67 ⟨Nat.zero_le _, Nat.zero_le _⟩ (fun u67 H locs e67 hP hD hS => ?_)
        have hP : va_P (dC, dI) vwCl [(aP, .inr (1, [.ref aR, .ref aX, .int (nI ts), .ref aO, .int (nI os), .int (nI 1), .int fr, .int to, .int (nI u10), .int (nI co), .int (nI dr), .int (nI de)])), (aT, .inl (cT, R, .inl Tf)), (aR, .inr (0, [.int (nI R), .ref aB, .ref aS, .ref aT, .int (nI (lo % R)), .int (nI (hi - lo)), .int (nI (off hi % R)), .int (nI (off hi - off lo))])), (aB, .inl (cB, R, .inl Bf)), (aS, .inl (cS, R, .inl Sf)), (aO, .inl (cO, 512, .inl u67))] H := hP
        have hD : va_D A [(aP, .inr (1, [.ref aR, .ref aX, .int (nI ts), .ref aO, .int (nI os), .int (nI 1), .int fr, .int to, .int (nI u10), .int (nI co), .int (nI dr), .int (nI de)])), (aT, .inl (cT, R, .inl Tf)), (aR, .inr (0, [.int (nI R), .ref aB, .ref aS, .ref aT, .int (nI (lo % R)), .int (nI (hi - lo)), .int (nI (off hi % R)), .int (nI (off hi - off lo))])), (aB, .inl (cB, R, .inl Bf)), (aS, .inl (cS, R, .inl Sf)), (aO, .inl (cO, 512, .inl u67))] := hD
        refine lv_aload_n hx hb dX1_next_70 rfl (lv_at hl 1 rfl) ?_
        refine lv_iload_n hx hb dX1_next_71 rfl (lv_at hl 0 rfl) ?_
        refine va_put (D := (dC, dI)) (ci := 1) (v := .int (nI (off (lo + u10 + 1) - off (lo + u10)))) (ty := .int) (C := RX1) (T := TX1) (N := 12) hx hb hts hi_P tyX1 tyX1_ok nmX1 hown hK hP hD hS 0 rfl rfl 4 (by decide) (hts (.fieldLink RX1 91 "PacketStore" "outputSize" "I") (by decide +kernel)) (fun _ h9 => h9) rfl (by decide +kernel) rfl rfl (Nat.le_of_ble_eq_true rfl) dX1_next_72 (fun H locs hP hD hS => ?_)
        have hP : va_P (dC, dI) vwCl [(aP, .inr (1, [.ref aR, .ref aX, .int (nI ts), .ref aO, .int (nI (off (lo + u10 + 1) - off (lo + u10))), .int (nI 1), .int fr, .int to, .int (nI u10), .int (nI co), .int (nI dr), .int (nI de)])), (aT, .inl (cT, R, .inl Tf)), (aR, .inr (0, [.int (nI R), .ref aB, .ref aS, .ref aT, .int (nI (lo % R)), .int (nI (hi - lo)), .int (nI (off hi % R)), .int (nI (off hi - off lo))])), (aB, .inl (cB, R, .inl Bf)), (aS, .inl (cS, R, .inl Sf)), (aO, .inl (cO, 512, .inl u67))] H := hP
        have hD : va_D A [(aP, .inr (1, [.ref aR, .ref aX, .int (nI ts), .ref aO, .int (nI (off (lo + u10 + 1) - off (lo + u10))), .int (nI 1), .int fr, .int to, .int (nI u10), .int (nI co), .int (nI dr), .int (nI de)])), (aT, .inl (cT, R, .inl Tf)), (aR, .inr (0, [.int (nI R), .ref aB, .ref aS, .ref aT, .int (nI (lo % R)), .int (nI (hi - lo)), .int (nI (off hi % R)), .int (nI (off hi - off lo))])), (aB, .inl (cB, R, .inl Bf)), (aS, .inl (cS, R, .inl Sf)), (aO, .inl (cO, 512, .inl u67))] := hD
        refine lv_aload_n hx hb dX1_next_75 rfl (lv_at hl 1 rfl) ?_
        refine lv_dup hx hb dX1_next_76 rfl ?_
        refine va_get (D := (dC, dI)) (ci := 1) (v := .int (nI u10)) (C := RX1) (T := TX1) (N := 12) hx hb hts hi_P hown hK hP 0 rfl rfl 8 (by decide) (hts (.fieldLink RX1 78 "PacketStore" "passed" "I") (by decide +kernel)) (fun _ h9 => h9) rfl dX1_next_77 ?_
        refine lv_iconst (v := nI 1) hx hb dX1_next_80 (by decide) ?_
        refine lv_iadd hx hb dX1_next_81 ?_
        refine zz_as (nI (u10 + 1)) (nI_add _ _) ?_
        refine va_put (D := (dC, dI)) (ci := 1) (v := .int (nI (u10 + 1))) (ty := .int) (C := RX1) (T := TX1) (N := 12) hx hb hts hi_P tyX1 tyX1_ok nmX1 hown hK hP hD hS 0 rfl rfl 8 (by decide) (hts (.fieldLink RX1 78 "PacketStore" "passed" "I") (by decide +kernel)) (fun _ h9 => h9) rfl (by decide +kernel) rfl rfl (Nat.le_of_ble_eq_true rfl) dX1_next_82 (fun H locs hP hD hS => ?_)
        have hP : va_P (dC, dI) vwCl [(aP, .inr (1, [.ref aR, .ref aX, .int (nI ts), .ref aO, .int (nI (off (lo + u10 + 1) - off (lo + u10))), .int (nI 1), .int fr, .int to, .int (nI (u10 + 1)), .int (nI co), .int (nI dr), .int (nI de)])), (aT, .inl (cT, R, .inl Tf)), (aR, .inr (0, [.int (nI R), .ref aB, .ref aS, .ref aT, .int (nI (lo % R)), .int (nI (hi - lo)), .int (nI (off hi % R)), .int (nI (off hi - off lo))])), (aB, .inl (cB, R, .inl Bf)), (aS, .inl (cS, R, .inl Sf)), (aO, .inl (cO, 512, .inl u67))] H := hP
        have hD : va_D A [(aP, .inr (1, [.ref aR, .ref aX, .int (nI ts), .ref aO, .int (nI (off (lo + u10 + 1) - off (lo + u10))), .int (nI 1), .int fr, .int to, .int (nI (u10 + 1)), .int (nI co), .int (nI dr), .int (nI de)])), (aT, .inl (cT, R, .inl Tf)), (aR, .inr (0, [.int (nI R), .ref aB, .ref aS, .ref aT, .int (nI (lo % R)), .int (nI (hi - lo)), .int (nI (off hi % R)), .int (nI (off hi - off lo))])), (aB, .inl (cB, R, .inl Bf)), (aS, .inl (cS, R, .inl Sf)), (aO, .inl (cO, 512, .inl u67))] := hD
        refine lv_iload_n hx hb dX1_next_85 rfl (lv_at hl 0 rfl) ?_
        have hP := hP.sub (ws' := [(aP, .inr (1, [.ref aR, .ref aX, .int (nI ts), .ref aO, .int (nI (off (lo + u10 + 1) - off (lo + u10))), .int (nI 1), .int fr, .int to, .int (nI (u10 + 1)), .int (nI co), .int (nI dr), .int (nI de)])), (aR, .inr (0, [.int (nI R), .ref aB, .ref aS, .ref aT, .int (nI (lo % R)), .int (nI (hi - lo)), .int (nI (off hi % R)), .int (nI (off hi - off lo))])), (aB, .inl (cB, R, .inl Bf)), (aS, .inl (cS, R, .inl Sf)), (aT, .inl (cT, R, .inl Tf)), (aO, .inl (cO, 512, .inl u67))]) [0, 2, 3, 4, 1, 5] rfl
        have hD := hD.sub (ws' := [(aP, .inr (1, [.ref aR, .ref aX, .int (nI ts), .ref aO, .int (nI (off (lo + u10 + 1) - off (lo + u10))), .int (nI 1), .int fr, .int to, .int (nI (u10 + 1)), .int (nI co), .int (nI dr), .int (nI de)])), (aR, .inr (0, [.int (nI R), .ref aB, .ref aS, .ref aT, .int (nI (lo % R)), .int (nI (hi - lo)), .int (nI (off hi % R)), .int (nI (off hi - off lo))])), (aB, .inl (cB, R, .inl Bf)), (aS, .inl (cS, R, .inl Sf)), (aT, .inl (cT, R, .inl Tf)), (aO, .inl (cO, 512, .inl u67))]) [0, 2, 3, 4, 1, 5] (by decide) rfl
        exact W.iret (v := (nI (off (lo + u10 + 1) - off (lo + u10)))) hx hb hr (fun t ht hW => ⟨⟨_, (u10 + 1, 1, off (lo + u10 + 1) - off (lo + u10), u67), rfl, ⟨u10, q1, q2, q3, Or.inr ⟨c24, hwant.2, Or.inr ⟨c48, rfl, rfl, rfl, rfl, e67⟩⟩⟩, by rw [ht]; exact hP, va_K.moved hW.alike hK, hD⟩, hS.F ht⟩) hS.2.2 dX1_next_86
      · refine lv_bipush (v := (-2)) hx hb dX1_next_51 (by decide) ?_
        have hP := hP.sub (ws' := [(aP, .inr (1, [.ref aR, .ref aX, .int (nI ts), .ref aO, .int (nI os), .int (nI 1), .int fr, .int to, .int (nI u10), .int (nI co), .int (nI dr), .int (nI de)])), (aR, .inr (0, [.int (nI R), .ref aB, .ref aS, .ref aT, .int (nI (lo % R)), .int (nI (hi - lo)), .int (nI (off hi % R)), .int (nI (off hi - off lo))])), (aB, .inl (cB, R, .inl Bf)), (aS, .inl (cS, R, .inl Sf)), (aT, .inl (cT, R, .inl Tf)), (aO, .inl (cO, 512, .inl Of))]) [3, 4, 0, 1, 5, 2] rfl
        have hD := hD.sub (ws' := [(aP, .inr (1, [.ref aR, .ref aX, .int (nI ts), .ref aO, .int (nI os), .int (nI 1), .int fr, .int to, .int (nI u10), .int (nI co), .int (nI dr), .int (nI de)])), (aR, .inr (0, [.int (nI R), .ref aB, .ref aS, .ref aT, .int (nI (lo % R)), .int (nI (hi - lo)), .int (nI (off hi % R)), .int (nI (off hi - off lo))])), (aB, .inl (cB, R, .inl Bf)), (aS, .inl (cS, R, .inl Sf)), (aT, .inl (cT, R, .inl Tf)), (aO, .inl (cO, 512, .inl Of))]) [3, 4, 0, 1, 5, 2] (by decide) rfl
        exact W.iret (v := ((-2))) hx hb hr (fun t ht hW => ⟨⟨_, (u10, 1, os, Of), rfl, ⟨u10, q1, q2, q3, Or.inr ⟨c24, hwant.2, Or.inl ⟨c48, rfl, rfl⟩⟩⟩, by rw [ht]; exact hP, va_K.moved hW.alike hK, hD⟩, hS.F ht⟩) hS.2.2 dX1_next_53
    · refine lv_aload_n hx hb dX1_next_27 rfl (lv_at hl 0 rfl) ?_
      refine lv_iconst (v := nI 0) hx hb dX1_next_28 (by decide) ?_
      refine va_put (D := (dC, dI)) (ci := 1) (v := .int (nI 0)) (ty := .boolean) (C := RX1) (T := TX1) (N := 12) hx hb hts hi_P tyX1 tyX1_ok nmX1 hown hK hP hD hS 3 rfl rfl 5 (by decide) (hts (.fieldLink RX1 68 "PacketStore" "underWay" "Z") (by decide +kernel)) (fun _ h9 => h9) rfl (by decide +kernel) rfl rfl (Nat.le_of_ble_eq_true rfl) dX1_next_29 (fun H locs hP hD hS => ?_)
      have hP : va_P (dC, dI) vwCl [(aB, .inl (cB, R, .inl Bf)), (aS, .inl (cS, R, .inl Sf)), (aO, .inl (cO, 512, .inl Of)), (aP, .inr (1, [.ref aR, .ref aX, .int (nI ts), .ref aO, .int (nI os), .int (nI 0), .int fr, .int to, .int (nI u10), .int (nI co), .int (nI dr), .int (nI de)])), (aR, .inr (0, [.int (nI R), .ref aB, .ref aS, .ref aT, .int (nI (lo % R)), .int (nI (hi - lo)), .int (nI (off hi % R)), .int (nI (off hi - off lo))])), (aT, .inl (cT, R, .inl Tf))] H := hP
      have hD : va_D A [(aB, .inl (cB, R, .inl Bf)), (aS, .inl (cS, R, .inl Sf)), (aO, .inl (cO, 512, .inl Of)), (aP, .inr (1, [.ref aR, .ref aX, .int (nI ts), .ref aO, .int (nI os), .int (nI 0), .int fr, .int to, .int (nI u10), .int (nI co), .int (nI dr), .int (nI de)])), (aR, .inr (0, [.int (nI R), .ref aB, .ref aS, .ref aT, .int (nI (lo % R)), .int (nI (hi - lo)), .int (nI (off hi % R)), .int (nI (off hi - off lo))])), (aT, .inl (cT, R, .inl Tf))] := hD
      refine lv_iconst (v := (-1)) hx hb dX1_next_32 (by decide) ?_
      have hP := hP.sub (ws' := [(aP, .inr (1, [.ref aR, .ref aX, .int (nI ts), .ref aO, .int (nI os), .int (nI 0), .int fr, .int to, .int (nI u10), .int (nI co), .int (nI dr), .int (nI de)])), (aR, .inr (0, [.int (nI R), .ref aB, .ref aS, .ref aT, .int (nI (lo % R)), .int (nI (hi - lo)), .int (nI (off hi % R)), .int (nI (off hi - off lo))])), (aB, .inl (cB, R, .inl Bf)), (aS, .inl (cS, R, .inl Sf)), (aT, .inl (cT, R, .inl Tf)), (aO, .inl (cO, 512, .inl Of))]) [3, 4, 0, 1, 5, 2] rfl
      have hD := hD.sub (ws' := [(aP, .inr (1, [.ref aR, .ref aX, .int (nI ts), .ref aO, .int (nI os), .int (nI 0), .int fr, .int to, .int (nI u10), .int (nI co), .int (nI dr), .int (nI de)])), (aR, .inr (0, [.int (nI R), .ref aB, .ref aS, .ref aT, .int (nI (lo % R)), .int (nI (hi - lo)), .int (nI (off hi % R)), .int (nI (off hi - off lo))])), (aB, .inl (cB, R, .inl Bf)), (aS, .inl (cS, R, .inl Sf)), (aT, .inl (cT, R, .inl Tf)), (aO, .inl (cO, 512, .inl Of))]) [3, 4, 0, 1, 5, 2] (by decide) rfl
      exact W.iret (v := ((-1))) hx hb hr (fun t ht hW => ⟨⟨_, (u10, 0, os, Of), rfl, ⟨u10, q1, q2, q3, Or.inl ⟨by omega, rfl, rfl⟩⟩, by rw [ht]; exact hP, va_K.moved hW.alike hK, hD⟩, hS.F ht⟩) hS.2.2 dX1_next_33
  · exact absurd c4 (by decide)
set_option maxHeartbeats 4000000 in
set_option maxRecDepth 100000 in
/-- out(j) -/
theorem c_P_out (l : Launch) (dC : Nat → ClassId) (dI : Nat → Nat → Nat) (aP aR aX aO ts os uw : Nat) (fr to : Int32) (pw co dr de : Nat) (cO : ClassId) (Of oz : Nat → Int32) (j : Int32) (hos : os ≤ 512) (hO : ∀ t, t < os → Of t = (oz t).toInt8.toInt32) : Met l yX1_out wsX1_out ({ frames := 0, cells := 0, slots := 0, locals := 0 }) (va_Pc [.ref aP, .int j] (fun U => va_P (dC, dI) vwCl [(aP, .inr (1, [.ref aR, .ref aX, .int (nI ts), .ref aO, .int (nI os), .int (nI uw), .int fr, .int to, .int (nI pw), .int (nI co), .int (nI dr), .int (nI de)])), (aO, .inl (cO, 512, .inl Of))] U.heap ∧ va_K (dC, dI) vwCl [(cO, .byte)] U)) (vp_Si (fun r => r = md_out os oz j)) 0 0 (fun _ => False) := by
  refine Met.ofW (cc := cX1_out) (maxL := 2) (ret := (some .int)) (by decide) rfl ?_
  intro p e s m args below meth c s₁ B hml hv
  obtain ⟨rfl, hP, hK⟩ := hv
  have hx := B.exec
  have hb := B.bytes
  have hr := B.returns
  have hts := atoms_spec (ws := wsX1_out) B.pre
  have hown : s.vm.findClass RX1 = some m.cls := findClass_of_methodNamed B.named
  have hlocks := B.notSynchronized
  have hi_P : ∀ w ∈ u_ws RX1 TX1 12, w ∈ wsX1_out := by decide +kernel
  have hP : va_P (dC, dI) vwCl [(aP, .inr (1, [.ref aR, .ref aX, .int (nI ts), .ref aO, .int (nI os), .int (nI uw), .int fr, .int to, .int (nI pw), .int (nI co), .int (nI dr), .int (nI de)])), (aO, .inl (cO, 512, .inl Of))] s.heap := hP
  have hl := lv_entry ([.ref aP, .int j]) (n := 2) (Nat.le_of_ble_eq_true rfl)
  rw [lg_entry_eq]
  generalize (lg_sl ([.ref aP, .int j]) ++ List.replicate (2 - (lg_sl ([.ref aP, .int j])).length) Slot.unset).toArray = ls at hl ⊢
  have hl : lv_has ls 2 [(0, .ref aP), (1, .int j)] := hl
  refine lv_iload_n hx hb dX1_out_0 rfl (lv_at hl 1 rfl) ?_
  refine lv_if_lt (tgt := 12) hx hb dX1_out_1 (by decide) (fun c1 => ?_) (fun c1 => ?_)
  · refine lv_iconst (v := (-1)) hx hb dX1_out_12 (by decide) ?_
    exact W.iret (v := ((-1))) hx hb hr (fun t ht hW => ⟨_, rfl, by unfold md_out; rw [md_ix_none (fun ⟨q, h1, h2⟩ => nI_pos (n := q) (by omega) (h2 ▸ c1)) (by omega)], ht⟩) (fun q hq => by cases hq) dX1_out_13
  · refine lv_iload_n hx hb dX1_out_4 rfl (lv_at hl 1 rfl) ?_
    refine lv_aload_n hx hb dX1_out_5 rfl (lv_at hl 0 rfl) ?_
    refine va_get (D := (dC, dI)) (ci := 1) (v := .int (nI os)) (C := RX1) (T := TX1) (N := 12) hx hb hts hi_P hown hK hP 0 rfl rfl 4 (by decide) (hts (.fieldLink RX1 91 "PacketStore" "outputSize" "I") (by decide +kernel)) (fun _ h9 => h9) rfl dX1_out_6 ?_
    refine lv_icmp_lt (tgt := 14) hx hb dX1_out_9 (by decide) (fun c9 => ?_) (fun c9 => ?_)
    · obtain ⟨g, hg, eg⟩ := (pk_ix j (show os < 2 ^ 31 by omega)).elim (fun h => absurd h c1) (fun h => h.elim (fun h => absurd c9 (Int32.not_lt.mpr h)) id)
      subst eg
      refine lv_aload_n hx hb dX1_out_14 rfl (lv_at hl 0 rfl) ?_
      refine va_get (D := (dC, dI)) (ci := 1) (v := .ref aO) (C := RX1) (T := TX1) (N := 12) hx hb hts hi_P hown hK hP 0 rfl rfl 3 (by decide) (hts (.fieldLink RX1 31 "PacketStore" "output" "[B") (by decide +kernel)) (fun _ h9 => h9) rfl dX1_out_15 ?_
      refine lv_iload_n hx hb dX1_out_18 rfl (lv_at hl 1 rfl) ?_
      refine zz_bald hx hb hK hP 1 0 rfl rfl (j := g) (by omega) (by omega) dX1_out_19 ?_
      refine lv_sipush (v := nI 255) hx hb dX1_out_20 (by decide) ?_
      refine lv_iand hx hb dX1_out_23 ?_
      exact W.iret (v := (((Of g)) &&& ((nI 255)))) hx hb hr (fun t ht hW => ⟨_, rfl, by unfold md_out; rw [md_ix_some hg (by omega), hO g hg]; exact zz_255 _, ht⟩) (fun q hq => by cases hq) dX1_out_24
    · refine lv_iconst (v := (-1)) hx hb dX1_out_12 (by decide) ?_
      exact W.iret (v := ((-1))) hx hb hr (fun t ht hW => ⟨_, rfl, by unfold md_out; rw [md_ix_none (fun ⟨q, h1, h2⟩ => c9 (h2 ▸ nI_lt h1 (by omega))) (by omega)], ht⟩) (fun q hq => by cases hq) dX1_out_13
end
section
set_option maxHeartbeats 4000000 in
set_option maxRecDepth 100000 in
/-- count(what) -/
theorem c_P_count (l : Launch) (dC : Nat → ClassId) (dI : Nat → Nat → Nat) (aP aR aX aO ts os uw : Nat) (fr to : Int32) (pw co dr de : Nat) (aB aS aT R o n en us : Nat) (what : Int32) (huw : uw ≤ 1) : Met l yX1_count wsX1_count ({ frames := 1, cells := 0, slots := 0, locals := 20 }) (va_Pc [.ref aP, .int what] (fun U => va_P (dC, dI) vwCl [(aP, .inr (1, [.ref aR, .ref aX, .int (nI ts), .ref aO, .int (nI os), .int (nI uw), .int fr, .int to, .int (nI pw), .int (nI co), .int (nI dr), .int (nI de)])), (aR, .inr (0, [.int (nI R), .ref aB, .ref aS, .ref aT, .int (nI o), .int (nI n), .int (nI en), .int (nI us)]))] U.heap ∧ va_K (dC, dI) vwCl [] U)) (vp_Si (fun r => r = md_count what n us co dr de uw os R)) 0 0 (fun _ => False) := by
  refine Met.ofW (cc := cX1_count) (maxL := 2) (ret := (some .int)) (by decide) rfl ?_
  intro p e s m args below meth c s₁ B hml hv
  obtain ⟨rfl, hP, hK⟩ := hv
  have hx := B.exec
  have hb := B.bytes
  have hr := B.returns
  have hts := atoms_spec (ws := wsX1_count) B.pre
  have hown : s.vm.findClass RX1 = some m.cls := findClass_of_methodNamed B.named
  have hlocks := B.notSynchronized
  have hi_P : ∀ w ∈ u_ws RX1 TX1 12, w ∈ wsX1_count := by decide +kernel
  have hP : va_P (dC, dI) vwCl [(aP, .inr (1, [.ref aR, .ref aX, .int (nI ts), .ref aO, .int (nI os), .int (nI uw), .int fr, .int to, .int (nI pw), .int (nI co), .int (nI dr), .int (nI de)])), (aR, .inr (0, [.int (nI R), .ref aB, .ref aS, .ref aT, .int (nI o), .int (nI n), .int (nI en), .int (nI us)]))] s.heap := hP
  have hl := lv_entry ([.ref aP, .int what]) (n := 2) (Nat.le_of_ble_eq_true rfl)
  rw [lg_entry_eq]
  generalize (lg_sl ([.ref aP, .int what]) ++ List.replicate (2 - (lg_sl ([.ref aP, .int what])).length) Slot.unset).toArray = ls at hl ⊢
  have hl : lv_has ls 2 [(0, .ref aP), (1, .int what)] := hl
  refine lv_iload_n hx hb dX1_count_0 rfl (lv_at hl 1 rfl) ?_
  rcases zz_sw what 8 (by decide) with ⟨k9, hk9, e9⟩ | h9
  · rcases (show k9 = 0 ∨ k9 = 1 ∨ k9 = 2 ∨ k9 = 3 ∨ k9 = 4 ∨ k9 = 5 ∨ k9 = 6 ∨ k9 = 7 by omega) with rfl | rfl | rfl | rfl | rfl | rfl | rfl | rfl <;> subst e9
    · refine lv_tableIn (off := 47) (tgt := 48) hx hb dX1_count_1 (by decide) (by decide) (by decide) (by decide) ?_
      refine lv_aload_n hx hb dX1_count_48 rfl (lv_at hl 0 rfl) ?_
      refine va_get (D := (dC, dI)) (ci := 1) (v := .ref aR) (C := RX1) (T := TX1) (N := 12) hx hb hts hi_P hown hK hP 0 rfl rfl 0 (by decide) (hts (.fieldLink RX1 23 "PacketStore" "ring" "LPacketStore$Ring;") (by decide +kernel)) (fun _ h9 => h9) rfl dX1_count_49 ?_
      refine zz_callR (As := []) (rest := []) ⟨hx, hb, hml, hown, hts⟩ (c_R_packets l dC dI aR aB aS aT R o n en us) (cwV 0 hts gX1_count_X0_packets rfl rfl rfl (by decide +kernel) ⟨Nat.le_of_ble_eq_true rfl, Nat.le_of_ble_eq_true rfl⟩) (hP.sub [1] rfl) (hK.sub [] rfl) 0 rfl rfl rfl rfl hl.1 rfl (Nat.le_of_ble_eq_true rfl) dX1_count_52 ⟨Nat.zero_le _, Nat.zero_le _⟩ (fun r52 e52 => ?_)
      subst e52
      exact W.iret (v := (nI n)) hx hb hr (fun t ht hW => ⟨_, rfl, by unfold md_count; rw [if_pos rfl], ht⟩) (fun q hq => by cases hq) dX1_count_55
    · refine lv_tableIn (off := 55) (tgt := 56) hx hb dX1_count_1 (by decide) (by decide) (by decide) (by decide) ?_
      refine lv_aload_n hx hb dX1_count_56 rfl (lv_at hl 0 rfl) ?_
      refine va_get (D := (dC, dI)) (ci := 1) (v := .ref aR) (C := RX1) (T := TX1) (N := 12) hx hb hts hi_P hown hK hP 0 rfl rfl 0 (by decide) (hts (.fieldLink RX1 23 "PacketStore" "ring" "LPacketStore$Ring;") (by decide +kernel)) (fun _ h9 => h9) rfl dX1_count_57 ?_
      refine zz_callR (As := []) (rest := []) ⟨hx, hb, hml, hown, hts⟩ (c_R_used l dC dI aR aB aS aT R o n en us) (cwV 0 hts gX1_count_X0_used rfl rfl rfl (by decide +kernel) ⟨Nat.le_of_ble_eq_true rfl, Nat.le_of_ble_eq_true rfl⟩) (hP.sub [1] rfl) (hK.sub [] rfl) 0 rfl rfl rfl rfl hl.1 rfl (Nat.le_of_ble_eq_true rfl) dX1_count_60 ⟨Nat.zero_le _, Nat.zero_le _⟩ (fun r60 e60 => ?_)
      subst e60
      exact W.iret (v := (nI us)) hx hb hr (fun t ht hW => ⟨_, rfl, by unfold md_count; rw [if_neg (by decide), if_pos rfl], ht⟩) (fun q hq => by cases hq) dX1_count_63
    · refine lv_tableIn (off := 63) (tgt := 64) hx hb dX1_count_1 (by decide) (by decide) (by decide) (by decide) ?_
      refine lv_aload_n hx hb dX1_count_64 rfl (lv_at hl 0 rfl) ?_
      refine va_get (D := (dC, dI)) (ci := 1) (v := .int (nI co)) (C := RX1) (T := TX1) (N := 12) hx hb hts hi_P hown hK hP 0 rfl rfl 9 (by decide) (hts (.fieldLink RX1 53 "PacketStore" "come" "I") (by decide +kernel)) (fun _ h9 => h9) rfl dX1_count_65 ?_
      exact W.iret (v := (nI co)) hx hb hr (fun t ht hW => ⟨_, rfl, by unfold md_count; rw [if_neg (by decide), if_neg (by decide), if_pos rfl], ht⟩) (fun q hq => by cases hq) dX1_count_68
    · refine lv_tableIn (off := 68) (tgt := 69) hx hb dX1_count_1 (by decide) (by decide) (by decide) (by decide) ?_
      refine lv_aload_n hx hb dX1_count_69 rfl (lv_at hl 0 rfl) ?_
      refine va_get (D := (dC, dI)) (ci := 1) (v := .int (nI dr)) (C := RX1) (T := TX1) (N := 12) hx hb hts hi_P hown hK hP 0 rfl rfl 10 (by decide) (hts (.fieldLink RX1 50 "PacketStore" "drivenOut" "I") (by decide +kernel)) (fun _ h9 => h9) rfl dX1_count_70 ?_
      exact W.iret (v := (nI dr)) hx hb hr (fun t ht hW => ⟨_, rfl, by unfold md_count; rw [if_neg (by decide), if_neg (by decide), if_neg (by decide), if_pos rfl], ht⟩) (fun q hq => by cases hq) dX1_count_73
    · refine lv_tableIn (off := 73) (tgt := 74) hx hb dX1_count_1 (by decide) (by decide) (by decide) (by decide) ?_
      refine lv_aload_n hx hb dX1_count_74 rfl (lv_at hl 0 rfl) ?_
      refine va_get (D := (dC, dI)) (ci := 1) (v := .int (nI de)) (C := RX1) (T := TX1) (N := 12) hx hb hts hi_P hown hK hP 0 rfl rfl 11 (by decide) (hts (.fieldLink RX1 65 "PacketStore" "deleted" "I") (by decide +kernel)) (fun _ h9 => h9) rfl dX1_count_75 ?_
      exact W.iret (v := (nI de)) hx hb hr (fun t ht hW => ⟨_, rfl, by unfold md_count; rw [if_neg (by decide), if_neg (by decide), if_neg (by decide), if_neg (by decide), if_pos rfl], ht⟩) (fun q hq => by cases hq) dX1_count_78
    · refine lv_tableIn (off := 78) (tgt := 79) hx hb dX1_count_1 (by decide) (by decide) (by decide) (by decide) ?_
      refine lv_aload_n hx hb dX1_count_79 rfl (lv_at hl 0 rfl) ?_
      refine va_get (D := (dC, dI)) (ci := 1) (v := .int (nI uw)) (C := RX1) (T := TX1) (N := 12) hx hb hts hi_P hown hK hP 0 rfl rfl 5 (by decide) (hts (.fieldLink RX1 68 "PacketStore" "underWay" "Z") (by decide +kernel)) (fun _ h9 => h9) rfl dX1_count_80 ?_
      refine zz_if_eq (a := uw) (tgt := 90) hx hb dX1_count_83 (by decide) (by omega) (fun c83 => ?_) (fun c83 => ?_)
      · refine lv_iconst (v := nI 0) hx hb dX1_count_90 (by decide) ?_
        exact W.iret (v := (nI 0)) hx hb hr (fun t ht hW => ⟨_, rfl, by unfold md_count; rw [if_neg (by decide), if_neg (by decide), if_neg (by decide), if_neg (by decide), if_neg (by decide), if_pos rfl, c83], ht⟩) (fun q hq => by cases hq) dX1_count_91
      · refine lv_iconst (v := nI 1) hx hb dX1_count_86 (by decide) ?_
        refine lv_goto (tgt := 91) hx hb dX1_count_87 (by decide) ?_
        exact W.iret (v := (nI 1)) hx hb hr (fun t ht hW => ⟨_, rfl, by unfold md_count; rw [if_neg (by decide), if_neg (by decide), if_neg (by decide), if_neg (by decide), if_neg (by decide), if_pos rfl, show uw = 1 by omega], ht⟩) (fun q hq => by cases hq) dX1_count_91
    · refine lv_tableIn (off := 91) (tgt := 92) hx hb dX1_count_1 (by decide) (by decide) (by decide) (by decide) ?_
      refine lv_aload_n hx hb dX1_count_92 rfl (lv_at hl 0 rfl) ?_
      refine va_get (D := (dC, dI)) (ci := 1) (v := .int (nI os)) (C := RX1) (T := TX1) (N := 12) hx hb hts hi_P hown hK hP 0 rfl rfl 4 (by decide) (hts (.fieldLink RX1 91 "PacketStore" "outputSize" "I") (by decide +kernel)) (fun _ h9 => h9) rfl dX1_count_93 ?_
      exact W.iret (v := (nI os)) hx hb hr (fun t ht hW => ⟨_, rfl, by unfold md_count; rw [if_neg (by decide), if_neg (by decide), if_neg (by decide), if_neg (by decide), if_neg (by decide), if_neg (by decide), if_pos rfl], ht⟩) (fun q hq => by cases hq) dX1_count_96
    · refine lv_tableIn (off := 96) (tgt := 97) hx hb dX1_count_1 (by decide) (by decide) (by decide) (by decide) ?_
      refine lv_aload_n hx hb dX1_count_97 rfl (lv_at hl 0 rfl) ?_
      refine va_get (D := (dC, dI)) (ci := 1) (v := .ref aR) (C := RX1) (T := TX1) (N := 12) hx hb hts hi_P hown hK hP 0 rfl rfl 0 (by decide) (hts (.fieldLink RX1 23 "PacketStore" "ring" "LPacketStore$Ring;") (by decide +kernel)) (fun _ h9 => h9) rfl dX1_count_98 ?_
      refine zz_callR (As := []) (rest := []) ⟨hx, hb, hml, hown, hts⟩ (c_R_room l dC dI aR aB aS aT R o n en us) (cwV 0 hts gX1_count_X0_room rfl rfl rfl (by decide +kernel) ⟨Nat.le_of_ble_eq_true rfl, Nat.le_of_ble_eq_true rfl⟩) (hP.sub [1] rfl) (hK.sub [] rfl) 0 rfl rfl rfl rfl hl.1 rfl (Nat.le_of_ble_eq_true rfl) dX1_count_101 ⟨Nat.zero_le _, Nat.zero_le _⟩ (fun r101 e101 => ?_)
      subst e101
      exact W.iret (v := (nI R)) hx hb hr (fun t ht hW => ⟨_, rfl, by unfold md_count; rw [if_neg (by decide), if_neg (by decide), if_neg (by decide), if_neg (by decide), if_neg (by decide), if_neg (by decide), if_neg (by decide), if_pos rfl], ht⟩) (fun q hq => by cases hq) dX1_count_104
  · refine lv_tableOut (tgt := 105) hx hb dX1_count_1 (h9.elim Or.inl (fun h => Or.inr (by omega))) (by decide) ?_
    refine lv_iconst (v := (-1)) hx hb dX1_count_105 (by decide) ?_
    exact W.iret (v := ((-1))) hx hb hr (fun t ht hW => ⟨_, rfl, by unfold md_count; rw [if_neg (zz_swne h9 (k := 0) (by decide) (by decide)), if_neg (zz_swne h9 (k := 1) (by decide) (by decide)), if_neg (zz_swne h9 (k := 2) (by decide) (by decide)), if_neg (zz_swne h9 (k := 3) (by decide) (by decide)), if_neg (zz_swne h9 (k := 4) (by decide) (by decide)), if_neg (zz_swne h9 (k := 5) (by decide) (by decide)), if_neg (zz_swne h9 (k := 6) (by decide) (by decide)), if_neg (zz_swne h9 (k := 7) (by decide) (by decide))], ht⟩) (fun q hq => by cases hq) dX1_count_106
theorem zz_look {x : Int32} {a b d : Int} (h : x.toInt < 0 ∨ ((2 : Nat) : Int) - 1 < x.toInt) : Op.lookupswitch.offset [(0, a), (1, b)] d x.toInt = d := by
  have h0 : ¬ x.toInt = 0 := by omega
  have h1 : ¬ x.toInt = 1 := by omega
  simp [Op.lookupswitch.offset, h0, h1, Ne.symm h0, Ne.symm h1]
  try omega
set_option maxHeartbeats 4000000 in
set_option maxRecDepth 100000 in
/-- about(k, what) -/
theorem c_P_about (l : Launch) (dC : Nat → ClassId) (dI : Nat → Nat → Nat) (aP aR aB aS aT aX aO R lo hi : Nat) (off : Nat → Nat) (ts os uw : Nat) (fr to : Int32) (pa co dr de : Nat) (cS cT : ClassId) (Sf Tf tm : Nat → Int32) (k what : Int32) (hok : rg_ok R lo hi off) (hst : ∀ i, lo ≤ i → i < hi → Sf (i % R) = nI (off i % R)) (htm : ∀ i, lo ≤ i → i < hi → Tf (i % R) = tm i) : Met l yX1_about wsX1_about ({ frames := 3, cells := 0, slots := 0, locals := 65 }) (va_Pc [.ref aP, .int k, .int what] (fun U => va_P (dC, dI) vwCl [(aP, .inr (1, [.ref aR, .ref aX, .int (nI ts), .ref aO, .int (nI os), .int (nI uw), .int fr, .int to, .int (nI (pa - lo)), .int (nI co), .int (nI dr), .int (nI de)])), (aR, .inr (0, [.int (nI R), .ref aB, .ref aS, .ref aT, .int (nI (lo % R)), .int (nI (hi - lo)), .int (nI (off hi % R)), .int (nI (off hi - off lo))])), (aS, .inl (cS, R, .inl Sf)), (aT, .inl (cT, R, .inl Tf))] U.heap ∧ va_K (dC, dI) vwCl [(cS, .int), (cT, .int)] U)) (vp_Si (fun r => r = md_about (hi - lo) (fun j => tm (lo + j)) (fun j => off (lo + j + 1) - off (lo + j)) k what)) 0 0 (fun _ => False) := by
  refine Met.ofW (cc := cX1_about) (maxL := 3) (ret := (some .int)) (by decide) rfl ?_
  intro p e s m args below meth c s₁ B hml hv
  obtain ⟨rfl, hP, hK⟩ := hv
  have hx := B.exec
  have hb := B.bytes
  have hr := B.returns
  have hts := atoms_spec (ws := wsX1_about) B.pre
  have hown : s.vm.findClass RX1 = some m.cls := findClass_of_methodNamed B.named
  have hlocks := B.notSynchronized
  have hi_P : ∀ w ∈ u_ws RX1 TX1 12, w ∈ wsX1_about := by decide +kernel
  have hP : va_P (dC, dI) vwCl [(aP, .inr (1, [.ref aR, .ref aX, .int (nI ts), .ref aO, .int (nI os), .int (nI uw), .int fr, .int to, .int (nI (pa - lo)), .int (nI co), .int (nI dr), .int (nI de)])), (aR, .inr (0, [.int (nI R), .ref aB, .ref aS, .ref aT, .int (nI (lo % R)), .int (nI (hi - lo)), .int (nI (off hi % R)), .int (nI (off hi - off lo))])), (aS, .inl (cS, R, .inl Sf)), (aT, .inl (cT, R, .inl Tf))] s.heap := hP
  have hl := lv_entry ([.ref aP, .int k, .int what]) (n := 3) (Nat.le_of_ble_eq_true rfl)
  rw [lg_entry_eq]
  generalize (lg_sl ([.ref aP, .int k, .int what]) ++ List.replicate (3 - (lg_sl ([.ref aP, .int k, .int what])).length) Slot.unset).toArray = ls at hl ⊢
  have hl : lv_has ls 3 [(0, .ref aP), (1, .int k), (2, .int what)] := hl
  have hRR := hok.1
  have hll := hok.2.1
  have hcap := hok.2.2.1
  have hgap := hok.gap (Nat.le_refl lo) hll (Nat.le_refl hi)
  refine lv_aload_n hx hb dX1_about_0 rfl (lv_at hl 0 rfl) ?_
  refine va_get (D := (dC, dI)) (ci := 1) (v := .ref aR) (C := RX1) (T := TX1) (N := 12) hx hb hts hi_P hown hK hP 0 rfl rfl 0 (by decide) (hts (.fieldLink RX1 23 "PacketStore" "ring" "LPacketStore$Ring;") (by decide +kernel)) (fun _ h9 => h9) rfl dX1_about_1 ?_
  refine lv_iload_n hx hb dX1_about_4 rfl (lv_at hl 1 rfl) ?_
  refine zz_callR (As := [.int k]) (rest := []) ⟨hx, hb, hml, hown, hts⟩ (c_R_has l dC dI aR aB aS aT R (lo % R) (hi - lo) (off hi % R) (off hi - off lo) k (by omega)) (cwV 1 hts gX1_about_X0_has rfl rfl rfl (by decide +kernel) ⟨Nat.le_of_ble_eq_true rfl, Nat.le_of_ble_eq_true rfl⟩) (hP.sub [1] rfl) (hK.sub [] rfl) 0 rfl rfl rfl rfl hl.1 rfl (Nat.le_of_ble_eq_true rfl) dX1_about_5 ⟨Nat.zero_le _, Nat.zero_le _⟩ (fun r5 e5 => ?_)
  rcases e5 with ⟨e5, eh⟩ | ⟨e5, i, hi9, eh⟩ <;> subst e5
  · refine zz_if_ne (a := 0) (tgt := 13) hx hb dX1_about_8 (by decide) (by decide) (fun c8 => ?_) (fun c8 => ?_)
    · exact absurd rfl c8
    · refine lv_iconst (v := (-1)) hx hb dX1_about_11 (by decide) ?_
      exact W.iret (v := ((-1))) hx hb hr (fun t ht hW => ⟨_, rfl, by unfold md_about; rw [md_ix_none eh (by omega)], ht⟩) (fun q hq => by cases hq) dX1_about_12
  · subst eh
    refine zz_if_ne (a := 1) (tgt := 13) hx hb dX1_about_8 (by decide) (by decide) (fun c8 => ?_) (fun c8 => ?_)
    · refine lv_iload_n hx hb dX1_about_13 rfl (lv_at hl 2 rfl) ?_
      rcases zz_sw what 2 (by decide) with ⟨k9, hk9, e9⟩ | h9
      · rcases (show k9 = 0 ∨ k9 = 1 by omega) with rfl | rfl <;> subst e9
        · refine lv_lookup (off := 26) (tgt := 40) hx hb dX1_about_14 (by decide) (by decide) (by decide) ?_
          refine lv_aload_n hx hb dX1_about_40 rfl (lv_at hl 0 rfl) ?_
          refine va_get (D := (dC, dI)) (ci := 1) (v := .ref aR) (C := RX1) (T := TX1) (N := 12) hx hb hts hi_P hown hK hP 0 rfl rfl 0 (by decide) (hts (.fieldLink RX1 23 "PacketStore" "ring" "LPacketStore$Ring;") (by decide +kernel)) (fun _ h9 => h9) rfl dX1_about_41 ?_
          refine lv_iload_n hx hb dX1_about_44 rfl (lv_at hl 1 rfl) ?_
          refine zz_callR (As := [.int (nI i)]) (rest := []) ⟨hx, hb, hml, hown, hts⟩ (c_R_timeOf l dC dI aR aB aS aT R (lo % R) (hi - lo) (off hi % R) (off hi - off lo) cT Tf i (Nat.mod_lt _ (by omega)) (by omega) (by omega)) (cwV 1 hts gX1_about_X0_timeOf rfl rfl rfl (by decide +kernel) ⟨Nat.le_of_ble_eq_true rfl, Nat.le_of_ble_eq_true rfl⟩) (hP.sub [1, 3] rfl) (hK.sub [1] rfl) 0 rfl rfl rfl rfl hl.1 rfl (Nat.le_of_ble_eq_true rfl) dX1_about_45 ⟨Nat.zero_le _, Nat.zero_le _⟩ (fun r45 e45 => ?_)
          subst e45
          refine zz_as (tm (lo + i)) (by rw [Nat.mod_add_mod]; exact htm (lo + i) (by omega) (by omega)) ?_
          exact W.iret (v := (tm (lo + i))) hx hb hr (fun t ht hW => ⟨_, rfl, by unfold md_about; rw [md_ix_some hi9 (by omega)]; exact (if_pos rfl).symm, ht⟩) (fun q hq => by cases hq) dX1_about_48
        · refine lv_lookup (off := 35) (tgt := 49) hx hb dX1_about_14 (by decide) (by decide) (by decide) ?_
          refine lv_aload_n hx hb dX1_about_49 rfl (lv_at hl 0 rfl) ?_
          refine va_get (D := (dC, dI)) (ci := 1) (v := .ref aR) (C := RX1) (T := TX1) (N := 12) hx hb hts hi_P hown hK hP 0 rfl rfl 0 (by decide) (hts (.fieldLink RX1 23 "PacketStore" "ring" "LPacketStore$Ring;") (by decide +kernel)) (fun _ h9 => h9) rfl dX1_about_50 ?_
          refine lv_iload_n hx hb dX1_about_53 rfl (lv_at hl 1 rfl) ?_
          refine zz_callR (As := [.int (nI i)]) (rest := []) ⟨hx, hb, hml, hown, hts⟩ (c_R_sizeOf l dC dI aR aB aS aT R lo hi off (off hi - off lo) cS Sf i hok hst (by omega)) (cwV 1 hts gX1_about_X0_sizeOf rfl rfl rfl (by decide +kernel) ⟨Nat.le_of_ble_eq_true rfl, Nat.le_of_ble_eq_true rfl⟩) (hP.sub [1, 2] rfl) (hK.sub [0] rfl) 0 rfl rfl rfl rfl hl.1 rfl (Nat.le_of_ble_eq_true rfl) dX1_about_54 ⟨Nat.zero_le _, Nat.zero_le _⟩ (fun r54 e54 => ?_)
          subst e54
          exact W.iret (v := (nI (off (lo + i + 1) - off (lo + i)))) hx hb hr (fun t ht hW => ⟨_, rfl, by unfold md_about; rw [md_ix_some hi9 (by omega)]; exact ((if_neg (by decide)).trans (if_pos rfl)).symm, ht⟩) (fun q hq => by cases hq) dX1_about_57
      · refine lv_lookup (off := 44) (tgt := 58) hx hb dX1_about_14 (by decide) (zz_look h9) (by decide) ?_
        refine lv_iconst (v := (-1)) hx hb dX1_about_58 (by decide) ?_
        exact W.iret (v := ((-1))) hx hb hr (fun t ht hW => ⟨_, rfl, by unfold md_about; rw [md_ix_some hi9 (by omega)]; exact ((if_neg (zz_swne h9 (k := 0) (by decide) (by decide))).trans (if_neg (zz_swne h9 (k := 1) (by decide) (by decide)))).symm, ht⟩) (fun q hq => by cases hq) dX1_about_59
    · exact absurd c8 (by decide)
set_option maxHeartbeats 4000000 in
set_option maxRecDepth 100000 in
/-- byteAt(k, j) -/
theorem c_P_byteAt (l : Launch) (dC : Nat → ClassId) (dI : Nat → Nat → Nat) (aP aR aB aS aT aX aO R lo hi : Nat) (off : Nat → Nat) (ts os uw : Nat) (fr to : Int32) (pa co dr de : Nat) (cB cS : ClassId) (Bf Sf bz : Nat → Int32) (k j : Int32) (hok : rg_ok R lo hi off) (hst : ∀ i, lo ≤ i → i < hi → Sf (i % R) = nI (off i % R)) (hbz : ∀ q, off lo ≤ q → q < off hi → Bf (q % R) = (bz q).toInt8.toInt32) (h512 : ∀ i, lo ≤ i → i < hi → off (i + 1) - off i ≤ 512) : Met l yX1_byteAt wsX1_byteAt ({ frames := 3, cells := 0, slots := 0, locals := 65 }) (va_Pc [.ref aP, .int k, .int j] (fun U => va_P (dC, dI) vwCl [(aP, .inr (1, [.ref aR, .ref aX, .int (nI ts), .ref aO, .int (nI os), .int (nI uw), .int fr, .int to, .int (nI (pa - lo)), .int (nI co), .int (nI dr), .int (nI de)])), (aR, .inr (0, [.int (nI R), .ref aB, .ref aS, .ref aT, .int (nI (lo % R)), .int (nI (hi - lo)), .int (nI (off hi % R)), .int (nI (off hi - off lo))])), (aB, .inl (cB, R, .inl Bf)), (aS, .inl (cS, R, .inl Sf))] U.heap ∧ va_K (dC, dI) vwCl [(cB, .byte), (cS, .int)] U)) (vp_Si (fun r => r = md_byteAt (hi - lo) (fun q => off (lo + q + 1) - off (lo + q)) (fun q t => bz (off (lo + q) + t)) k j)) 0 0 (fun _ => False) := by
  refine Met.ofW (cc := cX1_byteAt) (maxL := 3) (ret := (some .int)) (by decide) rfl ?_
  intro p e s m args below meth c s₁ B hml hv
  obtain ⟨rfl, hP, hK⟩ := hv
  have hx := B.exec
  have hb := B.bytes
  have hr := B.returns
  have hts := atoms_spec (ws := wsX1_byteAt) B.pre
  have hown : s.vm.findClass RX1 = some m.cls := findClass_of_methodNamed B.named
  have hlocks := B.notSynchronized
  have hi_P : ∀ w ∈ u_ws RX1 TX1 12, w ∈ wsX1_byteAt := by decide +kernel
  have hP : va_P (dC, dI) vwCl [(aP, .inr (1, [.ref aR, .ref aX, .int (nI ts), .ref aO, .int (nI os), .int (nI uw), .int fr, .int to, .int (nI (pa - lo)), .int (nI co), .int (nI dr), .int (nI de)])), (aR, .inr (0, [.int (nI R), .ref aB, .ref aS, .ref aT, .int (nI (lo % R)), .int (nI (hi - lo)), .int (nI (off hi % R)), .int (nI (off hi - off lo))])), (aB, .inl (cB, R, .inl Bf)), (aS, .inl (cS, R, .inl Sf))] s.heap := hP
  have hl := lv_entry ([.ref aP, .int k, .int j]) (n := 3) (Nat.le_of_ble_eq_true rfl)
  rw [lg_entry_eq]
  generalize (lg_sl ([.ref aP, .int k, .int j]) ++ List.replicate (3 - (lg_sl ([.ref aP, .int k, .int j])).length) Slot.unset).toArray = ls at hl ⊢
  have hl : lv_has ls 3 [(0, .ref aP), (1, .int k), (2, .int j)] := hl
  have hRR := hok.1
  have hll := hok.2.1
  have hcap := hok.2.2.1
  have hgap := hok.gap (Nat.le_refl lo) hll (Nat.le_refl hi)
  refine lv_aload_n hx hb dX1_byteAt_0 rfl (lv_at hl 0 rfl) ?_
  refine va_get (D := (dC, dI)) (ci := 1) (v := .ref aR) (C := RX1) (T := TX1) (N := 12) hx hb hts hi_P hown hK hP 0 rfl rfl 0 (by decide) (hts (.fieldLink RX1 23 "PacketStore" "ring" "LPacketStore$Ring;") (by decide +kernel)) (fun _ h9 => h9) rfl dX1_byteAt_1 ?_
  refine lv_iload_n hx hb dX1_byteAt_4 rfl (lv_at hl 1 rfl) ?_
  refine zz_callR (As := [.int k]) (rest := []) ⟨hx, hb, hml, hown, hts⟩ (c_R_has l dC dI aR aB aS aT R (lo % R) (hi - lo) (off hi % R) (off hi - off lo) k (by omega)) (cwV 1 hts gX1_byteAt_X0_has rfl rfl rfl (by decide +kernel) ⟨Nat.le_of_ble_eq_true rfl, Nat.le_of_ble_eq_true rfl⟩) (hP.sub [1] rfl) (hK.sub [] rfl) 0 rfl rfl rfl rfl hl.1 rfl (Nat.le_of_ble_eq_true rfl) dX1_byteAt_5 ⟨Nat.zero_le _, Nat.zero_le _⟩ (fun r5 e5 => ?_)
  rcases e5 with ⟨e5, eh⟩ | ⟨e5, i, hi9, eh⟩ <;> subst e5
  · refine zz_if_eq (a := 0) (tgt := 27) hx hb dX1_byteAt_8 (by decide) (by decide) (fun c8 => ?_) (fun c8 => ?_)
    · refine lv_iconst (v := (-1)) hx hb dX1_byteAt_27 (by decide) ?_
      exact W.iret (v := ((-1))) hx hb hr (fun t ht hW => ⟨_, rfl, by unfold md_byteAt; rw [md_ix_none eh (by omega)], ht⟩) (fun q hq => by cases hq) dX1_byteAt_28
    · exact absurd rfl c8
  · subst eh
    refine zz_if_eq (a := 1) (tgt := 27) hx hb dX1_byteAt_8 (by decide) (by decide) (fun c8 => ?_) (fun c8 => ?_)
    · exact absurd c8 (by decide)
    · refine lv_iload_n hx hb dX1_byteAt_11 rfl (lv_at hl 2 rfl) ?_
      refine lv_if_lt (tgt := 27) hx hb dX1_byteAt_12 (by decide) (fun c12 => ?_) (fun c12 => ?_)
      · refine lv_iconst (v := (-1)) hx hb dX1_byteAt_27 (by decide) ?_
        exact W.iret (v := ((-1))) hx hb hr (fun t ht hW => ⟨_, rfl, by unfold md_byteAt; rw [md_ix_some hi9 (by omega)]; show _ = match md_ix (off (lo + i + 1) - off (lo + i)) j with | none => (-1 : Int32) | some t => bz (off (lo + i) + t) &&& 255; rw [md_ix_none (fun ⟨q, h1, h2⟩ => nI_pos (n := q) (by have := hok.2.2.1; have := h512 (lo + i) (by omega) (by omega); omega) (h2 ▸ c12)) (by have := h512 (lo + i) (by omega) (by omega); omega)], ht⟩) (fun q hq => by cases hq) dX1_byteAt_28
      · refine lv_iload_n hx hb dX1_byteAt_15 rfl (lv_at hl 2 rfl) ?_
        refine lv_aload_n hx hb dX1_byteAt_16 rfl (lv_at hl 0 rfl) ?_
        refine va_get (D := (dC, dI)) (ci := 1) (v := .ref aR) (C := RX1) (T := TX1) (N := 12) hx hb hts hi_P hown hK hP 0 rfl rfl 0 (by decide) (hts (.fieldLink RX1 23 "PacketStore" "ring" "LPacketStore$Ring;") (by decide +kernel)) (fun _ h9 => h9) rfl dX1_byteAt_17 ?_
        refine lv_iload_n hx hb dX1_byteAt_20 rfl (lv_at hl 1 rfl) ?_
        refine zz_callR (As := [.int (nI i)]) (rest := [.int j]) ⟨hx, hb, hml, hown, hts⟩ (c_R_sizeOf l dC dI aR aB aS aT R lo hi off (off hi - off lo) cS Sf i hok hst (by omega)) (cwV 1 hts gX1_byteAt_X0_sizeOf rfl rfl rfl (by decide +kernel) ⟨Nat.le_of_ble_eq_true rfl, Nat.le_of_ble_eq_true rfl⟩) (hP.sub [1, 3] rfl) (hK.sub [1] rfl) 0 rfl rfl rfl rfl hl.1 rfl (Nat.le_of_ble_eq_true rfl) dX1_byteAt_21 ⟨Nat.zero_le _, Nat.zero_le _⟩ (fun r21 e21 => ?_)
        subst e21
        have hk1 : off (lo + i) < off (lo + i + 1) := hok.2.2.2 (lo + i) (by omega) (by omega)
        have hk2 : off lo + (lo + i - lo) ≤ off (lo + i) := hok.gap (Nat.le_refl lo) (by omega) (by omega)
        have hk3 : off (lo + i + 1) + (hi - (lo + i + 1)) ≤ off hi := hok.gap (by omega) (by omega) (Nat.le_refl hi)
        refine lv_icmp_lt (tgt := 29) hx hb dX1_byteAt_24 (by decide) (fun c24 => ?_) (fun c24 => ?_)
        · obtain ⟨g, hg, eg⟩ := (pk_ix j (show off (lo + i + 1) - off (lo + i) < 2 ^ 31 by omega)).elim (fun h => absurd h c12) (fun h => h.elim (fun h => absurd c24 (Int32.not_lt.mpr h)) id)
          subst eg
          refine lv_aload_n hx hb dX1_byteAt_29 rfl (lv_at hl 0 rfl) ?_
          refine va_get (D := (dC, dI)) (ci := 1) (v := .ref aR) (C := RX1) (T := TX1) (N := 12) hx hb hts hi_P hown hK hP 0 rfl rfl 0 (by decide) (hts (.fieldLink RX1 23 "PacketStore" "ring" "LPacketStore$Ring;") (by decide +kernel)) (fun _ h9 => h9) rfl dX1_byteAt_30 ?_
          refine lv_iload_n hx hb dX1_byteAt_33 rfl (lv_at hl 1 rfl) ?_
          refine lv_iload_n hx hb dX1_byteAt_34 rfl (lv_at hl 2 rfl) ?_
          refine zz_callR (As := [.int (nI i), .int (nI g)]) (rest := []) ⟨hx, hb, hml, hown, hts⟩ (c_R_byteOf l dC dI aR aB aS aT R lo hi off (off hi - off lo) cB cS Bf Sf bz i g hok hst hbz (by omega) (by omega)) (cwV 2 hts gX1_byteAt_X0_byteOf rfl rfl rfl (by decide +kernel) ⟨Nat.le_of_ble_eq_true rfl, Nat.le_of_ble_eq_true rfl⟩) (hP.sub [1, 2, 3] rfl) (hK.sub [0, 1] rfl) 0 rfl rfl rfl rfl hl.1 rfl (Nat.le_of_ble_eq_true rfl) dX1_byteAt_35 ⟨Nat.zero_le _, Nat.zero_le _⟩ (fun r35 e35 => ?_)
          subst e35
          refine lv_sipush (v := nI 255) hx hb dX1_byteAt_38 (by decide) ?_
          refine lv_iand hx hb dX1_byteAt_41 ?_
          exact W.iret (v := ((((bz (off (lo + i) + g)).toInt8.toInt32)) &&& ((nI 255)))) hx hb hr (fun t ht hW => ⟨_, rfl, by unfold md_byteAt; rw [md_ix_some hi9 (by omega)]; show _ = match md_ix (off (lo + i + 1) - off (lo + i)) (nI g) with | none => (-1 : Int32) | some t => bz (off (lo + i) + t) &&& 255; rw [md_ix_some hg (by omega)]; exact zz_255 _, ht⟩) (fun q hq => by cases hq) dX1_byteAt_42
        · refine lv_iconst (v := (-1)) hx hb dX1_byteAt_27 (by decide) ?_
          exact W.iret (v := ((-1))) hx hb hr (fun t ht hW => ⟨_, rfl, by unfold md_byteAt; rw [md_ix_some hi9 (by omega)]; show _ = match md_ix (off (lo + i + 1) - off (lo + i)) j with | none => (-1 : Int32) | some t => bz (off (lo + i) + t) &&& 255; rw [md_ix_none (fun ⟨q, h1, h2⟩ => c24 (h2 ▸ nI_lt h1 (by omega))) (by omega)], ht⟩) (fun q hq => by cases hq) dX1_byteAt_28
end
section
set_option maxHeartbeats 4000000 in
set_option maxRecDepth 100000 in
/-- PacketStore$Ring: a new one -/
theorem c_R_init (l : Launch) (dC : Nat → ClassId) (dI : Nat → Nat → Nat) (aR R : Nat) (hR : 64 ≤ R ∧ R ≤ 16384) (hz : Nat) : Met l yX0_init wsX0_init ({ frames := 1, cells := 3, slots := 49152, locals := 16 }) (va_Pc [.ref aR, .int (nI R)] (fun U => U.heap.size = hz ∧ va_P (dC, dI) vwCl [(aR, .inr (0, [.int 0, .null, .null, .null, .int 0, .int 0, .int 0, .int 0]))] U.heap ∧ va_K (dC, dI) vwCl [] U ∧ va_D (fun _ => True) [(aR, .inr (0, [.int 0, .null, .null, .null, .int 0, .int 0, .int 0, .int 0]))])) (va_Qv (fun (u : Unit) => True) (fun u t => ∃ (aB aS aT : Nat) (cB cS cT : ClassId), va_P (dC, dI) vwCl [(aR, .inr (0, [.int (nI R), .ref aB, .ref aS, .ref aT, .int 0, .int 0, .int 0, .int 0])), (aB, .inl (cB, R, .inl (fun _ => 0))), (aS, .inl (cS, R, .inl (fun _ => 0))), (aT, .inl (cT, R, .inl (fun _ => 0)))] t.heap ∧ va_K (dC, dI) vwCl [(cB, .byte), (cS, .int), (cT, .int)] t ∧ va_D (va_A [(aR, .inr (0, [.int 0, .null, .null, .null, .int 0, .int 0, .int 0, .int 0]))] hz) [(aR, .inr (0, [.int (nI R), .ref aB, .ref aS, .ref aT, .int 0, .int 0, .int 0, .int 0])), (aB, .inl (cB, R, .inl (fun _ => 0))), (aS, .inl (cS, R, .inl (fun _ => 0))), (aT, .inl (cT, R, .inl (fun _ => 0)))]) (va_A [(aR, .inr (0, [.int 0, .null, .null, .null, .int 0, .int 0, .int 0, .int 0]))] hz)) 3 49152 (va_A [(aR, .inr (0, [.int 0, .null, .null, .null, .int 0, .int 0, .int 0, .int 0]))] hz) := by
  refine Met.ofW (cc := cX0_init) (maxL := 2) (ret := none) (by decide) rfl ?_
  intro p e s m args below meth c s₁ B hml hv
  obtain ⟨rfl, hsz, hP, hK, hD0⟩ := hv
  have hx := B.exec
  have hb := B.bytes
  have hr := B.returns
  have hts := atoms_spec (ws := wsX0_init) B.pre
  have hown : s.vm.findClass RX0 = some m.cls := findClass_of_methodNamed B.named
  have hlocks := B.notSynchronized
  have hin : meth.name = "<init>" := (name_of_methodNamed B.named B.method).1
  have hi_R : ∀ w ∈ u_ws RX0 TX0 8, w ∈ wsX0_init := by decide +kernel
  subst hsz
  have hD := hD0.self (sz := s.heap.size)
  generalize hAe : va_A [(aR, .inr (0, [.int 0, .null, .null, .null, .int 0, .int 0, .int 0, .int 0]))] s.heap.size = A at hD ⊢
  have hA : ∀ q : Nat, s.heap.size ≤ q → A q := fun q h => by rw [← hAe]; exact Or.inr h
  have hS : va_S A s.heap s.heap [] := va_S.rf
  have hP : va_P (dC, dI) vwCl [(aR, .inr (0, [.int 0, .null, .null, .null, .int 0, .int 0, .int 0, .int 0]))] s.heap := hP
  have hl := lv_entry ([.ref aR, .int (nI R)]) (n := 2) (Nat.le_of_ble_eq_true rfl)
  rw [lg_entry_eq]
  generalize (lg_sl ([.ref aR, .int (nI R)]) ++ List.replicate (2 - (lg_sl ([.ref aR, .int (nI R)])).length) Slot.unset).toArray = ls at hl ⊢
  have hl : lv_has ls 2 [(0, .ref aR), (1, .int (nI R))] := hl
  refine lv_aload_n hx hb dX0_init_0 rfl (lv_at hl 0 rfl) ?_
  refine W.objInit hx hb hown (hts (.methodLink RX0 1 objectInit) (by decide +kernel)) (hts (.instanceMethod objectInit) (by decide +kernel)) (hts (.code objectInit ⟨#[0xb1]⟩ 1 none) (by decide +kernel)) rfl (by rw [hml]; exact hl.1) rfl dX0_init_1 (Nat.le_of_ble_eq_true rfl) (Nat.le_of_ble_eq_true rfl) ?_
  refine W.eq (g2 := F0 m 4 ls []) rfl ?_
  refine lv_aload_n hx hb dX0_init_4 rfl (lv_at hl 0 rfl) ?_
  refine lv_iload_n hx hb dX0_init_5 rfl (lv_at hl 1 rfl) ?_
  refine va_putF (D := (dC, dI)) (ci := 0) (v := .int (nI R)) (ty := .int) (C := RX0) (T := TX0) (N := 8) hx hb hts hi_R tyX0 tyX0_ok nmX0 hown hK hP hD hS 0 rfl rfl 0 (by decide) (hts (.fieldLink RX0 7 "PacketStore$Ring" "room" "I") (by decide +kernel)) (fun _ h9 => h9) rfl hin rfl (by decide +kernel) rfl rfl (Nat.le_of_ble_eq_true rfl) dX0_init_6 (fun H locs hP hD hS => ?_)
  have hP : va_P (dC, dI) vwCl [(aR, .inr (0, [.int (nI R), .null, .null, .null, .int 0, .int 0, .int 0, .int 0]))] H := hP
  have hD : va_D A [(aR, .inr (0, [.int (nI R), .null, .null, .null, .int 0, .int 0, .int 0, .int 0]))] := hD
  refine lv_aload_n hx hb dX0_init_9 rfl (lv_at hl 0 rfl) ?_
  refine lv_iload_n hx hb dX0_init_10 rfl (lv_at hl 1 rfl) ?_
  refine va_newa (atype := .byte) hx hb (hts (.arrayClass .byte) (by decide +kernel)) rfl hK hP hD hS hA (N' := R) (a0 := (R, .inl (fun _ => 0))) (fun _ => rfl) (nI_pos (by omega)) (nI_clamp (by omega)) (by show R * 1 ≤ 536870912; omega) (Nat.le_of_ble_eq_true rfl) (by show 0 + R ≤ 49152; omega) dX0_init_11 (fun aB cB H hK hP hD hS => ?_)
  have hP : va_P (dC, dI) vwCl [(aR, .inr (0, [.int (nI R), .null, .null, .null, .int 0, .int 0, .int 0, .int 0])), (aB, .inl (cB, R, .inl (fun _ => 0)))] H := hP
  have hD : va_D A [(aR, .inr (0, [.int (nI R), .null, .null, .null, .int 0, .int 0, .int 0, .int 0])), (aB, .inl (cB, R, .inl (fun _ => 0)))] := hD
  have hK : va_K (dC, dI) vwCl [(cB, .byte)] s := hK
  refine W.widen (k := 1) (n := 16384) (by omega) (by omega) ?_
  refine va_putF (D := (dC, dI)) (ci := 0) (v := .ref aB) (ty := .array .byte) (C := RX0) (T := TX0) (N := 8) hx hb hts hi_R tyX0 tyX0_ok nmX0 hown hK hP hD hS 0 rfl rfl 1 (by decide) (hts (.fieldLink RX0 13 "PacketStore$Ring" "bytes" "[B") (by decide +kernel)) (fun _ h9 => h9) rfl hin rfl (by decide +kernel) rfl rfl (Nat.le_of_ble_eq_true rfl) dX0_init_13 (fun H locs hP hD hS => ?_)
  have hP : va_P (dC, dI) vwCl [(aR, .inr (0, [.int (nI R), .ref aB, .null, .null, .int 0, .int 0, .int 0, .int 0])), (aB, .inl (cB, R, .inl (fun _ => 0)))] H := hP
  have hD : va_D A [(aR, .inr (0, [.int (nI R), .ref aB, .null, .null, .int 0, .int 0, .int 0, .int 0])), (aB, .inl (cB, R, .inl (fun _ => 0)))] := hD
  refine lv_aload_n hx hb dX0_init_16 rfl (lv_at hl 0 rfl) ?_
  refine lv_iload_n hx hb dX0_init_17 rfl (lv_at hl 1 rfl) ?_
  refine va_newa (atype := .int) hx hb (hts (.arrayClass .int) (by decide +kernel)) rfl hK hP hD hS hA (N' := R) (a0 := (R, .inl (fun _ => 0))) (fun _ => rfl) (nI_pos (by omega)) (nI_clamp (by omega)) (by show R * 4 ≤ 536870912; omega) (Nat.le_of_ble_eq_true rfl) (by show 16384 + R ≤ 49152; omega) dX0_init_18 (fun aS cS H hK hP hD hS => ?_)
  have hP : va_P (dC, dI) vwCl [(aR, .inr (0, [.int (nI R), .ref aB, .null, .null, .int 0, .int 0, .int 0, .int 0])), (aB, .inl (cB, R, .inl (fun _ => 0))), (aS, .inl (cS, R, .inl (fun _ => 0)))] H := hP
  have hD : va_D A [(aR, .inr (0, [.int (nI R), .ref aB, .null, .null, .int 0, .int 0, .int 0, .int 0])), (aB, .inl (cB, R, .inl (fun _ => 0))), (aS, .inl (cS, R, .inl (fun _ => 0)))] := hD
  have hK : va_K (dC, dI) vwCl [(cB, .byte), (cS, .int)] s := hK
  refine W.widen (k := 2) (n := 32768) (by omega) (by omega) ?_
  refine va_putF (D := (dC, dI)) (ci := 0) (v := .ref aS) (ty := .array .int) (C := RX0) (T := TX0) (N := 8) hx hb hts hi_R tyX0 tyX0_ok nmX0 hown hK hP hD hS 0 rfl rfl 2 (by decide) (hts (.fieldLink RX0 17 "PacketStore$Ring" "starts" "[I") (by decide +kernel)) (fun _ h9 => h9) rfl hin rfl (by decide +kernel) rfl rfl (Nat.le_of_ble_eq_true rfl) dX0_init_20 (fun H locs hP hD hS => ?_)
  have hP : va_P (dC, dI) vwCl [(aR, .inr (0, [.int (nI R), .ref aB, .ref aS, .null, .int 0, .int 0, .int 0, .int 0])), (aB, .inl (cB, R, .inl (fun _ => 0))), (aS, .inl (cS, R, .inl (fun _ => 0)))] H := hP
  have hD : va_D A [(aR, .inr (0, [.int (nI R), .ref aB, .ref aS, .null, .int 0, .int 0, .int 0, .int 0])), (aB, .inl (cB, R, .inl (fun _ => 0))), (aS, .inl (cS, R, .inl (fun _ => 0)))] := hD
  refine lv_aload_n hx hb dX0_init_23 rfl (lv_at hl 0 rfl) ?_
  refine lv_iload_n hx hb dX0_init_24 rfl (lv_at hl 1 rfl) ?_
  refine va_newa (atype := .int) hx hb (hts (.arrayClass .int) (by decide +kernel)) rfl hK hP hD hS hA (N' := R) (a0 := (R, .inl (fun _ => 0))) (fun _ => rfl) (nI_pos (by omega)) (nI_clamp (by omega)) (by show R * 4 ≤ 536870912; omega) (Nat.le_of_ble_eq_true rfl) (by show 32768 + R ≤ 49152; omega) dX0_init_25 (fun aT cT H hK hP hD hS => ?_)
  have hP : va_P (dC, dI) vwCl [(aR, .inr (0, [.int (nI R), .ref aB, .ref aS, .null, .int 0, .int 0, .int 0, .int 0])), (aB, .inl (cB, R, .inl (fun _ => 0))), (aS, .inl (cS, R, .inl (fun _ => 0))), (aT, .inl (cT, R, .inl (fun _ => 0)))] H := hP
  have hD : va_D A [(aR, .inr (0, [.int (nI R), .ref aB, .ref aS, .null, .int 0, .int 0, .int 0, .int 0])), (aB, .inl (cB, R, .inl (fun _ => 0))), (aS, .inl (cS, R, .inl (fun _ => 0))), (aT, .inl (cT, R, .inl (fun _ => 0)))] := hD
  have hK : va_K (dC, dI) vwCl [(cB, .byte), (cS, .int), (cT, .int)] s := hK
  refine W.widen (k := 3) (n := 49152) (by omega) (by omega) ?_
  refine va_putF (D := (dC, dI)) (ci := 0) (v := .ref aT) (ty := .array .int) (C := RX0) (T := TX0) (N := 8) hx hb hts hi_R tyX0 tyX0_ok nmX0 hown hK hP hD hS 0 rfl rfl 3 (by decide) (hts (.fieldLink RX0 21 "PacketStore$Ring" "times" "[I") (by decide +kernel)) (fun _ h9 => h9) rfl hin rfl (by decide +kernel) rfl rfl (Nat.le_of_ble_eq_true rfl) dX0_init_27 (fun H locs hP hD hS => ?_)
  have hP : va_P (dC, dI) vwCl [(aR, .inr (0, [.int (nI R), .ref aB, .ref aS, .ref aT, .int 0, .int 0, .int 0, .int 0])), (aB, .inl (cB, R, .inl (fun _ => 0))), (aS, .inl (cS, R, .inl (fun _ => 0))), (aT, .inl (cT, R, .inl (fun _ => 0)))] H := hP
  have hD : va_D A [(aR, .inr (0, [.int (nI R), .ref aB, .ref aS, .ref aT, .int 0, .int 0, .int 0, .int 0])), (aB, .inl (cB, R, .inl (fun _ => 0))), (aS, .inl (cS, R, .inl (fun _ => 0))), (aT, .inl (cT, R, .inl (fun _ => 0)))] := hD
  exact W.vret hx hb hr (fun t ht hW => ⟨⟨(), rfl, trivial, aB, aS, aT, cB, cS, cT, by rw [ht]; exact hP, va_K.moved hW.alike hK, hD⟩, hS.F ht⟩) hS.2.2 dX0_init_30
set_option maxHeartbeats 4000000 in
set_option maxRecDepth 100000 in
/-- PacketStore: a new one -/
theorem c_P_init (l : Launch) (dC : Nat → ClassId) (dI : Nat → Nat → Nat) (aP : Nat) (room : Int32)  (hz : Nat) : Met l yX1_init wsX1_init ({ frames := 2, cells := 6, slots := 50184, locals := 37 }) (va_Pc [.ref aP, .int room] (fun U => U.heap.size = hz ∧ va_P (dC, dI) vwCl [(aP, .inr (1, [.null, .null, .int 0, .null, .int 0, .int 0, .int 0, .int 0, .int 0, .int 0, .int 0, .int 0]))] U.heap ∧ va_K (dC, dI) vwCl [] U ∧ va_D (fun _ => True) [(aP, .inr (1, [.null, .null, .int 0, .null, .int 0, .int 0, .int 0, .int 0, .int 0, .int 0, .int 0, .int 0]))])) (va_Qv (fun (u : Nat) => u = md_room room ∧ 64 ≤ u ∧ u ≤ 16384) (fun u t => ∃ (aR aB aS aT aX aO : Nat) (cB cS cT cX cO : ClassId), va_P (dC, dI) vwCl [(aP, .inr (1, [.ref aR, .ref aX, .int 0, .ref aO, .int 0, .int 0, .int 0, .int 0, .int 0, .int 0, .int 0, .int 0])), (aR, .inr (0, [.int (nI u), .ref aB, .ref aS, .ref aT, .int 0, .int 0, .int 0, .int 0])), (aB, .inl (cB, u, .inl (fun _ => 0))), (aS, .inl (cS, u, .inl (fun _ => 0))), (aT, .inl (cT, u, .inl (fun _ => 0))), (aX, .inl (cX, 512, .inl (fun _ => 0))), (aO, .inl (cO, 512, .inl (fun _ => 0)))] t.heap ∧ va_K (dC, dI) vwCl [(cB, .byte), (cS, .int), (cT, .int), (cX, .byte), (cO, .byte)] t ∧ va_D (va_A [(aP, .inr (1, [.null, .null, .int 0, .null, .int 0, .int 0, .int 0, .int 0, .int 0, .int 0, .int 0, .int 0]))] hz) [(aP, .inr (1, [.ref aR, .ref aX, .int 0, .ref aO, .int 0, .int 0, .int 0, .int 0, .int 0, .int 0, .int 0, .int 0])), (aR, .inr (0, [.int (nI u), .ref aB, .ref aS, .ref aT, .int 0, .int 0, .int 0, .int 0])), (aB, .inl (cB, u, .inl (fun _ => 0))), (aS, .inl (cS, u, .inl (fun _ => 0))), (aT, .inl (cT, u, .inl (fun _ => 0))), (aX, .inl (cX, 512, .inl (fun _ => 0))), (aO, .inl (cO, 512, .inl (fun _ => 0)))]) (va_A [(aP, .inr (1, [.null, .null, .int 0, .null, .int 0, .int 0, .int 0, .int 0, .int 0, .int 0, .int 0, .int 0]))] hz)) 6 50184 (va_A [(aP, .inr (1, [.null, .null, .int 0, .null, .int 0, .int 0, .int 0, .int 0, .int 0, .int 0, .int 0, .int 0]))] hz) := by
  refine Met.ofW (cc := cX1_init) (maxL := 2) (ret := none) (by decide) rfl ?_
  intro p e s m args below meth c s₁ B hml hv
  obtain ⟨rfl, hsz, hP, hK, hD0⟩ := hv
  have hx := B.exec
  have hb := B.bytes
  have hr := B.returns
  have hts := atoms_spec (ws := wsX1_init) B.pre
  have hown : s.vm.findClass RX1 = some m.cls := findClass_of_methodNamed B.named
  have hlocks := B.notSynchronized
  have hin : meth.name = "<init>" := (name_of_methodNamed B.named B.method).1
  have hi_R : ∀ w ∈ u_ws RX0 TX0 8, w ∈ wsX1_init := by decide +kernel
  have hi_P : ∀ w ∈ u_ws RX1 TX1 12, w ∈ wsX1_init := by decide +kernel
  subst hsz
  have hD := hD0.self (sz := s.heap.size)
  generalize hAe : va_A [(aP, .inr (1, [.null, .null, .int 0, .null, .int 0, .int 0, .int 0, .int 0, .int 0, .int 0, .int 0, .int 0]))] s.heap.size = A at hD ⊢
  have hA : ∀ q : Nat, s.heap.size ≤ q → A q := fun q h => by rw [← hAe]; exact Or.inr h
  have hS : va_S A s.heap s.heap [] := va_S.rf
  have hP : va_P (dC, dI) vwCl [(aP, .inr (1, [.null, .null, .int 0, .null, .int 0, .int 0, .int 0, .int 0, .int 0, .int 0, .int 0, .int 0]))] s.heap := hP
  have hl := lv_entry ([.ref aP, .int room]) (n := 2) (Nat.le_of_ble_eq_true rfl)
  rw [lg_entry_eq]
  generalize (lg_sl ([.ref aP, .int room]) ++ List.replicate (2 - (lg_sl ([.ref aP, .int room])).length) Slot.unset).toArray = ls at hl ⊢
  have hl : lv_has ls 2 [(0, .ref aP), (1, .int room)] := hl
  refine lv_aload_n hx hb dX1_init_0 rfl (lv_at hl 0 rfl) ?_
  refine W.objInit hx hb hown (hts (.methodLink RX1 1 objectInit) (by decide +kernel)) (hts (.instanceMethod objectInit) (by decide +kernel)) (hts (.code objectInit ⟨#[0xb1]⟩ 1 none) (by decide +kernel)) rfl (by rw [hml]; exact hl.1) rfl dX1_init_1 (Nat.le_of_ble_eq_true rfl) (Nat.le_of_ble_eq_true rfl) ?_
  refine W.eq (g2 := F0 m 4 ls []) rfl ?_
  refine lv_aload_n hx hb dX1_init_4 rfl (lv_at hl 0 rfl) ?_
  refine va_new (ci := 0) (fs := [.int 0, .null, .null, .null, .int 0, .int 0, .int 0, .int 0]) (C := RX0) (T := TX0) (N := 8) hx hb hts hi_R tyX0 tyX0_ok hown (hts (.classLink RX1 7 RX0) (by decide +kernel)) (hts (.instantiable RX0 8) (by decide +kernel)) (hts (.initialized RX0) (by decide +kernel)) hK hP hD hS hA rfl (fun j hj => by rcases (show j = 0 ∨ j = 1 ∨ j = 2 ∨ j = 3 ∨ j = 4 ∨ j = 5 ∨ j = 6 ∨ j = 7 by omega) with rfl | rfl | rfl | rfl | rfl | rfl | rfl | rfl <;> rfl) (Nat.le_of_ble_eq_true rfl) (Nat.le_of_ble_eq_true rfl) dX1_init_5 (fun aR H hP hD hS => ?_)
  have hP : va_P (dC, dI) vwCl [(aP, .inr (1, [.null, .null, .int 0, .null, .int 0, .int 0, .int 0, .int 0, .int 0, .int 0, .int 0, .int 0])), (aR, .inr (0, [.int 0, .null, .null, .null, .int 0, .int 0, .int 0, .int 0]))] H := hP
  have hD : va_D A [(aP, .inr (1, [.null, .null, .int 0, .null, .int 0, .int 0, .int 0, .int 0, .int 0, .int 0, .int 0, .int 0])), (aR, .inr (0, [.int 0, .null, .null, .null, .int 0, .int 0, .int 0, .int 0]))] := hD
  refine W.widen (k := 1) (n := 8) (by omega) (by omega) ?_
  refine lv_dup hx hb dX1_init_8 rfl ?_
  refine lv_bipush (v := nI 64) hx hb dX1_init_9 (by decide) ?_
  refine lv_sipush (v := nI 16384) hx hb dX1_init_11 (by decide) ?_
  refine lv_iload_n hx hb dX1_init_14 rfl (lv_at hl 1 rfl) ?_
  refine va_mmin hx hb (hml.trans hl.1.symm) hown (hts (.methodLink RX1 11 Lib.Math.min.name) (by decide +kernel)) (hts (.static Lib.Math.min.name) (by decide +kernel)) (hts (.initialized "java/lang/Math") (by decide +kernel)) (hts (.code Lib.Math.min.name Lib.Math.min.code 2 (some .int)) (by decide +kernel)) (Nat.le_of_ble_eq_true rfl) (Nat.le_of_ble_eq_true rfl) (Nat.le_of_ble_eq_true rfl) (Nat.le_of_ble_eq_true rfl) dX1_init_15 ?_
  refine va_mmax hx hb (hml.trans hl.1.symm) hown (hts (.methodLink RX1 17 Lib.Math.max.name) (by decide +kernel)) (hts (.static Lib.Math.max.name) (by decide +kernel)) (hts (.initialized "java/lang/Math") (by decide +kernel)) (hts (.code Lib.Math.max.name Lib.Math.max.code 2 (some .int)) (by decide +kernel)) (Nat.le_of_ble_eq_true rfl) (Nat.le_of_ble_eq_true rfl) (Nat.le_of_ble_eq_true rfl) (Nat.le_of_ble_eq_true rfl) dX1_init_18 ?_
  refine zz_as (nI (md_room room)) (md_room_eq room) ?_
  have hR := md_room_in room
  obtain ⟨R, hRe⟩ : ∃ R, R = md_room room := ⟨_, rfl⟩
  rw [← hRe] at hR ⊢
  have hPc := hP.sub (ws' := [(aR, .inr (0, [.int 0, .null, .null, .null, .int 0, .int 0, .int 0, .int 0]))]) [1] rfl
  have hDc := hD.sub (ws' := [(aR, .inr (0, [.int 0, .null, .null, .null, .int 0, .int 0, .int 0, .int 0]))]) [1] (by decide) rfl
  have hKc := hK.sub (tys' := []) [] rfl
  have hFc := va_free (wc := [(aR, .inr (0, [.int 0, .null, .null, .null, .int 0, .int 0, .int 0, .int 0]))]) hD hS hA [1] rfl
  refine va_callv (va_runI (As := [.int (nI R)]) (rest := [.ref aR, .ref aP]) ⟨hx, hb, hml, hown, hts⟩ (c_R_init l dC dI aR R hR H.size) (cwI 1 hts gX1_init_X0_init rfl rfl rfl (hts (.initialized RX0) (by decide +kernel)) (hts (.methodLink RX1 20 yX0_init) (by decide +kernel)) (hts (.instanceMethod yX0_init) (by decide +kernel)) rfl (by decide +kernel) ⟨Nat.le_of_ble_eq_true rfl, Nat.le_of_ble_eq_true rfl⟩) ⟨fun a U g mk q => by obtain ⟨q0, q1, qP, qK, qD⟩ := q; exact ⟨q0, q1, qP, va_K.moved (u := U) (U := U.calling g mk a) (Vm.Alike.refl U.vm) qK, qD⟩, fun U hU hW => ⟨rfl, by rw [hU], by rw [hU]; exact hPc, va_K.moved hW.alike hKc, hDc.weaken (fun _ _ _ _ => trivial)⟩⟩ rfl rfl hl.1 rfl (lv_room (Nat.le_of_ble_eq_true rfl)) dX1_init_21 ⟨Nat.le_of_ble_eq_true rfl, Nat.le_of_ble_eq_true rfl⟩) hS (fun q _ h => hFc q h) hFc (fun u t H1 locs ht hvm hw hB hz1 hk1 hS => ?_)
  obtain ⟨aB, aS, aT, cB, cS, cT, hP1, hK1, hD1⟩ := hB
  rw [ht] at hP1
  have hK1 := va_K.moved hvm.symm hK1
  obtain ⟨hP, hD⟩ := va_join (wr := [(aP, .inr (1, [.null, .null, .int 0, .null, .int 0, .int 0, .int 0, .int 0, .int 0, .int 0, .int 0, .int 0]))]) (w1 := [(aR, .inr (0, [.int (nI R), .ref aB, .ref aS, .ref aT, .int 0, .int 0, .int 0, .int 0])), (aB, .inl (cB, R, .inl (fun _ => 0))), (aS, .inl (cS, R, .inl (fun _ => 0))), (aT, .inl (cT, R, .inl (fun _ => 0)))]) hP hD [1] [0] rfl rfl (by decide) (by decide) hk1 hFc hP1 hD1
  have hK := (hK.sub (tys' := []) [] rfl).app hK1
  generalize H1 = H at hP hS ⊢
  have hP : va_P (dC, dI) vwCl [(aP, .inr (1, [.null, .null, .int 0, .null, .int 0, .int 0, .int 0, .int 0, .int 0, .int 0, .int 0, .int 0])), (aR, .inr (0, [.int (nI R), .ref aB, .ref aS, .ref aT, .int 0, .int 0, .int 0, .int 0])), (aB, .inl (cB, R, .inl (fun _ => 0))), (aS, .inl (cS, R, .inl (fun _ => 0))), (aT, .inl (cT, R, .inl (fun _ => 0)))] H := hP
  have hD : va_D A [(aP, .inr (1, [.null, .null, .int 0, .null, .int 0, .int 0, .int 0, .int 0, .int 0, .int 0, .int 0, .int 0])), (aR, .inr (0, [.int (nI R), .ref aB, .ref aS, .ref aT, .int 0, .int 0, .int 0, .int 0])), (aB, .inl (cB, R, .inl (fun _ => 0))), (aS, .inl (cS, R, .inl (fun _ => 0))), (aT, .inl (cT, R, .inl (fun _ => 0)))] := hD
  have hK : va_K (dC, dI) vwCl [(cB, .byte), (cS, .int), (cT, .int)] s := hK
  refine W.widen (k := 4) (n := 49160) (by omega) (by omega) ?_
  refine va_putF (D := (dC, dI)) (ci := 1) (v := .ref aR) (ty := .object "PacketStore$Ring") (C := RX1) (T := TX1) (N := 12) hx hb hts hi_P tyX1 tyX1_ok nmX1 hown hK hP hD hS 0 rfl rfl 0 (by decide) (hts (.fieldLink RX1 23 "PacketStore" "ring" "LPacketStore$Ring;") (by decide +kernel)) (fun _ h9 => h9) rfl hin rfl (by decide +kernel) rfl rfl (Nat.le_of_ble_eq_true rfl) dX1_init_24 (fun H locs hP hD hS => ?_)
  have hP : va_P (dC, dI) vwCl [(aP, .inr (1, [.ref aR, .null, .int 0, .null, .int 0, .int 0, .int 0, .int 0, .int 0, .int 0, .int 0, .int 0])), (aR, .inr (0, [.int (nI R), .ref aB, .ref aS, .ref aT, .int 0, .int 0, .int 0, .int 0])), (aB, .inl (cB, R, .inl (fun _ => 0))), (aS, .inl (cS, R, .inl (fun _ => 0))), (aT, .inl (cT, R, .inl (fun _ => 0)))] H := hP
  have hD : va_D A [(aP, .inr (1, [.ref aR, .null, .int 0, .null, .int 0, .int 0, .int 0, .int 0, .int 0, .int 0, .int 0, .int 0])), (aR, .inr (0, [.int (nI R), .ref aB, .ref aS, .ref aT, .int 0, .int 0, .int 0, .int 0])), (aB, .inl (cB, R, .inl (fun _ => 0))), (aS, .inl (cS, R, .inl (fun _ => 0))), (aT, .inl (cT, R, .inl (fun _ => 0)))] := hD
  refine lv_aload_n hx hb dX1_init_27 rfl (lv_at hl 0 rfl) ?_
  refine lv_sipush (v := nI 512) hx hb dX1_init_28 (by decide) ?_
  refine va_newa (atype := .byte) hx hb (hts (.arrayClass .byte) (by decide +kernel)) rfl hK hP hD hS hA (N' := 512) (a0 := (512, .inl (fun _ => 0))) (fun _ => rfl) (nI_pos (by omega)) (nI_clamp (by omega)) (by decide) (Nat.le_of_ble_eq_true rfl) (Nat.le_of_ble_eq_true rfl) dX1_init_31 (fun aX cX H hK hP hD hS => ?_)
  have hP : va_P (dC, dI) vwCl [(aP, .inr (1, [.ref aR, .null, .int 0, .null, .int 0, .int 0, .int 0, .int 0, .int 0, .int 0, .int 0, .int 0])), (aR, .inr (0, [.int (nI R), .ref aB, .ref aS, .ref aT, .int 0, .int 0, .int 0, .int 0])), (aB, .inl (cB, R, .inl (fun _ => 0))), (aS, .inl (cS, R, .inl (fun _ => 0))), (aT, .inl (cT, R, .inl (fun _ => 0))), (aX, .inl (cX, 512, .inl (fun _ => 0)))] H := hP
  have hD : va_D A [(aP, .inr (1, [.ref aR, .null, .int 0, .null, .int 0, .int 0, .int 0, .int 0, .int 0, .int 0, .int 0, .int 0])), (aR, .inr (0, [.int (nI R), .ref aB, .ref aS, .ref aT, .int 0, .int 0, .int 0, .int 0])), (aB, .inl (cB, R, .inl (fun _ => 0))), (aS, .inl (cS, R, .inl (fun _ => 0))), (aT, .inl (cT, R, .inl (fun _ => 0))), (aX, .inl (cX, 512, .inl (fun _ => 0)))] := hD
  have hK : va_K (dC, dI) vwCl [(cB, .byte), (cS, .int), (cT, .int), (cX, .byte)] s := hK
  refine W.widen (k := 5) (n := 49672) (by omega) (by omega) ?_
  refine va_putF (D := (dC, dI)) (ci := 1) (v := .ref aX) (ty := .array .byte) (C := RX1) (T := TX1) (N := 12) hx hb hts hi_P tyX1 tyX1_ok nmX1 hown hK hP hD hS 0 rfl rfl 1 (by decide) (hts (.fieldLink RX1 27 "PacketStore" "text" "[B") (by decide +kernel)) (fun _ h9 => h9) rfl hin rfl (by decide +kernel) rfl rfl (Nat.le_of_ble_eq_true rfl) dX1_init_33 (fun H locs hP hD hS => ?_)
  have hP : va_P (dC, dI) vwCl [(aP, .inr (1, [.ref aR, .ref aX, .int 0, .null, .int 0, .int 0, .int 0, .int 0, .int 0, .int 0, .int 0, .int 0])), (aR, .inr (0, [.int (nI R), .ref aB, .ref aS, .ref aT, .int 0, .int 0, .int 0, .int 0])), (aB, .inl (cB, R, .inl (fun _ => 0))), (aS, .inl (cS, R, .inl (fun _ => 0))), (aT, .inl (cT, R, .inl (fun _ => 0))), (aX, .inl (cX, 512, .inl (fun _ => 0)))] H := hP
  have hD : va_D A [(aP, .inr (1, [.ref aR, .ref aX, .int 0, .null, .int 0, .int 0, .int 0, .int 0, .int 0, .int 0, .int 0, .int 0])), (aR, .inr (0, [.int (nI R), .ref aB, .ref aS, .ref aT, .int 0, .int 0, .int 0, .int 0])), (aB, .inl (cB, R, .inl (fun _ => 0))), (aS, .inl (cS, R, .inl (fun _ => 0))), (aT, .inl (cT, R, .inl (fun _ => 0))), (aX, .inl (cX, 512, .inl (fun _ => 0)))] := hD
  refine lv_aload_n hx hb dX1_init_36 rfl (lv_at hl 0 rfl) ?_
  refine lv_sipush (v := nI 512) hx hb dX1_init_37 (by decide) ?_
  refine va_newa (atype := .byte) hx hb (hts (.arrayClass .byte) (by decide +kernel)) rfl hK hP hD hS hA (N' := 512) (a0 := (512, .inl (fun _ => 0))) (fun _ => rfl) (nI_pos (by omega)) (nI_clamp (by omega)) (by decide) (Nat.le_of_ble_eq_true rfl) (Nat.le_of_ble_eq_true rfl) dX1_init_40 (fun aO cO H hK hP hD hS => ?_)
  have hP : va_P (dC, dI) vwCl [(aP, .inr (1, [.ref aR, .ref aX, .int 0, .null, .int 0, .int 0, .int 0, .int 0, .int 0, .int 0, .int 0, .int 0])), (aR, .inr (0, [.int (nI R), .ref aB, .ref aS, .ref aT, .int 0, .int 0, .int 0, .int 0])), (aB, .inl (cB, R, .inl (fun _ => 0))), (aS, .inl (cS, R, .inl (fun _ => 0))), (aT, .inl (cT, R, .inl (fun _ => 0))), (aX, .inl (cX, 512, .inl (fun _ => 0))), (aO, .inl (cO, 512, .inl (fun _ => 0)))] H := hP
  have hD : va_D A [(aP, .inr (1, [.ref aR, .ref aX, .int 0, .null, .int 0, .int 0, .int 0, .int 0, .int 0, .int 0, .int 0, .int 0])), (aR, .inr (0, [.int (nI R), .ref aB, .ref aS, .ref aT, .int 0, .int 0, .int 0, .int 0])), (aB, .inl (cB, R, .inl (fun _ => 0))), (aS, .inl (cS, R, .inl (fun _ => 0))), (aT, .inl (cT, R, .inl (fun _ => 0))), (aX, .inl (cX, 512, .inl (fun _ => 0))), (aO, .inl (cO, 512, .inl (fun _ => 0)))] := hD
  have hK : va_K (dC, dI) vwCl [(cB, .byte), (cS, .int), (cT, .int), (cX, .byte), (cO, .byte)] s := hK
  refine W.widen (k := 6) (n := 50184) (by omega) (by omega) ?_
  refine va_putF (D := (dC, dI)) (ci := 1) (v := .ref aO) (ty := .array .byte) (C := RX1) (T := TX1) (N := 12) hx hb hts hi_P tyX1 tyX1_ok nmX1 hown hK hP hD hS 0 rfl rfl 3 (by decide) (hts (.fieldLink RX1 31 "PacketStore" "output" "[B") (by decide +kernel)) (fun _ h9 => h9) rfl hin rfl (by decide +kernel) rfl rfl (Nat.le_of_ble_eq_true rfl) dX1_init_42 (fun H locs hP hD hS => ?_)
  have hP : va_P (dC, dI) vwCl [(aP, .inr (1, [.ref aR, .ref aX, .int 0, .ref aO, .int 0, .int 0, .int 0, .int 0, .int 0, .int 0, .int 0, .int 0])), (aR, .inr (0, [.int (nI R), .ref aB, .ref aS, .ref aT, .int 0, .int 0, .int 0, .int 0])), (aB, .inl (cB, R, .inl (fun _ => 0))), (aS, .inl (cS, R, .inl (fun _ => 0))), (aT, .inl (cT, R, .inl (fun _ => 0))), (aX, .inl (cX, 512, .inl (fun _ => 0))), (aO, .inl (cO, 512, .inl (fun _ => 0)))] H := hP
  have hD : va_D A [(aP, .inr (1, [.ref aR, .ref aX, .int 0, .ref aO, .int 0, .int 0, .int 0, .int 0, .int 0, .int 0, .int 0, .int 0])), (aR, .inr (0, [.int (nI R), .ref aB, .ref aS, .ref aT, .int 0, .int 0, .int 0, .int 0])), (aB, .inl (cB, R, .inl (fun _ => 0))), (aS, .inl (cS, R, .inl (fun _ => 0))), (aT, .inl (cT, R, .inl (fun _ => 0))), (aX, .inl (cX, 512, .inl (fun _ => 0))), (aO, .inl (cO, 512, .inl (fun _ => 0)))] := hD
  exact W.vret hx hb hr (fun t ht hW => ⟨⟨R, rfl, ⟨rfl, hR⟩, aR, aB, aS, aT, aX, aO, cB, cS, cT, cX, cO, by rw [ht]; exact hP, va_K.moved hW.alike hK, hD⟩, hS.F ht⟩) hS.2.2 dX1_init_45
end
section
/-! the model's arrays: packet lo + k at place k, the bytes from 0 on -/
def rm_rep (lo hi : Nat) (off : Nat → Nat) (tm bz Bm Sm Tm : Nat → Int32) : Prop := (∀ k, k < hi - lo → Tm k = tm (lo + k)) ∧ (∀ k, k < hi - lo → Sm k = nI (off (lo + k + 1) - off (lo + k))) ∧ ∀ q, q < off hi - off lo → Bm q = (bz (off lo + q)).toInt8.toInt32
theorem rg_ge0 {a b : Nat} (ha : a < 2 ^ 30) (hb : b < 2 ^ 30) : 0 ≤ nI a - nI b ↔ b ≤ a := by
  rw [Int32.le_iff_toInt_le, pk_sub_toInt ha hb]
  have h0 : (0 : Int32).toInt = 0 := by decide
  rw [h0]
  omega
theorem rg_lt3 {a b c : Nat} (ha : a < 2 ^ 30) (hb : b < 2 ^ 30) (hc : c < 2 ^ 30) : nI a - nI b < nI c ↔ a < b + c := by
  rw [Int32.lt_iff_toInt_lt, pk_sub_toInt ha hb, nI_toInt (by omega)]
  omega
/-- one step of the shift to the left -/
theorem rm_shift {f g h : Nat → Int32} {k N : Nat} {x : Int32} (h1 : ∀ j, j < k → f j = g j) (h2 : ∀ j, k ≤ j → j < N → f j = h j) (hx : x = g k) : (∀ j, j < k + 1 → upd f k x j = g j) ∧ ∀ j, k + 1 ≤ j → j < N → upd f k x j = h j := by
  refine ⟨zz_updlt h1 hx, fun j a b => ?_⟩
  rw [pk_un (by omega)]
  exact h2 j (by omega) b
theorem rm_rep.add {R lo hi sz : Nat} {off : Nat → Nat} {tm bz tz Bm B' Sm Tm : Nat → Int32} {t : Int32} (ho : rg_ok R lo hi off) (h : rm_rep lo hi off tm bz Bm Sm Tm)
    (hB : ∀ q, q < off hi - off lo → B' q = Bm q) (hB2 : ∀ j, j < sz → B' (off hi - off lo + j) = (tz j).toInt8.toInt32) :
    rm_rep lo (hi + 1) (zu off (hi + 1) (off hi + sz)) (zu tm hi t) (zcat bz (off hi) tz) B' (upd Sm (hi - lo) (nI sz)) (upd Tm (hi - lo) t) := by
  have hg := ho.gap (Nat.le_refl lo) ho.2.1 (Nat.le_refl hi)
  have hl := ho.2.1
  refine ⟨fun k a => ?_, fun k a => ?_, fun q a => ?_⟩
  · by_cases c : k = hi - lo
    · subst c
      rw [pk_us, show lo + (hi - lo) = hi by omega, zu_s]
    · rw [pk_un c, zu_n (by omega)]
      exact h.1 k (by omega)
  · by_cases c : k = hi - lo
    · subst c
      rw [pk_us, show lo + (hi - lo) = hi by omega, zu_s, zu_n (by omega)]
      congr 1
      omega
    · rw [pk_un c, zu_n (by omega), zu_n (by omega)]
      exact h.2.1 k (by omega)
  · rw [zu_s, zu_n (by omega)] at a
    rw [zu_n (by omega)]
    unfold zcat
    by_cases c : off lo + q < off hi
    · rw [if_pos c, hB q (by omega)]
      exact h.2.2 q (by omega)
    · rw [if_neg c, ← hB2 (off lo + q - off hi) (by omega), show off hi - off lo + (off lo + q - off hi) = q by omega]
end
section
set_option maxHeartbeats 4000000 in
set_option maxRecDepth 100000 in
/-- start(k): how many bytes there are before packet k -/
theorem c_M_start (l : Launch) (dC : Nat → ClassId) (dI : Nat → Nat → Nat) (mM mX mO mT mS mB R lo hi : Nat) (off : Nat → Nat) (ts os dr de uw : Nat) (fr to : Int32) (pa : Nat) (eS : ClassId) (Sm : Nat → Int32) (k : Nat) (hok : rg_ok R lo hi off) (hsz : ∀ k, k < hi - lo → Sm k = nI (off (lo + k + 1) - off (lo + k))) (hk : k ≤ hi - lo) : Met l yM_start wsM_start ({ frames := 0, cells := 0, slots := 0, locals := 0 }) (va_Pc [.ref mM, .int (nI k)] (fun U => va_P (dC, dI) vwCl [(mM, .inr (2, [.int (nI 0), .int (nI R), .ref mX, .int (nI ts), .ref mO, .int (nI os), .int (nI (hi - lo)), .ref mT, .ref mS, .ref mB, .int (nI (off hi - off lo)), .int (nI hi), .int (nI dr), .int (nI de), .int (nI uw), .int fr, .int to, .int (nI pa)])), (mS, .inl (eS, 16384, .inl Sm))] U.heap ∧ va_K (dC, dI) vwCl [(eS, .int)] U)) (vp_Si (fun r => r = nI (off (lo + k) - off lo))) 0 0 (fun _ => False) := by
  refine Met.ofW (cc := cM_start) (maxL := 4) (ret := (some .int)) (by decide) rfl ?_
  intro p e s m args below meth c s₁ B hml hv
  obtain ⟨rfl, hP, hK⟩ := hv
  have hx := B.exec
  have hb := B.bytes
  have hr := B.returns
  have hts := atoms_spec (ws := wsM_start) B.pre
  have hown : s.vm.findClass RM = some m.cls := findClass_of_methodNamed B.named
  have hlocks := B.notSynchronized
  have hi_M : ∀ w ∈ u_ws RM TM 18, w ∈ wsM_start := by decide +kernel
  have hP : va_P (dC, dI) vwCl [(mM, .inr (2, [.int (nI 0), .int (nI R), .ref mX, .int (nI ts), .ref mO, .int (nI os), .int (nI (hi - lo)), .ref mT, .ref mS, .ref mB, .int (nI (off hi - off lo)), .int (nI hi), .int (nI dr), .int (nI de), .int (nI uw), .int fr, .int to, .int (nI pa)])), (mS, .inl (eS, 16384, .inl Sm))] s.heap := hP
  have hl := lv_entry ([.ref mM, .int (nI k)]) (n := 4) (Nat.le_of_ble_eq_true rfl)
  rw [lg_entry_eq]
  generalize (lg_sl ([.ref mM, .int (nI k)]) ++ List.replicate (4 - (lg_sl ([.ref mM, .int (nI k)])).length) Slot.unset).toArray = ls at hl ⊢
  have hl : lv_has ls 4 [(0, .ref mM), (1, .int (nI k))] := hl
  have hRR := hok.1
  have hll := hok.2.1
  have hcap := hok.2.2.1
  have hgap := hok.gap (Nat.le_refl lo) hll (Nat.le_refl hi)
  refine lv_iconst (v := nI 0) hx hb dM_start_0 (by decide) ?_
  refine zz_as (nI (off (lo + 0) - off lo)) (congrArg nI (Nat.sub_self (off lo)).symm) ?_
  refine lv_istore_n (lv' := [(2, .int (nI (off (lo + 0) - off lo))), (0, .ref mM), (1, .int (nI k))]) hx hb dM_start_1 rfl hl (by decide) rfl (fun ls hl => ?_)
  refine lv_iconst (v := nI 0) hx hb dM_start_2 (by decide) ?_
  refine lv_istore_n (lv' := [(3, .int (nI 0)), (2, .int (nI (off (lo + 0) - off lo))), (0, .ref mM), (1, .int (nI k))]) hx hb dM_start_3 rfl hl (by decide) rfl (fun ls hl => ?_)
  refine zz_loop (σ := Nat) (fun n v H locs ls => (n + v = k + 1 ∧ v ≤ k) ∧ H = s.heap ∧ locs = [] ∧ lv_has ls 4 [(3, .int (nI v)), (2, .int (nI (off (lo + v) - off lo))), (0, .ref mM), (1, .int (nI k))]) (fun v H locs ls h => ?_) (fun n v H locs ls h ih => ?_) (k + 1) 0 _ _ _ ⟨⟨rfl, Nat.zero_le _⟩, rfl, rfl, lv_sub hl [0, 1, 2, 3] rfl⟩
  · obtain ⟨⟨h1, h2⟩, -⟩ := h
    omega
  obtain ⟨⟨hj1, hj2⟩, rfl, rfl, hl⟩ := h
  have hl : lv_has ls 4 [(3, .int (nI v)), (2, .int (nI (off (lo + v) - off lo))), (0, .ref mM), (1, .int (nI k))] := hl
  refine lv_iload_n hx hb dM_start_4 rfl (lv_at hl 0 rfl) ?_
  refine lv_iload_n hx hb dM_start_5 rfl (lv_at hl 3 rfl) ?_
  refine zz_icmp_ge (a := v) (b := k) (tgt := 24) hx hb dM_start_6 (by decide) (by omega) (by omega) (fun c6 => ?_) (fun c6 => ?_)
  · refine lv_iload_n hx hb dM_start_24 rfl (lv_at hl 1 rfl) ?_
    exact W.iret (v := (nI (off (lo + v) - off lo))) hx hb hr (fun t ht hW => ⟨_, rfl, by rw [show v = k by omega], ht⟩) (fun q hq => by cases hq) dM_start_25
  · refine lv_iload_n hx hb dM_start_9 rfl (lv_at hl 1 rfl) ?_
    refine lv_aload_n hx hb dM_start_10 rfl (lv_at hl 2 rfl) ?_
    refine va_get (D := (dC, dI)) (ci := 2) (v := .ref mS) (C := RM) (T := TM) (N := 18) hx hb hts hi_M hown hK hP 0 rfl rfl 8 (by decide) (hts (.fieldLink RM 20 "PacketStoreModel" "size" "[I") (by decide +kernel)) (fun _ h9 => h9) rfl dM_start_11 ?_
    refine lv_iload_n hx hb dM_start_14 rfl (lv_at hl 0 rfl) ?_
    refine zz_iald hx hb hK hP 1 0 rfl rfl (j := v) (by omega) (by omega) dM_start_15 ?_
    refine zz_as (nI (off (lo + v + 1) - off (lo + v))) (hsz v (by omega)) ?_
    have hk1 := hok.2.2.2 (lo + v) (by omega) (by omega)
    have hk2 := hok.gap (Nat.le_refl lo) (show lo ≤ lo + v by omega) (by omega)
    refine lv_iadd hx hb dM_start_16 ?_
    refine zz_as (nI ((off (lo + v) - off lo) + (off (lo + v + 1) - off (lo + v)))) (nI_add _ _) ?_
    refine zz_as (nI (off (lo + (v + 1)) - off lo)) (congrArg nI (show _ = off (lo + v + 1) - off lo by omega)) ?_
    refine lv_istore_n (lv' := [(2, .int (nI (off (lo + (v + 1)) - off lo))), (3, .int (nI v)), (0, .ref mM), (1, .int (nI k))]) hx hb dM_start_17 rfl hl (by decide) rfl (fun ls hl => ?_)
    refine lv_iinc (v := nI (v + 1)) (lv' := [(3, .int (nI (v + 1))), (2, .int (nI (off (lo + (v + 1)) - off lo))), (0, .ref mM), (1, .int (nI k))]) hx hb dM_start_18 hl (k := 1) rfl (show nI v + 1 = nI (v + 1) from nI_1 _) (by decide) rfl (fun ls hl => ?_)
    refine lv_goto (tgt := 4) hx hb dM_start_21 (by decide) ?_
    exact ih (v + 1) _ _ _ ⟨⟨by omega, by omega⟩, rfl, rfl, lv_sub hl [0, 1, 2, 3] rfl⟩
set_option maxHeartbeats 4000000 in
set_option maxRecDepth 100000 in
/-- goes(): the oldest packet goes -/
theorem c_M_goes (l : Launch) (dC : Nat → ClassId) (dI : Nat → Nat → Nat) (mM mX mO mT mS mB R lo hi : Nat) (off : Nat → Nat) (ts os dr de uw : Nat) (fr to : Int32) (pa : Nat) (eT eS eB : ClassId) (Tm Sm Bm tm bz : Nat → Int32) (hok : rg_ok R lo hi off) (hrm : rm_rep lo hi off tm bz Bm Sm Tm) (hlt : lo < hi) (hz : Nat) : Met l yM_goes wsM_goes ({ frames := 0, cells := 0, slots := 0, locals := 0 }) (va_Pc [.ref mM] (fun U => U.heap.size = hz ∧ va_P (dC, dI) vwCl [(mM, .inr (2, [.int (nI 0), .int (nI R), .ref mX, .int (nI ts), .ref mO, .int (nI os), .int (nI (hi - lo)), .ref mT, .ref mS, .ref mB, .int (nI (off hi - off lo)), .int (nI hi), .int (nI dr), .int (nI de), .int (nI uw), .int fr, .int to, .int (nI pa)])), (mT, .inl (eT, 16384, .inl Tm)), (mS, .inl (eS, 16384, .inl Sm)), (mB, .inl (eB, 16384, .inl Bm))] U.heap ∧ va_K (dC, dI) vwCl [(eT, .int), (eS, .int), (eB, .byte)] U ∧ va_D (fun _ => True) [(mM, .inr (2, [.int (nI 0), .int (nI R), .ref mX, .int (nI ts), .ref mO, .int (nI os), .int (nI (hi - lo)), .ref mT, .ref mS, .ref mB, .int (nI (off hi - off lo)), .int (nI hi), .int (nI dr), .int (nI de), .int (nI uw), .int fr, .int to, .int (nI pa)])), (mT, .inl (eT, 16384, .inl Tm)), (mS, .inl (eS, 16384, .inl Sm)), (mB, .inl (eB, 16384, .inl Bm))])) (va_Qv (fun (u : (Nat → Int32) × (Nat → Int32) × (Nat → Int32)) => rm_rep (lo + 1) hi off tm bz u.2.2 u.2.1 u.1) (fun u t => va_P (dC, dI) vwCl [(mM, .inr (2, [.int (nI 0), .int (nI R), .ref mX, .int (nI ts), .ref mO, .int (nI os), .int (nI (hi - (lo + 1))), .ref mT, .ref mS, .ref mB, .int (nI (off hi - off (lo + 1))), .int (nI hi), .int (nI dr), .int (nI de), .int (nI uw), .int fr, .int to, .int (nI pa)])), (mT, .inl (eT, 16384, .inl u.1)), (mS, .inl (eS, 16384, .inl u.2.1)), (mB, .inl (eB, 16384, .inl u.2.2))] t.heap ∧ va_K (dC, dI) vwCl [(eT, .int), (eS, .int), (eB, .byte)] t ∧ va_D (va_A [(mM, .inr (2, [.int (nI 0), .int (nI R), .ref mX, .int (nI ts), .ref mO, .int (nI os), .int (nI (hi - lo)), .ref mT, .ref mS, .ref mB, .int (nI (off hi - off lo)), .int (nI hi), .int (nI dr), .int (nI de), .int (nI uw), .int fr, .int to, .int (nI pa)])), (mT, .inl (eT, 16384, .inl Tm)), (mS, .inl (eS, 16384, .inl Sm)), (mB, .inl (eB, 16384, .inl Bm))] hz) [(mM, .inr (2, [.int (nI 0), .int (nI R), .ref mX, .int (nI ts), .ref mO, .int (nI os), .int (nI (hi - (lo + 1))), .ref mT, .ref mS, .ref mB, .int (nI (off hi - off (lo + 1))), .int (nI hi), .int (nI dr), .int (nI de), .int (nI uw), .int fr, .int to, .int (nI pa)])), (mT, .inl (eT, 16384, .inl u.1)), (mS, .inl (eS, 16384, .inl u.2.1)), (mB, .inl (eB, 16384, .inl u.2.2))]) (va_A [(mM, .inr (2, [.int (nI 0), .int (nI R), .ref mX, .int (nI ts), .ref mO, .int (nI os), .int (nI (hi - lo)), .ref mT, .ref mS, .ref mB, .int (nI (off hi - off lo)), .int (nI hi), .int (nI dr), .int (nI de), .int (nI uw), .int fr, .int to, .int (nI pa)])), (mT, .inl (eT, 16384, .inl Tm)), (mS, .inl (eS, 16384, .inl Sm)), (mB, .inl (eB, 16384, .inl Bm))] hz)) 0 0 (va_A [(mM, .inr (2, [.int (nI 0), .int (nI R), .ref mX, .int (nI ts), .ref mO, .int (nI os), .int (nI (hi - lo)), .ref mT, .ref mS, .ref mB, .int (nI (off hi - off lo)), .int (nI hi), .int (nI dr), .int (nI de), .int (nI uw), .int fr, .int to, .int (nI pa)])), (mT, .inl (eT, 16384, .inl Tm)), (mS, .inl (eS, 16384, .inl Sm)), (mB, .inl (eB, 16384, .inl Bm))] hz) := by
  refine Met.ofW (cc := cM_goes) (maxL := 3) (ret := none) (by decide) rfl ?_
  intro p e s m args below meth c s₁ B hml hv
  obtain ⟨rfl, hsz, hP, hK, hD0⟩ := hv
  have hx := B.exec
  have hb := B.bytes
  have hr := B.returns
  have hts := atoms_spec (ws := wsM_goes) B.pre
  have hown : s.vm.findClass RM = some m.cls := findClass_of_methodNamed B.named
  have hlocks := B.notSynchronized
  have hi_M : ∀ w ∈ u_ws RM TM 18, w ∈ wsM_goes := by decide +kernel
  subst hsz
  have hD := hD0.self (sz := s.heap.size)
  generalize hAe : va_A [(mM, .inr (2, [.int (nI 0), .int (nI R), .ref mX, .int (nI ts), .ref mO, .int (nI os), .int (nI (hi - lo)), .ref mT, .ref mS, .ref mB, .int (nI (off hi - off lo)), .int (nI hi), .int (nI dr), .int (nI de), .int (nI uw), .int fr, .int to, .int (nI pa)])), (mT, .inl (eT, 16384, .inl Tm)), (mS, .inl (eS, 16384, .inl Sm)), (mB, .inl (eB, 16384, .inl Bm))] s.heap.size = A at hD ⊢
  have hA : ∀ q : Nat, s.heap.size ≤ q → A q := fun q h => by rw [← hAe]; exact Or.inr h
  have hS : va_S A s.heap s.heap [] := va_S.rf
  have hP : va_P (dC, dI) vwCl [(mM, .inr (2, [.int (nI 0), .int (nI R), .ref mX, .int (nI ts), .ref mO, .int (nI os), .int (nI (hi - lo)), .ref mT, .ref mS, .ref mB, .int (nI (off hi - off lo)), .int (nI hi), .int (nI dr), .int (nI de), .int (nI uw), .int fr, .int to, .int (nI pa)])), (mT, .inl (eT, 16384, .inl Tm)), (mS, .inl (eS, 16384, .inl Sm)), (mB, .inl (eB, 16384, .inl Bm))] s.heap := hP
  have hl := lv_entry ([.ref mM]) (n := 3) (Nat.le_of_ble_eq_true rfl)
  rw [lg_entry_eq]
  generalize (lg_sl ([.ref mM]) ++ List.replicate (3 - (lg_sl ([.ref mM])).length) Slot.unset).toArray = ls at hl ⊢
  have hl : lv_has ls 3 [(0, .ref mM)] := hl
  have hRR := hok.1
  have hll := hok.2.1
  have hcap := hok.2.2.1
  have hgap := hok.gap (Nat.le_refl lo) hll (Nat.le_refl hi)
  have hk1 : off lo < off (lo + 1) := hok.2.2.2 lo (Nat.le_refl lo) hlt
  have hk3 : off (lo + 1) + (hi - (lo + 1)) ≤ off hi := hok.gap (by omega) (by omega) (Nat.le_refl hi)
  refine lv_aload_n hx hb dM_goes_0 rfl (lv_at hl 0 rfl) ?_
  refine va_get (D := (dC, dI)) (ci := 2) (v := .ref mS) (C := RM) (T := TM) (N := 18) hx hb hts hi_M hown hK hP 0 rfl rfl 8 (by decide) (hts (.fieldLink RM 20 "PacketStoreModel" "size" "[I") (by decide +kernel)) (fun _ h9 => h9) rfl dM_goes_1 ?_
  refine lv_iconst (v := nI 0) hx hb dM_goes_4 (by decide) ?_
  refine zz_iald hx hb hK hP 2 1 rfl rfl (j := 0) (by omega) (by omega) dM_goes_5 ?_
  refine zz_as (nI (off (lo + 1) - off lo)) (hrm.2.1 0 (by omega)) ?_
  refine lv_istore_n (lv' := [(1, .int (nI (off (lo + 1) - off lo))), (0, .ref mM)]) hx hb dM_goes_6 rfl hl (by decide) rfl (fun ls hl => ?_)
  refine lv_iconst (v := nI 0) hx hb dM_goes_7 (by decide) ?_
  refine lv_istore_n (lv' := [(2, .int (nI 0)), (1, .int (nI (off (lo + 1) - off lo))), (0, .ref mM)]) hx hb dM_goes_8 rfl hl (by decide) rfl (fun ls hl => ?_)
  refine zz_loop (σ := Nat × (Nat → Int32)) (fun n v H locs ls => (n + v.1 = off hi - off (lo + 1) + 1 ∧ v.1 ≤ off hi - off (lo + 1) ∧ (∀ q, q < v.1 → v.2 q = (bz (off (lo + 1) + q)).toInt8.toInt32) ∧ ∀ q, v.1 ≤ q → q < off hi - off lo → v.2 q = (bz (off lo + q)).toInt8.toInt32) ∧ va_P (dC, dI) vwCl [(mM, .inr (2, [.int (nI 0), .int (nI R), .ref mX, .int (nI ts), .ref mO, .int (nI os), .int (nI (hi - lo)), .ref mT, .ref mS, .ref mB, .int (nI (off hi - off lo)), .int (nI hi), .int (nI dr), .int (nI de), .int (nI uw), .int fr, .int to, .int (nI pa)])), (mT, .inl (eT, 16384, .inl Tm)), (mS, .inl (eS, 16384, .inl Sm)), (mB, .inl (eB, 16384, .inl v.2))] H ∧ va_D A [(mM, .inr (2, [.int (nI 0), .int (nI R), .ref mX, .int (nI ts), .ref mO, .int (nI os), .int (nI (hi - lo)), .ref mT, .ref mS, .ref mB, .int (nI (off hi - off lo)), .int (nI hi), .int (nI dr), .int (nI de), .int (nI uw), .int fr, .int to, .int (nI pa)])), (mT, .inl (eT, 16384, .inl Tm)), (mS, .inl (eS, 16384, .inl Sm)), (mB, .inl (eB, 16384, .inl v.2))] ∧ va_S A s.heap H locs ∧ lv_has ls 3 [(2, .int (nI v.1)), (0, .ref mM), (1, .int (nI (off (lo + 1) - off lo)))]) (fun v H locs ls h => ?_) (fun n v H locs ls h ih => ?_) (off hi - off (lo + 1) + 1) (0, Bm) _ _ _ ⟨⟨rfl, Nat.zero_le _, fun q h => absurd h (Nat.not_lt_zero q), fun q _ h => hrm.2.2 q h⟩, hP, hD, hS, lv_sub hl [0, 2, 1] rfl⟩
  · obtain ⟨⟨h1, h2, -⟩, -⟩ := h
    omega
  obtain ⟨k, Bg⟩ := v
  obtain ⟨⟨hj1, hj2, hB1, hB2⟩, hP, hD, hS, hl⟩ := h
  dsimp only at hj1 hj2 hB1 hB2
  have hP : va_P (dC, dI) vwCl [(mM, .inr (2, [.int (nI 0), .int (nI R), .ref mX, .int (nI ts), .ref mO, .int (nI os), .int (nI (hi - lo)), .ref mT, .ref mS, .ref mB, .int (nI (off hi - off lo)), .int (nI hi), .int (nI dr), .int (nI de), .int (nI uw), .int fr, .int to, .int (nI pa)])), (mT, .inl (eT, 16384, .inl Tm)), (mS, .inl (eS, 16384, .inl Sm)), (mB, .inl (eB, 16384, .inl Bg))] H := hP
  have hD : va_D A [(mM, .inr (2, [.int (nI 0), .int (nI R), .ref mX, .int (nI ts), .ref mO, .int (nI os), .int (nI (hi - lo)), .ref mT, .ref mS, .ref mB, .int (nI (off hi - off lo)), .int (nI hi), .int (nI dr), .int (nI de), .int (nI uw), .int fr, .int to, .int (nI pa)])), (mT, .inl (eT, 16384, .inl Tm)), (mS, .inl (eS, 16384, .inl Sm)), (mB, .inl (eB, 16384, .inl Bg))] := hD
  have hl : lv_has ls 3 [(2, .int (nI k)), (0, .ref mM), (1, .int (nI (off (lo + 1) - off lo)))] := hl
  refine lv_iload_n hx hb dM_goes_9 rfl (lv_at hl 0 rfl) ?_
  refine lv_iload_n hx hb dM_goes_10 rfl (lv_at hl 2 rfl) ?_
  refine lv_iadd hx hb dM_goes_11 ?_
  refine zz_as (nI (k + (off (lo + 1) - off lo))) (nI_add _ _) ?_
  refine lv_aload_n hx hb dM_goes_12 rfl (lv_at hl 1 rfl) ?_
  refine va_get (D := (dC, dI)) (ci := 2) (v := .int (nI (off hi - off lo))) (C := RM) (T := TM) (N := 18) hx hb hts hi_M hown hK hP 0 rfl rfl 10 (by decide) (hts (.fieldLink RM 33 "PacketStoreModel" "used" "I") (by decide +kernel)) (fun _ h9 => h9) rfl dM_goes_13 ?_
  refine zz_icmp_ge (a := k + (off (lo + 1) - off lo)) (b := off hi - off lo) (tgt := 39) hx hb dM_goes_16 (by decide) (by omega) (by omega) (fun c16 => ?_) (fun c16 => ?_)
  · refine lv_aload_n hx hb dM_goes_39 rfl (lv_at hl 1 rfl) ?_
    refine lv_dup hx hb dM_goes_40 rfl ?_
    refine va_get (D := (dC, dI)) (ci := 2) (v := .int (nI (off hi - off lo))) (C := RM) (T := TM) (N := 18) hx hb hts hi_M hown hK hP 0 rfl rfl 10 (by decide) (hts (.fieldLink RM 33 "PacketStoreModel" "used" "I") (by decide +kernel)) (fun _ h9 => h9) rfl dM_goes_41 ?_
    refine lv_iload_n hx hb dM_goes_44 rfl (lv_at hl 2 rfl) ?_
    refine lv_isub hx hb dM_goes_45 ?_
    refine zz_as (nI ((off hi - off lo) - (off (lo + 1) - off lo))) (pk_sub (by omega)) ?_
    refine zz_as (nI (off hi - off (lo + 1))) (congrArg nI (by omega)) ?_
    refine va_put (D := (dC, dI)) (ci := 2) (v := .int (nI (off hi - off (lo + 1)))) (ty := .int) (C := RM) (T := TM) (N := 18) hx hb hts hi_M tyM tyM_ok nmM hown hK hP hD hS 0 rfl rfl 10 (by decide) (hts (.fieldLink RM 33 "PacketStoreModel" "used" "I") (by decide +kernel)) (fun _ h9 => h9) rfl (by decide +kernel) rfl rfl (Nat.le_of_ble_eq_true rfl) dM_goes_46 (fun H locs hP hD hS => ?_)
    have hP : va_P (dC, dI) vwCl [(mM, .inr (2, [.int (nI 0), .int (nI R), .ref mX, .int (nI ts), .ref mO, .int (nI os), .int (nI (hi - lo)), .ref mT, .ref mS, .ref mB, .int (nI (off hi - off (lo + 1))), .int (nI hi), .int (nI dr), .int (nI de), .int (nI uw), .int fr, .int to, .int (nI pa)])), (mT, .inl (eT, 16384, .inl Tm)), (mS, .inl (eS, 16384, .inl Sm)), (mB, .inl (eB, 16384, .inl Bg))] H := hP
    have hD : va_D A [(mM, .inr (2, [.int (nI 0), .int (nI R), .ref mX, .int (nI ts), .ref mO, .int (nI os), .int (nI (hi - lo)), .ref mT, .ref mS, .ref mB, .int (nI (off hi - off (lo + 1))), .int (nI hi), .int (nI dr), .int (nI de), .int (nI uw), .int fr, .int to, .int (nI pa)])), (mT, .inl (eT, 16384, .inl Tm)), (mS, .inl (eS, 16384, .inl Sm)), (mB, .inl (eB, 16384, .inl Bg))] := hD
    refine lv_aload_n hx hb dM_goes_49 rfl (lv_at hl 1 rfl) ?_
    refine lv_dup hx hb dM_goes_50 rfl ?_
    refine va_get (D := (dC, dI)) (ci := 2) (v := .int (nI (hi - lo))) (C := RM) (T := TM) (N := 18) hx hb hts hi_M hown hK hP 0 rfl rfl 6 (by decide) (hts (.fieldLink RM 36 "PacketStoreModel" "many" "I") (by decide +kernel)) (fun _ h9 => h9) rfl dM_goes_51 ?_
    refine lv_iconst (v := nI 1) hx hb dM_goes_54 (by decide) ?_
    refine lv_isub hx hb dM_goes_55 ?_
    refine zz_as (nI ((hi - lo) - 1)) (pk_sub (by omega)) ?_
    refine zz_as (nI (hi - (lo + 1))) (congrArg nI (by omega)) ?_
    refine va_put (D := (dC, dI)) (ci := 2) (v := .int (nI (hi - (lo + 1)))) (ty := .int) (C := RM) (T := TM) (N := 18) hx hb hts hi_M tyM tyM_ok nmM hown hK hP hD hS 0 rfl rfl 6 (by decide) (hts (.fieldLink RM 36 "PacketStoreModel" "many" "I") (by decide +kernel)) (fun _ h9 => h9) rfl (by decide +kernel) rfl rfl (Nat.le_of_ble_eq_true rfl) dM_goes_56 (fun H locs hP hD hS => ?_)
    have hP : va_P (dC, dI) vwCl [(mM, .inr (2, [.int (nI 0), .int (nI R), .ref mX, .int (nI ts), .ref mO, .int (nI os), .int (nI (hi - (lo + 1))), .ref mT, .ref mS, .ref mB, .int (nI (off hi - off (lo + 1))), .int (nI hi), .int (nI dr), .int (nI de), .int (nI uw), .int fr, .int to, .int (nI pa)])), (mT, .inl (eT, 16384, .inl Tm)), (mS, .inl (eS, 16384, .inl Sm)), (mB, .inl (eB, 16384, .inl Bg))] H := hP
    have hD : va_D A [(mM, .inr (2, [.int (nI 0), .int (nI R), .ref mX, .int (nI ts), .ref mO, .int (nI os), .int (nI (hi - (lo + 1))), .ref mT, .ref mS, .ref mB, .int (nI (off hi - off (lo + 1))), .int (nI hi), .int (nI dr), .int (nI de), .int (nI uw), .int fr, .int to, .int (nI pa)])), (mT, .inl (eT, 16384, .inl Tm)), (mS, .inl (eS, 16384, .inl Sm)), (mB, .inl (eB, 16384, .inl Bg))] := hD
    refine lv_iconst (v := nI 0) hx hb dM_goes_59 (by decide) ?_
    refine lv_istore_n (lv' := [(2, .int (nI 0)), (0, .ref mM), (1, .int (nI (off (lo + 1) - off lo)))]) hx hb dM_goes_60 rfl hl (by decide) rfl (fun ls hl => ?_)
    refine zz_loop (σ := Nat × (Nat → Int32) × (Nat → Int32)) (fun n v H locs ls => (n + v.1 = hi - (lo + 1) + 1 ∧ v.1 ≤ hi - (lo + 1) ∧ ((∀ j, j < v.1 → v.2.1 j = tm (lo + 1 + j)) ∧ ∀ j, v.1 ≤ j → j < hi - lo → v.2.1 j = tm (lo + j)) ∧ (∀ j, j < v.1 → v.2.2 j = nI (off (lo + 1 + j + 1) - off (lo + 1 + j))) ∧ ∀ j, v.1 ≤ j → j < hi - lo → v.2.2 j = nI (off (lo + j + 1) - off (lo + j))) ∧ va_P (dC, dI) vwCl [(mM, .inr (2, [.int (nI 0), .int (nI R), .ref mX, .int (nI ts), .ref mO, .int (nI os), .int (nI (hi - (lo + 1))), .ref mT, .ref mS, .ref mB, .int (nI (off hi - off (lo + 1))), .int (nI hi), .int (nI dr), .int (nI de), .int (nI uw), .int fr, .int to, .int (nI pa)])), (mT, .inl (eT, 16384, .inl v.2.1)), (mS, .inl (eS, 16384, .inl v.2.2)), (mB, .inl (eB, 16384, .inl Bg))] H ∧ va_D A [(mM, .inr (2, [.int (nI 0), .int (nI R), .ref mX, .int (nI ts), .ref mO, .int (nI os), .int (nI (hi - (lo + 1))), .ref mT, .ref mS, .ref mB, .int (nI (off hi - off (lo + 1))), .int (nI hi), .int (nI dr), .int (nI de), .int (nI uw), .int fr, .int to, .int (nI pa)])), (mT, .inl (eT, 16384, .inl v.2.1)), (mS, .inl (eS, 16384, .inl v.2.2)), (mB, .inl (eB, 16384, .inl Bg))] ∧ va_S A s.heap H locs ∧ lv_has ls 3 [(2, .int (nI v.1)), (0, .ref mM)]) (fun v H locs ls h => ?_) (fun n v H locs ls h ih => ?_) (hi - (lo + 1) + 1) (0, Tm, Sm) _ _ _ ⟨⟨rfl, Nat.zero_le _, ⟨fun j h => absurd h (Nat.not_lt_zero j), fun j _ h => hrm.1 j h⟩, fun j h => absurd h (Nat.not_lt_zero j), fun j _ h => hrm.2.1 j h⟩, hP, hD, hS, lv_sub hl [0, 1] rfl⟩
    · obtain ⟨⟨h1, h2, -⟩, -⟩ := h
      omega
    obtain ⟨k2, Tg, Sg⟩ := v
    obtain ⟨⟨hi1, hi2, ⟨hT1, hT2⟩, hS1, hS2⟩, hP, hD, hS, hl⟩ := h
    dsimp only at hi1 hi2 hT1 hT2 hS1 hS2
    have hP : va_P (dC, dI) vwCl [(mM, .inr (2, [.int (nI 0), .int (nI R), .ref mX, .int (nI ts), .ref mO, .int (nI os), .int (nI (hi - (lo + 1))), .ref mT, .ref mS, .ref mB, .int (nI (off hi - off (lo + 1))), .int (nI hi), .int (nI dr), .int (nI de), .int (nI uw), .int fr, .int to, .int (nI pa)])), (mT, .inl (eT, 16384, .inl Tg)), (mS, .inl (eS, 16384, .inl Sg)), (mB, .inl (eB, 16384, .inl Bg))] H := hP
    have hD : va_D A [(mM, .inr (2, [.int (nI 0), .int (nI R), .ref mX, .int (nI ts), .ref mO, .int (nI os), .int (nI (hi - (lo + 1))), .ref mT, .ref mS, .ref mB, .int (nI (off hi - off (lo + 1))), .int (nI hi), .int (nI dr), .int (nI de), .int (nI uw), .int fr, .int to, .int (nI pa)])), (mT, .inl (eT, 16384, .inl Tg)), (mS, .inl (eS, 16384, .inl Sg)), (mB, .inl (eB, 16384, .inl Bg))] := hD
    have hl : lv_has ls 3 [(2, .int (nI k2)), (0, .ref mM)] := hl
    refine lv_iload_n hx hb dM_goes_61 rfl (lv_at hl 0 rfl) ?_
    refine lv_aload_n hx hb dM_goes_62 rfl (lv_at hl 1 rfl) ?_
    refine va_get (D := (dC, dI)) (ci := 2) (v := .int (nI (hi - (lo + 1)))) (C := RM) (T := TM) (N := 18) hx hb hts hi_M hown hK hP 0 rfl rfl 6 (by decide) (hts (.fieldLink RM 36 "PacketStoreModel" "many" "I") (by decide +kernel)) (fun _ h9 => h9) rfl dM_goes_63 ?_
    refine zz_icmp_ge (a := k2) (b := hi - (lo + 1)) (tgt := 103) hx hb dM_goes_66 (by decide) (by omega) (by omega) (fun c66 => ?_) (fun c66 => ?_)
    · exact W.vret hx hb hr (fun t ht hW => ⟨⟨(Tg, Sg, Bg), rfl, ⟨fun j h => hT1 j (by omega), fun j h => hS1 j (by omega), fun q h => hB1 q (by omega)⟩, by rw [ht]; exact hP, va_K.moved hW.alike hK, hD⟩, hS.F ht⟩) hS.2.2 dM_goes_103
    · refine lv_aload_n hx hb dM_goes_69 rfl (lv_at hl 1 rfl) ?_
      refine va_get (D := (dC, dI)) (ci := 2) (v := .ref mT) (C := RM) (T := TM) (N := 18) hx hb hts hi_M hown hK hP 0 rfl rfl 7 (by decide) (hts (.fieldLink RM 16 "PacketStoreModel" "time" "[I") (by decide +kernel)) (fun _ h9 => h9) rfl dM_goes_70 ?_
      refine lv_iload_n hx hb dM_goes_73 rfl (lv_at hl 0 rfl) ?_
      refine lv_aload_n hx hb dM_goes_74 rfl (lv_at hl 1 rfl) ?_
      refine va_get (D := (dC, dI)) (ci := 2) (v := .ref mT) (C := RM) (T := TM) (N := 18) hx hb hts hi_M hown hK hP 0 rfl rfl 7 (by decide) (hts (.fieldLink RM 16 "PacketStoreModel" "time" "[I") (by decide +kernel)) (fun _ h9 => h9) rfl dM_goes_75 ?_
      refine lv_iload_n hx hb dM_goes_78 rfl (lv_at hl 0 rfl) ?_
      refine lv_iconst (v := nI 1) hx hb dM_goes_79 (by decide) ?_
      refine lv_iadd hx hb dM_goes_80 ?_
      refine zz_as (nI (k2 + 1)) (nI_add _ _) ?_
      refine zz_iald hx hb hK hP 1 0 rfl rfl (j := k2 + 1) (by omega) (by omega) dM_goes_81 ?_
      refine zz_as (tm (lo + 1 + k2)) (by rw [hT2 _ (by omega) (by omega), show lo + (k2 + 1) = lo + 1 + k2 by omega]) ?_
      refine zz_iast hx hb hK hP hD hS 1 0 rfl rfl (j := k2) (x := ((tm (lo + 1 + k2)))) (by omega) (by omega) dM_goes_82 (fun H locs hP hD hS => ?_)
      have hP : va_P (dC, dI) vwCl [(mM, .inr (2, [.int (nI 0), .int (nI R), .ref mX, .int (nI ts), .ref mO, .int (nI os), .int (nI (hi - (lo + 1))), .ref mT, .ref mS, .ref mB, .int (nI (off hi - off (lo + 1))), .int (nI hi), .int (nI dr), .int (nI de), .int (nI uw), .int fr, .int to, .int (nI pa)])), (mT, .inl (eT, 16384, .inl (upd Tg k2 ((tm (lo + 1 + k2)))))), (mS, .inl (eS, 16384, .inl Sg)), (mB, .inl (eB, 16384, .inl Bg))] H := hP
      have hD : va_D A [(mM, .inr (2, [.int (nI 0), .int (nI R), .ref mX, .int (nI ts), .ref mO, .int (nI os), .int (nI (hi - (lo + 1))), .ref mT, .ref mS, .ref mB, .int (nI (off hi - off (lo + 1))), .int (nI hi), .int (nI dr), .int (nI de), .int (nI uw), .int fr, .int to, .int (nI pa)])), (mT, .inl (eT, 16384, .inl (upd Tg k2 ((tm (lo + 1 + k2)))))), (mS, .inl (eS, 16384, .inl Sg)), (mB, .inl (eB, 16384, .inl Bg))] := hD
      refine lv_aload_n hx hb dM_goes_83 rfl (lv_at hl 1 rfl) ?_
      refine va_get (D := (dC, dI)) (ci := 2) (v := .ref mS) (C := RM) (T := TM) (N := 18) hx hb hts hi_M hown hK hP 0 rfl rfl 8 (by decide) (hts (.fieldLink RM 20 "PacketStoreModel" "size" "[I") (by decide +kernel)) (fun _ h9 => h9) rfl dM_goes_84 ?_
      refine lv_iload_n hx hb dM_goes_87 rfl (lv_at hl 0 rfl) ?_
      refine lv_aload_n hx hb dM_goes_88 rfl (lv_at hl 1 rfl) ?_
      refine va_get (D := (dC, dI)) (ci := 2) (v := .ref mS) (C := RM) (T := TM) (N := 18) hx hb hts hi_M hown hK hP 0 rfl rfl 8 (by decide) (hts (.fieldLink RM 20 "PacketStoreModel" "size" "[I") (by decide +kernel)) (fun _ h9 => h9) rfl dM_goes_89 ?_
      refine lv_iload_n hx hb dM_goes_92 rfl (lv_at hl 0 rfl) ?_
      refine lv_iconst (v := nI 1) hx hb dM_goes_93 (by decide) ?_
      refine lv_iadd hx hb dM_goes_94 ?_
      refine zz_as (nI (k2 + 1)) (nI_add _ _) ?_
      refine zz_iald hx hb hK hP 2 1 rfl rfl (j := k2 + 1) (by omega) (by omega) dM_goes_95 ?_
      refine zz_as (nI (off (lo + 1 + k2 + 1) - off (lo + 1 + k2))) (by rw [hS2 _ (by omega) (by omega), show lo + (k2 + 1) = lo + 1 + k2 by omega]) ?_
      refine zz_iast hx hb hK hP hD hS 2 1 rfl rfl (j := k2) (x := ((nI (off (lo + 1 + k2 + 1) - off (lo + 1 + k2))))) (by omega) (by omega) dM_goes_96 (fun H locs hP hD hS => ?_)
      have hP : va_P (dC, dI) vwCl [(mM, .inr (2, [.int (nI 0), .int (nI R), .ref mX, .int (nI ts), .ref mO, .int (nI os), .int (nI (hi - (lo + 1))), .ref mT, .ref mS, .ref mB, .int (nI (off hi - off (lo + 1))), .int (nI hi), .int (nI dr), .int (nI de), .int (nI uw), .int fr, .int to, .int (nI pa)])), (mT, .inl (eT, 16384, .inl (upd Tg k2 ((tm (lo + 1 + k2)))))), (mS, .inl (eS, 16384, .inl (upd Sg k2 ((nI (off (lo + 1 + k2 + 1) - off (lo + 1 + k2))))))), (mB, .inl (eB, 16384, .inl Bg))] H := hP
      have hD : va_D A [(mM, .inr (2, [.int (nI 0), .int (nI R), .ref mX, .int (nI ts), .ref mO, .int (nI os), .int (nI (hi - (lo + 1))), .ref mT, .ref mS, .ref mB, .int (nI (off hi - off (lo + 1))), .int (nI hi), .int (nI dr), .int (nI de), .int (nI uw), .int fr, .int to, .int (nI pa)])), (mT, .inl (eT, 16384, .inl (upd Tg k2 ((tm (lo + 1 + k2)))))), (mS, .inl (eS, 16384, .inl (upd Sg k2 ((nI (off (lo + 1 + k2 + 1) - off (lo + 1 + k2))))))), (mB, .inl (eB, 16384, .inl Bg))] := hD
      refine lv_iinc (v := nI (k2 + 1)) (lv' := [(2, .int (nI (k2 + 1))), (0, .ref mM)]) hx hb dM_goes_97 hl (k := 0) rfl (show nI k2 + 1 = nI (k2 + 1) from nI_1 _) (by decide) rfl (fun ls hl => ?_)
      refine lv_goto (tgt := 61) hx hb dM_goes_100 (by decide) ?_
      exact ih (k2 + 1, upd Tg k2 ((tm (lo + 1 + k2))), upd Sg k2 ((nI (off (lo + 1 + k2 + 1) - off (lo + 1 + k2))))) _ _ _ ⟨⟨by show _ + (k2 + 1) = hi - (lo + 1) + 1; omega, by show k2 + 1 ≤ hi - (lo + 1); omega, rm_shift (g := fun j => tm (lo + 1 + j)) (h := fun j => tm (lo + j)) hT1 hT2 rfl, rm_shift (g := fun j => nI (off (lo + 1 + j + 1) - off (lo + 1 + j))) (h := fun j => nI (off (lo + j + 1) - off (lo + j))) hS1 hS2 rfl⟩, hP, hD, hS, lv_sub hl [0, 1] rfl⟩
  · refine lv_aload_n hx hb dM_goes_19 rfl (lv_at hl 1 rfl) ?_
    refine va_get (D := (dC, dI)) (ci := 2) (v := .ref mB) (C := RM) (T := TM) (N := 18) hx hb hts hi_M hown hK hP 0 rfl rfl 9 (by decide) (hts (.fieldLink RM 23 "PacketStoreModel" "bytes" "[B") (by decide +kernel)) (fun _ h9 => h9) rfl dM_goes_20 ?_
    refine lv_iload_n hx hb dM_goes_23 rfl (lv_at hl 0 rfl) ?_
    refine lv_aload_n hx hb dM_goes_24 rfl (lv_at hl 1 rfl) ?_
    refine va_get (D := (dC, dI)) (ci := 2) (v := .ref mB) (C := RM) (T := TM) (N := 18) hx hb hts hi_M hown hK hP 0 rfl rfl 9 (by decide) (hts (.fieldLink RM 23 "PacketStoreModel" "bytes" "[B") (by decide +kernel)) (fun _ h9 => h9) rfl dM_goes_25 ?_
    refine lv_iload_n hx hb dM_goes_28 rfl (lv_at hl 0 rfl) ?_
    refine lv_iload_n hx hb dM_goes_29 rfl (lv_at hl 2 rfl) ?_
    refine lv_iadd hx hb dM_goes_30 ?_
    refine zz_as (nI (k + (off (lo + 1) - off lo))) (nI_add _ _) ?_
    refine zz_bald hx hb hK hP 3 2 rfl rfl (j := k + (off (lo + 1) - off lo)) (by omega) (by omega) dM_goes_31 ?_
    refine zz_as ((bz (off (lo + 1) + k)).toInt8.toInt32) (by rw [hB2 _ (by omega) (by omega), show off lo + (k + (off (lo + 1) - off lo)) = off (lo + 1) + k by omega]) ?_
    refine zz_bast hx hb hK hP hD hS 3 2 rfl rfl (j := k) (x := (((bz (off (lo + 1) + k)).toInt8.toInt32))) (by omega) (by omega) dM_goes_32 (fun H locs hP hD hS => ?_)
    have hP : va_P (dC, dI) vwCl [(mM, .inr (2, [.int (nI 0), .int (nI R), .ref mX, .int (nI ts), .ref mO, .int (nI os), .int (nI (hi - lo)), .ref mT, .ref mS, .ref mB, .int (nI (off hi - off lo)), .int (nI hi), .int (nI dr), .int (nI de), .int (nI uw), .int fr, .int to, .int (nI pa)])), (mT, .inl (eT, 16384, .inl Tm)), (mS, .inl (eS, 16384, .inl Sm)), (mB, .inl (eB, 16384, .inl (upd Bg k ((((bz (off (lo + 1) + k)).toInt8.toInt32)).toInt8.toInt32))))] H := hP
    have hD : va_D A [(mM, .inr (2, [.int (nI 0), .int (nI R), .ref mX, .int (nI ts), .ref mO, .int (nI os), .int (nI (hi - lo)), .ref mT, .ref mS, .ref mB, .int (nI (off hi - off lo)), .int (nI hi), .int (nI dr), .int (nI de), .int (nI uw), .int fr, .int to, .int (nI pa)])), (mT, .inl (eT, 16384, .inl Tm)), (mS, .inl (eS, 16384, .inl Sm)), (mB, .inl (eB, 16384, .inl (upd Bg k ((((bz (off (lo + 1) + k)).toInt8.toInt32)).toInt8.toInt32))))] := hD
    refine lv_iinc (v := nI (k + 1)) (lv' := [(2, .int (nI (k + 1))), (0, .ref mM), (1, .int (nI (off (lo + 1) - off lo)))]) hx hb dM_goes_33 hl (k := 0) rfl (show nI k + 1 = nI (k + 1) from nI_1 _) (by decide) rfl (fun ls hl => ?_)
    refine lv_goto (tgt := 9) hx hb dM_goes_36 (by decide) ?_
    exact ih (k + 1, upd Bg k ((((bz (off (lo + 1) + k)).toInt8.toInt32)).toInt8.toInt32)) _ _ _ ⟨⟨by show n + (k + 1) = off hi - off (lo + 1) + 1; omega, by show k + 1 ≤ off hi - off (lo + 1); omega, rm_shift (g := fun q => (bz (off (lo + 1) + q)).toInt8.toInt32) (h := fun q => (bz (off lo + q)).toInt8.toInt32) hB1 hB2 (zz_i8 _)⟩, hP, hD, hS, lv_sub hl [0, 1, 2] rfl⟩
set_option maxHeartbeats 4000000 in
set_option maxRecDepth 100000 in
/-- model: put(b) -/
theorem c_M_put (l : Launch) (dC : Nat → ClassId) (dI : Nat → Nat → Nat) (mM mX mO mT mS mB R ts os ma us ca dr de uw : Nat) (fr to : Int32) (lk : Nat) (eX : ClassId) (Xm : Nat → Int32) (b : Int32) (hts5 : ts ≤ 512) (hz : Nat) : Met l yM_put wsM_put ({ frames := 0, cells := 0, slots := 0, locals := 0 }) (va_Pc [.ref mM, .int b] (fun U => U.heap.size = hz ∧ va_P (dC, dI) vwCl [(mM, .inr (2, [.int (nI 0), .int (nI R), .ref mX, .int (nI ts), .ref mO, .int (nI os), .int (nI ma), .ref mT, .ref mS, .ref mB, .int (nI us), .int (nI ca), .int (nI dr), .int (nI de), .int (nI uw), .int fr, .int to, .int (nI lk)])), (mX, .inl (eX, 512, .inl Xm))] U.heap ∧ va_K (dC, dI) vwCl [(eX, .byte)] U ∧ va_D (fun _ => True) [(mM, .inr (2, [.int (nI 0), .int (nI R), .ref mX, .int (nI ts), .ref mO, .int (nI os), .int (nI ma), .ref mT, .ref mS, .ref mB, .int (nI us), .int (nI ca), .int (nI dr), .int (nI de), .int (nI uw), .int fr, .int to, .int (nI lk)])), (mX, .inl (eX, 512, .inl Xm))])) (va_Qi (fun (r : Int32) (u : Nat × (Nat → Int32)) => (512 ≤ ts ∧ r = (-1) ∧ u.1 = ts ∧ u.2 = Xm) ∨ (ts < 512 ∧ r = nI (ts + 1) ∧ u.1 = ts + 1 ∧ u.2 = upd Xm ts (b.toInt8.toInt32))) (fun u t => va_P (dC, dI) vwCl [(mM, .inr (2, [.int (nI 0), .int (nI R), .ref mX, .int (nI u.1), .ref mO, .int (nI os), .int (nI ma), .ref mT, .ref mS, .ref mB, .int (nI us), .int (nI ca), .int (nI dr), .int (nI de), .int (nI uw), .int fr, .int to, .int (nI lk)])), (mX, .inl (eX, 512, .inl u.2))] t.heap ∧ va_K (dC, dI) vwCl [(eX, .byte)] t ∧ va_D (va_A [(mM, .inr (2, [.int (nI 0), .int (nI R), .ref mX, .int (nI ts), .ref mO, .int (nI os), .int (nI ma), .ref mT, .ref mS, .ref mB, .int (nI us), .int (nI ca), .int (nI dr), .int (nI de), .int (nI uw), .int fr, .int to, .int (nI lk)])), (mX, .inl (eX, 512, .inl Xm))] hz) [(mM, .inr (2, [.int (nI 0), .int (nI R), .ref mX, .int (nI u.1), .ref mO, .int (nI os), .int (nI ma), .ref mT, .ref mS, .ref mB, .int (nI us), .int (nI ca), .int (nI dr), .int (nI de), .int (nI uw), .int fr, .int to, .int (nI lk)])), (mX, .inl (eX, 512, .inl u.2))]) (va_A [(mM, .inr (2, [.int (nI 0), .int (nI R), .ref mX, .int (nI ts), .ref mO, .int (nI os), .int (nI ma), .ref mT, .ref mS, .ref mB, .int (nI us), .int (nI ca), .int (nI dr), .int (nI de), .int (nI uw), .int fr, .int to, .int (nI lk)])), (mX, .inl (eX, 512, .inl Xm))] hz)) 0 0 (va_A [(mM, .inr (2, [.int (nI 0), .int (nI R), .ref mX, .int (nI ts), .ref mO, .int (nI os), .int (nI ma), .ref mT, .ref mS, .ref mB, .int (nI us), .int (nI ca), .int (nI dr), .int (nI de), .int (nI uw), .int fr, .int to, .int (nI lk)])), (mX, .inl (eX, 512, .inl Xm))] hz) := by
  refine Met.ofW (cc := cM_put) (maxL := 2) (ret := (some .int)) (by decide) rfl ?_
  intro p e s m args below meth c s₁ B hml hv
  obtain ⟨rfl, hsz, hP, hK, hD0⟩ := hv
  have hx := B.exec
  have hb := B.bytes
  have hr := B.returns
  have hts := atoms_spec (ws := wsM_put) B.pre
  have hown : s.vm.findClass RM = some m.cls := findClass_of_methodNamed B.named
  have hlocks := B.notSynchronized
  have hi_M : ∀ w ∈ u_ws RM TM 18, w ∈ wsM_put := by decide +kernel
  subst hsz
  have hD := hD0.self (sz := s.heap.size)
  generalize hAe : va_A [(mM, .inr (2, [.int (nI 0), .int (nI R), .ref mX, .int (nI ts), .ref mO, .int (nI os), .int (nI ma), .ref mT, .ref mS, .ref mB, .int (nI us), .int (nI ca), .int (nI dr), .int (nI de), .int (nI uw), .int fr, .int to, .int (nI lk)])), (mX, .inl (eX, 512, .inl Xm))] s.heap.size = A at hD ⊢
  have hA : ∀ q : Nat, s.heap.size ≤ q → A q := fun q h => by rw [← hAe]; exact Or.inr h
  have hS : va_S A s.heap s.heap [] := va_S.rf
  have hP : va_P (dC, dI) vwCl [(mM, .inr (2, [.int (nI 0), .int (nI R), .ref mX, .int (nI ts), .ref mO, .int (nI os), .int (nI ma), .ref mT, .ref mS, .ref mB, .int (nI us), .int (nI ca), .int (nI dr), .int (nI de), .int (nI uw), .int fr, .int to, .int (nI lk)])), (mX, .inl (eX, 512, .inl Xm))] s.heap := hP
  have hl := lv_entry ([.ref mM, .int b]) (n := 2) (Nat.le_of_ble_eq_true rfl)
  rw [lg_entry_eq]
  generalize (lg_sl ([.ref mM, .int b]) ++ List.replicate (2 - (lg_sl ([.ref mM, .int b])).length) Slot.unset).toArray = ls at hl ⊢
  have hl : lv_has ls 2 [(0, .ref mM), (1, .int b)] := hl
  refine lv_aload_n hx hb dM_put_0 rfl (lv_at hl 0 rfl) ?_
  refine lv_iconst (v := nI 0) hx hb dM_put_1 (by decide) ?_
  refine va_put (D := (dC, dI)) (ci := 2) (v := .int (nI 0)) (ty := .int) (C := RM) (T := TM) (N := 18) hx hb hts hi_M tyM tyM_ok nmM hown hK hP hD hS 0 rfl rfl 0 (by decide) (hts (.fieldLink RM 30 "PacketStoreModel" "thrown" "I") (by decide +kernel)) (fun _ h9 => h9) rfl (by decide +kernel) rfl rfl (Nat.le_of_ble_eq_true rfl) dM_put_2 (fun H locs hP hD hS => ?_)
  have hP : va_P (dC, dI) vwCl [(mM, .inr (2, [.int (nI 0), .int (nI R), .ref mX, .int (nI ts), .ref mO, .int (nI os), .int (nI ma), .ref mT, .ref mS, .ref mB, .int (nI us), .int (nI ca), .int (nI dr), .int (nI de), .int (nI uw), .int fr, .int to, .int (nI lk)])), (mX, .inl (eX, 512, .inl Xm))] H := hP
  have hD : va_D A [(mM, .inr (2, [.int (nI 0), .int (nI R), .ref mX, .int (nI ts), .ref mO, .int (nI os), .int (nI ma), .ref mT, .ref mS, .ref mB, .int (nI us), .int (nI ca), .int (nI dr), .int (nI de), .int (nI uw), .int fr, .int to, .int (nI lk)])), (mX, .inl (eX, 512, .inl Xm))] := hD
  refine lv_aload_n hx hb dM_put_5 rfl (lv_at hl 0 rfl) ?_
  refine va_get (D := (dC, dI)) (ci := 2) (v := .int (nI ts)) (C := RM) (T := TM) (N := 18) hx hb hts hi_M hown hK hP 0 rfl rfl 3 (by decide) (hts (.fieldLink RM 39 "PacketStoreModel" "textSize" "I") (by decide +kernel)) (fun _ h9 => h9) rfl dM_put_6 ?_
  refine lv_sipush (v := nI 512) hx hb dM_put_9 (by decide) ?_
  refine zz_icmp_ne (a := ts) (b := 512) (tgt := 17) hx hb dM_put_12 (by decide) (by omega) (by omega) (fun c12 => ?_) (fun c12 => ?_)
  · refine lv_aload_n hx hb dM_put_17 rfl (lv_at hl 0 rfl) ?_
    refine va_get (D := (dC, dI)) (ci := 2) (v := .ref mX) (C := RM) (T := TM) (N := 18) hx hb hts hi_M hown hK hP 0 rfl rfl 2 (by decide) (hts (.fieldLink RM 7 "PacketStoreModel" "text" "[B") (by decide +kernel)) (fun _ h9 => h9) rfl dM_put_18 ?_
    refine lv_aload_n hx hb dM_put_21 rfl (lv_at hl 0 rfl) ?_
    refine va_get (D := (dC, dI)) (ci := 2) (v := .int (nI ts)) (C := RM) (T := TM) (N := 18) hx hb hts hi_M hown hK hP 0 rfl rfl 3 (by decide) (hts (.fieldLink RM 39 "PacketStoreModel" "textSize" "I") (by decide +kernel)) (fun _ h9 => h9) rfl dM_put_22 ?_
    refine lv_iload_n hx hb dM_put_25 rfl (lv_at hl 1 rfl) ?_
    refine lv_i2b (v := b.toInt8.toInt32) hx hb dM_put_26 rfl ?_
    refine zz_bast hx hb hK hP hD hS 1 0 rfl rfl (j := ts) (x := ((b.toInt8.toInt32))) (by omega) (by omega) dM_put_27 (fun H locs hP hD hS => ?_)
    have hP : va_P (dC, dI) vwCl [(mM, .inr (2, [.int (nI 0), .int (nI R), .ref mX, .int (nI ts), .ref mO, .int (nI os), .int (nI ma), .ref mT, .ref mS, .ref mB, .int (nI us), .int (nI ca), .int (nI dr), .int (nI de), .int (nI uw), .int fr, .int to, .int (nI lk)])), (mX, .inl (eX, 512, .inl (upd Xm ts (((b.toInt8.toInt32)).toInt8.toInt32))))] H := hP
    have hD : va_D A [(mM, .inr (2, [.int (nI 0), .int (nI R), .ref mX, .int (nI ts), .ref mO, .int (nI os), .int (nI ma), .ref mT, .ref mS, .ref mB, .int (nI us), .int (nI ca), .int (nI dr), .int (nI de), .int (nI uw), .int fr, .int to, .int (nI lk)])), (mX, .inl (eX, 512, .inl (upd Xm ts (((b.toInt8.toInt32)).toInt8.toInt32))))] := hD
    rw [zz_i8] at hP hD
    have hP : va_P (dC, dI) vwCl [(mM, .inr (2, [.int (nI 0), .int (nI R), .ref mX, .int (nI ts), .ref mO, .int (nI os), .int (nI ma), .ref mT, .ref mS, .ref mB, .int (nI us), .int (nI ca), .int (nI dr), .int (nI de), .int (nI uw), .int fr, .int to, .int (nI lk)])), (mX, .inl (eX, 512, .inl (upd Xm ts (b.toInt8.toInt32))))] H := hP
    have hD : va_D A [(mM, .inr (2, [.int (nI 0), .int (nI R), .ref mX, .int (nI ts), .ref mO, .int (nI os), .int (nI ma), .ref mT, .ref mS, .ref mB, .int (nI us), .int (nI ca), .int (nI dr), .int (nI de), .int (nI uw), .int fr, .int to, .int (nI lk)])), (mX, .inl (eX, 512, .inl (upd Xm ts (b.toInt8.toInt32))))] := hD
    refine lv_aload_n hx hb dM_put_28 rfl (lv_at hl 0 rfl) ?_
    refine lv_dup hx hb dM_put_29 rfl ?_
    refine va_get (D := (dC, dI)) (ci := 2) (v := .int (nI ts)) (C := RM) (T := TM) (N := 18) hx hb hts hi_M hown hK hP 0 rfl rfl 3 (by decide) (hts (.fieldLink RM 39 "PacketStoreModel" "textSize" "I") (by decide +kernel)) (fun _ h9 => h9) rfl dM_put_30 ?_
    refine lv_iconst (v := nI 1) hx hb dM_put_33 (by decide) ?_
    refine lv_iadd hx hb dM_put_34 ?_
    refine zz_as (nI (ts + 1)) (nI_add _ _) ?_
    refine va_put (D := (dC, dI)) (ci := 2) (v := .int (nI (ts + 1))) (ty := .int) (C := RM) (T := TM) (N := 18) hx hb hts hi_M tyM tyM_ok nmM hown hK hP hD hS 0 rfl rfl 3 (by decide) (hts (.fieldLink RM 39 "PacketStoreModel" "textSize" "I") (by decide +kernel)) (fun _ h9 => h9) rfl (by decide +kernel) rfl rfl (Nat.le_of_ble_eq_true rfl) dM_put_35 (fun H locs hP hD hS => ?_)
    have hP : va_P (dC, dI) vwCl [(mM, .inr (2, [.int (nI 0), .int (nI R), .ref mX, .int (nI (ts + 1)), .ref mO, .int (nI os), .int (nI ma), .ref mT, .ref mS, .ref mB, .int (nI us), .int (nI ca), .int (nI dr), .int (nI de), .int (nI uw), .int fr, .int to, .int (nI lk)])), (mX, .inl (eX, 512, .inl (upd Xm ts (b.toInt8.toInt32))))] H := hP
    have hD : va_D A [(mM, .inr (2, [.int (nI 0), .int (nI R), .ref mX, .int (nI (ts + 1)), .ref mO, .int (nI os), .int (nI ma), .ref mT, .ref mS, .ref mB, .int (nI us), .int (nI ca), .int (nI dr), .int (nI de), .int (nI uw), .int fr, .int to, .int (nI lk)])), (mX, .inl (eX, 512, .inl (upd Xm ts (b.toInt8.toInt32))))] := hD
    refine lv_aload_n hx hb dM_put_38 rfl (lv_at hl 0 rfl) ?_
    refine va_get (D := (dC, dI)) (ci := 2) (v := .int (nI (ts + 1))) (C := RM) (T := TM) (N := 18) hx hb hts hi_M hown hK hP 0 rfl rfl 3 (by decide) (hts (.fieldLink RM 39 "PacketStoreModel" "textSize" "I") (by decide +kernel)) (fun _ h9 => h9) rfl dM_put_39 ?_
    exact W.iret (v := (nI (ts + 1))) hx hb hr (fun t ht hW => ⟨⟨_, (ts + 1, upd Xm ts (b.toInt8.toInt32)), rfl, Or.inr ⟨by omega, rfl, rfl, rfl⟩, by rw [ht]; exact hP, va_K.moved hW.alike hK, hD⟩, hS.F ht⟩) hS.2.2 dM_put_42
  · refine lv_iconst (v := (-1)) hx hb dM_put_15 (by decide) ?_
    exact W.iret (v := ((-1))) hx hb hr (fun t ht hW => ⟨⟨_, (ts, Xm), rfl, Or.inl ⟨by omega, rfl, rfl, rfl⟩, by rw [ht]; exact hP, va_K.moved hW.alike hK, hD⟩, hS.F ht⟩) hS.2.2 dM_put_16
set_option maxHeartbeats 4000000 in
set_option maxRecDepth 100000 in
/-- model: keep, no text -/
theorem c_M_keep_none (l : Launch) (dC : Nat → ClassId) (dI : Nat → Nat → Nat) (mM mX mO mT mS mB R ts os ma us ca dr de uw : Nat) (fr to : Int32) (lk : Nat) (tim : Int32) (h0 : ts = 0) (hz : Nat) : Met l yM_keep wsM_keep ({ frames := 0, cells := 0, slots := 0, locals := 0 }) (va_Pc [.ref mM, .int tim] (fun U => U.heap.size = hz ∧ va_P (dC, dI) vwCl [(mM, .inr (2, [.int (nI 0), .int (nI R), .ref mX, .int (nI ts), .ref mO, .int (nI os), .int (nI ma), .ref mT, .ref mS, .ref mB, .int (nI us), .int (nI ca), .int (nI dr), .int (nI de), .int (nI uw), .int fr, .int to, .int (nI lk)]))] U.heap ∧ va_K (dC, dI) vwCl [] U ∧ va_D (fun _ => True) [(mM, .inr (2, [.int (nI 0), .int (nI R), .ref mX, .int (nI ts), .ref mO, .int (nI os), .int (nI ma), .ref mT, .ref mS, .ref mB, .int (nI us), .int (nI ca), .int (nI dr), .int (nI de), .int (nI uw), .int fr, .int to, .int (nI lk)]))])) (va_Qi (fun (r : Int32) (u : Unit) => r = (-1)) (fun u t => va_P (dC, dI) vwCl [(mM, .inr (2, [.int (nI 0), .int (nI R), .ref mX, .int (nI 0), .ref mO, .int (nI os), .int (nI ma), .ref mT, .ref mS, .ref mB, .int (nI us), .int (nI ca), .int (nI dr), .int (nI de), .int (nI uw), .int fr, .int to, .int (nI lk)]))] t.heap ∧ va_K (dC, dI) vwCl [] t ∧ va_D (va_A [(mM, .inr (2, [.int (nI 0), .int (nI R), .ref mX, .int (nI ts), .ref mO, .int (nI os), .int (nI ma), .ref mT, .ref mS, .ref mB, .int (nI us), .int (nI ca), .int (nI dr), .int (nI de), .int (nI uw), .int fr, .int to, .int (nI lk)]))] hz) [(mM, .inr (2, [.int (nI 0), .int (nI R), .ref mX, .int (nI 0), .ref mO, .int (nI os), .int (nI ma), .ref mT, .ref mS, .ref mB, .int (nI us), .int (nI ca), .int (nI dr), .int (nI de), .int (nI uw), .int fr, .int to, .int (nI lk)]))]) (va_A [(mM, .inr (2, [.int (nI 0), .int (nI R), .ref mX, .int (nI ts), .ref mO, .int (nI os), .int (nI ma), .ref mT, .ref mS, .ref mB, .int (nI us), .int (nI ca), .int (nI dr), .int (nI de), .int (nI uw), .int fr, .int to, .int (nI lk)]))] hz)) 0 0 (va_A [(mM, .inr (2, [.int (nI 0), .int (nI R), .ref mX, .int (nI ts), .ref mO, .int (nI os), .int (nI ma), .ref mT, .ref mS, .ref mB, .int (nI us), .int (nI ca), .int (nI dr), .int (nI de), .int (nI uw), .int fr, .int to, .int (nI lk)]))] hz) := by
  refine Met.ofW (cc := cM_keep) (maxL := 5) (ret := (some .int)) (by decide) rfl ?_
  intro p e s m args below meth c s₁ B hml hv
  obtain ⟨rfl, hsz, hP, hK, hD0⟩ := hv
  have hx := B.exec
  have hb := B.bytes
  have hr := B.returns
  have hts := atoms_spec (ws := wsM_keep) B.pre
  have hown : s.vm.findClass RM = some m.cls := findClass_of_methodNamed B.named
  have hlocks := B.notSynchronized
  have hi_M : ∀ w ∈ u_ws RM TM 18, w ∈ wsM_keep := by decide +kernel
  subst hsz
  have hD := hD0.self (sz := s.heap.size)
  generalize hAe : va_A [(mM, .inr (2, [.int (nI 0), .int (nI R), .ref mX, .int (nI ts), .ref mO, .int (nI os), .int (nI ma), .ref mT, .ref mS, .ref mB, .int (nI us), .int (nI ca), .int (nI dr), .int (nI de), .int (nI uw), .int fr, .int to, .int (nI lk)]))] s.heap.size = A at hD ⊢
  have hA : ∀ q : Nat, s.heap.size ≤ q → A q := fun q h => by rw [← hAe]; exact Or.inr h
  have hS : va_S A s.heap s.heap [] := va_S.rf
  have hP : va_P (dC, dI) vwCl [(mM, .inr (2, [.int (nI 0), .int (nI R), .ref mX, .int (nI ts), .ref mO, .int (nI os), .int (nI ma), .ref mT, .ref mS, .ref mB, .int (nI us), .int (nI ca), .int (nI dr), .int (nI de), .int (nI uw), .int fr, .int to, .int (nI lk)]))] s.heap := hP
  have hl := lv_entry ([.ref mM, .int tim]) (n := 5) (Nat.le_of_ble_eq_true rfl)
  rw [lg_entry_eq]
  generalize (lg_sl ([.ref mM, .int tim]) ++ List.replicate (5 - (lg_sl ([.ref mM, .int tim])).length) Slot.unset).toArray = ls at hl ⊢
  have hl : lv_has ls 5 [(0, .ref mM), (1, .int tim)] := hl
  refine lv_aload_n hx hb dM_keep_0 rfl (lv_at hl 0 rfl) ?_
  refine lv_iconst (v := nI 0) hx hb dM_keep_1 (by decide) ?_
  refine va_put (D := (dC, dI)) (ci := 2) (v := .int (nI 0)) (ty := .int) (C := RM) (T := TM) (N := 18) hx hb hts hi_M tyM tyM_ok nmM hown hK hP hD hS 0 rfl rfl 0 (by decide) (hts (.fieldLink RM 30 "PacketStoreModel" "thrown" "I") (by decide +kernel)) (fun _ h9 => h9) rfl (by decide +kernel) rfl rfl (Nat.le_of_ble_eq_true rfl) dM_keep_2 (fun H locs hP hD hS => ?_)
  have hP : va_P (dC, dI) vwCl [(mM, .inr (2, [.int (nI 0), .int (nI R), .ref mX, .int (nI ts), .ref mO, .int (nI os), .int (nI ma), .ref mT, .ref mS, .ref mB, .int (nI us), .int (nI ca), .int (nI dr), .int (nI de), .int (nI uw), .int fr, .int to, .int (nI lk)]))] H := hP
  have hD : va_D A [(mM, .inr (2, [.int (nI 0), .int (nI R), .ref mX, .int (nI ts), .ref mO, .int (nI os), .int (nI ma), .ref mT, .ref mS, .ref mB, .int (nI us), .int (nI ca), .int (nI dr), .int (nI de), .int (nI uw), .int fr, .int to, .int (nI lk)]))] := hD
  refine lv_aload_n hx hb dM_keep_5 rfl (lv_at hl 0 rfl) ?_
  refine va_get (D := (dC, dI)) (ci := 2) (v := .int (nI ts)) (C := RM) (T := TM) (N := 18) hx hb hts hi_M hown hK hP 0 rfl rfl 3 (by decide) (hts (.fieldLink RM 39 "PacketStoreModel" "textSize" "I") (by decide +kernel)) (fun _ h9 => h9) rfl dM_keep_6 ?_
  refine lv_istore_n (lv' := [(2, .int (nI ts)), (0, .ref mM), (1, .int tim)]) hx hb dM_keep_9 rfl hl (by decide) rfl (fun ls hl => ?_)
  refine lv_aload_n hx hb dM_keep_10 rfl (lv_at hl 1 rfl) ?_
  refine lv_iconst (v := nI 0) hx hb dM_keep_11 (by decide) ?_
  refine va_put (D := (dC, dI)) (ci := 2) (v := .int (nI 0)) (ty := .int) (C := RM) (T := TM) (N := 18) hx hb hts hi_M tyM tyM_ok nmM hown hK hP hD hS 0 rfl rfl 3 (by decide) (hts (.fieldLink RM 39 "PacketStoreModel" "textSize" "I") (by decide +kernel)) (fun _ h9 => h9) rfl (by decide +kernel) rfl rfl (Nat.le_of_ble_eq_true rfl) dM_keep_12 (fun H locs hP hD hS => ?_)
  have hP : va_P (dC, dI) vwCl [(mM, .inr (2, [.int (nI 0), .int (nI R), .ref mX, .int (nI 0), .ref mO, .int (nI os), .int (nI ma), .ref mT, .ref mS, .ref mB, .int (nI us), .int (nI ca), .int (nI dr), .int (nI de), .int (nI uw), .int fr, .int to, .int (nI lk)]))] H := hP
  have hD : va_D A [(mM, .inr (2, [.int (nI 0), .int (nI R), .ref mX, .int (nI 0), .ref mO, .int (nI os), .int (nI ma), .ref mT, .ref mS, .ref mB, .int (nI us), .int (nI ca), .int (nI dr), .int (nI de), .int (nI uw), .int fr, .int to, .int (nI lk)]))] := hD
  refine lv_iload_n hx hb dM_keep_15 rfl (lv_at hl 0 rfl) ?_
  refine zz_if_ne (a := ts) (tgt := 21) hx hb dM_keep_16 (by decide) (by omega) (fun c16 => ?_) (fun c16 => ?_)
  · exact absurd h0 c16
  · refine lv_iconst (v := (-1)) hx hb dM_keep_19 (by decide) ?_
    exact W.iret (v := ((-1))) hx hb hr (fun t ht hW => ⟨⟨_, (), rfl, rfl, by rw [ht]; exact hP, va_K.moved hW.alike hK, hD⟩, hS.F ht⟩) hS.2.2 dM_keep_20
set_option maxHeartbeats 4000000 in
set_option maxRecDepth 100000 in
/-- model: keep, too much text -/
theorem c_M_keep_full (l : Launch) (dC : Nat → ClassId) (dI : Nat → Nat → Nat) (mM mX mO mT mS mB R ts os ma us ca dr de uw : Nat) (fr to : Int32) (lk : Nat) (tim : Int32) (h0 : R < ts) (h5 : ts ≤ 512) (hz : Nat) : Met l yM_keep wsM_keep ({ frames := 0, cells := 0, slots := 0, locals := 0 }) (va_Pc [.ref mM, .int tim] (fun U => U.heap.size = hz ∧ va_P (dC, dI) vwCl [(mM, .inr (2, [.int (nI 0), .int (nI R), .ref mX, .int (nI ts), .ref mO, .int (nI os), .int (nI ma), .ref mT, .ref mS, .ref mB, .int (nI us), .int (nI ca), .int (nI dr), .int (nI de), .int (nI uw), .int fr, .int to, .int (nI lk)]))] U.heap ∧ va_K (dC, dI) vwCl [] U ∧ va_D (fun _ => True) [(mM, .inr (2, [.int (nI 0), .int (nI R), .ref mX, .int (nI ts), .ref mO, .int (nI os), .int (nI ma), .ref mT, .ref mS, .ref mB, .int (nI us), .int (nI ca), .int (nI dr), .int (nI de), .int (nI uw), .int fr, .int to, .int (nI lk)]))])) (va_Qi (fun (r : Int32) (u : Unit) => r = (-2)) (fun u t => va_P (dC, dI) vwCl [(mM, .inr (2, [.int (nI 0), .int (nI R), .ref mX, .int (nI 0), .ref mO, .int (nI os), .int (nI ma), .ref mT, .ref mS, .ref mB, .int (nI us), .int (nI ca), .int (nI dr), .int (nI de), .int (nI uw), .int fr, .int to, .int (nI lk)]))] t.heap ∧ va_K (dC, dI) vwCl [] t ∧ va_D (va_A [(mM, .inr (2, [.int (nI 0), .int (nI R), .ref mX, .int (nI ts), .ref mO, .int (nI os), .int (nI ma), .ref mT, .ref mS, .ref mB, .int (nI us), .int (nI ca), .int (nI dr), .int (nI de), .int (nI uw), .int fr, .int to, .int (nI lk)]))] hz) [(mM, .inr (2, [.int (nI 0), .int (nI R), .ref mX, .int (nI 0), .ref mO, .int (nI os), .int (nI ma), .ref mT, .ref mS, .ref mB, .int (nI us), .int (nI ca), .int (nI dr), .int (nI de), .int (nI uw), .int fr, .int to, .int (nI lk)]))]) (va_A [(mM, .inr (2, [.int (nI 0), .int (nI R), .ref mX, .int (nI ts), .ref mO, .int (nI os), .int (nI ma), .ref mT, .ref mS, .ref mB, .int (nI us), .int (nI ca), .int (nI dr), .int (nI de), .int (nI uw), .int fr, .int to, .int (nI lk)]))] hz)) 0 0 (va_A [(mM, .inr (2, [.int (nI 0), .int (nI R), .ref mX, .int (nI ts), .ref mO, .int (nI os), .int (nI ma), .ref mT, .ref mS, .ref mB, .int (nI us), .int (nI ca), .int (nI dr), .int (nI de), .int (nI uw), .int fr, .int to, .int (nI lk)]))] hz) := by
  refine Met.ofW (cc := cM_keep) (maxL := 5) (ret := (some .int)) (by decide) rfl ?_
  intro p e s m args below meth c s₁ B hml hv
  obtain ⟨rfl, hsz, hP, hK, hD0⟩ := hv
  have hx := B.exec
  have hb := B.bytes
  have hr := B.returns
  have hts := atoms_spec (ws := wsM_keep) B.pre
  have hown : s.vm.findClass RM = some m.cls := findClass_of_methodNamed B.named
  have hlocks := B.notSynchronized
  have hi_M : ∀ w ∈ u_ws RM TM 18, w ∈ wsM_keep := by decide +kernel
  subst hsz
  have hD := hD0.self (sz := s.heap.size)
  generalize hAe : va_A [(mM, .inr (2, [.int (nI 0), .int (nI R), .ref mX, .int (nI ts), .ref mO, .int (nI os), .int (nI ma), .ref mT, .ref mS, .ref mB, .int (nI us), .int (nI ca), .int (nI dr), .int (nI de), .int (nI uw), .int fr, .int to, .int (nI lk)]))] s.heap.size = A at hD ⊢
  have hA : ∀ q : Nat, s.heap.size ≤ q → A q := fun q h => by rw [← hAe]; exact Or.inr h
  have hS : va_S A s.heap s.heap [] := va_S.rf
  have hP : va_P (dC, dI) vwCl [(mM, .inr (2, [.int (nI 0), .int (nI R), .ref mX, .int (nI ts), .ref mO, .int (nI os), .int (nI ma), .ref mT, .ref mS, .ref mB, .int (nI us), .int (nI ca), .int (nI dr), .int (nI de), .int (nI uw), .int fr, .int to, .int (nI lk)]))] s.heap := hP
  have hl := lv_entry ([.ref mM, .int tim]) (n := 5) (Nat.le_of_ble_eq_true rfl)
  rw [lg_entry_eq]
  generalize (lg_sl ([.ref mM, .int tim]) ++ List.replicate (5 - (lg_sl ([.ref mM, .int tim])).length) Slot.unset).toArray = ls at hl ⊢
  have hl : lv_has ls 5 [(0, .ref mM), (1, .int tim)] := hl
  refine lv_aload_n hx hb dM_keep_0 rfl (lv_at hl 0 rfl) ?_
  refine lv_iconst (v := nI 0) hx hb dM_keep_1 (by decide) ?_
  refine va_put (D := (dC, dI)) (ci := 2) (v := .int (nI 0)) (ty := .int) (C := RM) (T := TM) (N := 18) hx hb hts hi_M tyM tyM_ok nmM hown hK hP hD hS 0 rfl rfl 0 (by decide) (hts (.fieldLink RM 30 "PacketStoreModel" "thrown" "I") (by decide +kernel)) (fun _ h9 => h9) rfl (by decide +kernel) rfl rfl (Nat.le_of_ble_eq_true rfl) dM_keep_2 (fun H locs hP hD hS => ?_)
  have hP : va_P (dC, dI) vwCl [(mM, .inr (2, [.int (nI 0), .int (nI R), .ref mX, .int (nI ts), .ref mO, .int (nI os), .int (nI ma), .ref mT, .ref mS, .ref mB, .int (nI us), .int (nI ca), .int (nI dr), .int (nI de), .int (nI uw), .int fr, .int to, .int (nI lk)]))] H := hP
  have hD : va_D A [(mM, .inr (2, [.int (nI 0), .int (nI R), .ref mX, .int (nI ts), .ref mO, .int (nI os), .int (nI ma), .ref mT, .ref mS, .ref mB, .int (nI us), .int (nI ca), .int (nI dr), .int (nI de), .int (nI uw), .int fr, .int to, .int (nI lk)]))] := hD
  refine lv_aload_n hx hb dM_keep_5 rfl (lv_at hl 0 rfl) ?_
  refine va_get (D := (dC, dI)) (ci := 2) (v := .int (nI ts)) (C := RM) (T := TM) (N := 18) hx hb hts hi_M hown hK hP 0 rfl rfl 3 (by decide) (hts (.fieldLink RM 39 "PacketStoreModel" "textSize" "I") (by decide +kernel)) (fun _ h9 => h9) rfl dM_keep_6 ?_
  refine lv_istore_n (lv' := [(2, .int (nI ts)), (0, .ref mM), (1, .int tim)]) hx hb dM_keep_9 rfl hl (by decide) rfl (fun ls hl => ?_)
  refine lv_aload_n hx hb dM_keep_10 rfl (lv_at hl 1 rfl) ?_
  refine lv_iconst (v := nI 0) hx hb dM_keep_11 (by decide) ?_
  refine va_put (D := (dC, dI)) (ci := 2) (v := .int (nI 0)) (ty := .int) (C := RM) (T := TM) (N := 18) hx hb hts hi_M tyM tyM_ok nmM hown hK hP hD hS 0 rfl rfl 3 (by decide) (hts (.fieldLink RM 39 "PacketStoreModel" "textSize" "I") (by decide +kernel)) (fun _ h9 => h9) rfl (by decide +kernel) rfl rfl (Nat.le_of_ble_eq_true rfl) dM_keep_12 (fun H locs hP hD hS => ?_)
  have hP : va_P (dC, dI) vwCl [(mM, .inr (2, [.int (nI 0), .int (nI R), .ref mX, .int (nI 0), .ref mO, .int (nI os), .int (nI ma), .ref mT, .ref mS, .ref mB, .int (nI us), .int (nI ca), .int (nI dr), .int (nI de), .int (nI uw), .int fr, .int to, .int (nI lk)]))] H := hP
  have hD : va_D A [(mM, .inr (2, [.int (nI 0), .int (nI R), .ref mX, .int (nI 0), .ref mO, .int (nI os), .int (nI ma), .ref mT, .ref mS, .ref mB, .int (nI us), .int (nI ca), .int (nI dr), .int (nI de), .int (nI uw), .int fr, .int to, .int (nI lk)]))] := hD
  refine lv_iload_n hx hb dM_keep_15 rfl (lv_at hl 0 rfl) ?_
  refine zz_if_ne (a := ts) (tgt := 21) hx hb dM_keep_16 (by decide) (by omega) (fun c16 => ?_) (fun c16 => ?_)
  · refine lv_iload_n hx hb dM_keep_21 rfl (lv_at hl 0 rfl) ?_
    refine lv_aload_n hx hb dM_keep_22 rfl (lv_at hl 1 rfl) ?_
    refine va_get (D := (dC, dI)) (ci := 2) (v := .int (nI R)) (C := RM) (T := TM) (N := 18) hx hb hts hi_M hown hK hP 0 rfl rfl 1 (by decide) (hts (.fieldLink RM 26 "PacketStoreModel" "room" "I") (by decide +kernel)) (fun _ h9 => h9) rfl dM_keep_23 ?_
    refine zz_icmp_le (a := ts) (b := R) (tgt := 32) hx hb dM_keep_26 (by decide) (by omega) (by omega) (fun c26 => ?_) (fun c26 => ?_)
    · exact absurd c26 (by omega)
    · refine lv_bipush (v := (-2)) hx hb dM_keep_29 (by decide) ?_
      exact W.iret (v := ((-2))) hx hb hr (fun t ht hW => ⟨⟨_, (), rfl, rfl, by rw [ht]; exact hP, va_K.moved hW.alike hK, hD⟩, hS.F ht⟩) hS.2.2 dM_keep_31
  · exact absurd c16 (by omega)
theorem zz_addB3 {f g : Nat → Int32} {b j : Nat} {x : Int32} (h : ∀ t, t < j → f (b + t) = g t) (hx : x = g j) : ∀ t, t < j + 1 → upd f (b + j) x (b + t) = g t := by
  intro t ht
  by_cases q : t = j
  · rw [q, pk_us, hx]
  · rw [pk_un (by omega)]
    exact h t (by omega)
set_option maxHeartbeats 4000000 in
set_option maxRecDepth 100000 in
/-- model: keep -/
theorem c_M_keep_ok (l : Launch) (dC : Nat → ClassId) (dI : Nat → Nat → Nat) (mM mX mO mT mS mB R lo hi : Nat) (off : Nat → Nat) (ts os dr de uw : Nat) (fr to : Int32) (pa : Nat) (eX eT eS eB : ClassId) (Xm Tm Sm Bm tm bz tz : Nat → Int32) (tim : Int32) (hok : rg_ok R lo hi off) (hrm : rm_rep lo hi off tm bz Bm Sm Tm) (h1 : 1 ≤ ts) (h2 : ts ≤ R) (h5 : ts ≤ 512) (htx : ∀ t, t < ts → Xm t = (tz t).toInt8.toInt32) (hz : Nat) : Met l yM_keep wsM_keep ({ frames := 1, cells := 0, slots := 0, locals := 22 }) (va_Pc [.ref mM, .int tim] (fun U => U.heap.size = hz ∧ va_P (dC, dI) vwCl [(mM, .inr (2, [.int (nI 0), .int (nI R), .ref mX, .int (nI ts), .ref mO, .int (nI os), .int (nI (hi - lo)), .ref mT, .ref mS, .ref mB, .int (nI (off hi - off lo)), .int (nI hi), .int (nI dr), .int (nI de), .int (nI uw), .int fr, .int to, .int (nI pa)])), (mX, .inl (eX, 512, .inl Xm)), (mT, .inl (eT, 16384, .inl Tm)), (mS, .inl (eS, 16384, .inl Sm)), (mB, .inl (eB, 16384, .inl Bm))] U.heap ∧ va_K (dC, dI) vwCl [(eX, .byte), (eT, .int), (eS, .int), (eB, .byte)] U ∧ va_D (fun _ => True) [(mM, .inr (2, [.int (nI 0), .int (nI R), .ref mX, .int (nI ts), .ref mO, .int (nI os), .int (nI (hi - lo)), .ref mT, .ref mS, .ref mB, .int (nI (off hi - off lo)), .int (nI hi), .int (nI dr), .int (nI de), .int (nI uw), .int fr, .int to, .int (nI pa)])), (mX, .inl (eX, 512, .inl Xm)), (mT, .inl (eT, 16384, .inl Tm)), (mS, .inl (eS, 16384, .inl Sm)), (mB, .inl (eB, 16384, .inl Bm))])) (va_Qi (fun (r : Int32) (u : Nat × (Nat → Int32) × (Nat → Int32) × (Nat → Int32)) => r = nI (u.1 - lo) ∧ lo ≤ u.1 ∧ u.1 ≤ hi ∧ off hi - off u.1 + ts ≤ R ∧ (∀ k, lo ≤ k → k < u.1 → R < off hi - off k + ts) ∧ rm_rep u.1 (hi + 1) (zu off (hi + 1) (off hi + ts)) (zu tm hi tim) (zcat bz (off hi) tz) u.2.2.2 u.2.2.1 u.2.1) (fun u t => va_P (dC, dI) vwCl [(mM, .inr (2, [.int (nI 0), .int (nI R), .ref mX, .int (nI 0), .ref mO, .int (nI os), .int (nI (hi + 1 - u.1)), .ref mT, .ref mS, .ref mB, .int (nI (off hi + ts - off u.1)), .int (nI (hi + 1)), .int (nI (dr + (u.1 - lo))), .int (nI de), .int (nI uw), .int fr, .int to, .int (nI pa)])), (mX, .inl (eX, 512, .inl Xm)), (mT, .inl (eT, 16384, .inl u.2.1)), (mS, .inl (eS, 16384, .inl u.2.2.1)), (mB, .inl (eB, 16384, .inl u.2.2.2))] t.heap ∧ va_K (dC, dI) vwCl [(eX, .byte), (eT, .int), (eS, .int), (eB, .byte)] t ∧ va_D (va_A [(mM, .inr (2, [.int (nI 0), .int (nI R), .ref mX, .int (nI ts), .ref mO, .int (nI os), .int (nI (hi - lo)), .ref mT, .ref mS, .ref mB, .int (nI (off hi - off lo)), .int (nI hi), .int (nI dr), .int (nI de), .int (nI uw), .int fr, .int to, .int (nI pa)])), (mX, .inl (eX, 512, .inl Xm)), (mT, .inl (eT, 16384, .inl Tm)), (mS, .inl (eS, 16384, .inl Sm)), (mB, .inl (eB, 16384, .inl Bm))] hz) [(mM, .inr (2, [.int (nI 0), .int (nI R), .ref mX, .int (nI 0), .ref mO, .int (nI os), .int (nI (hi + 1 - u.1)), .ref mT, .ref mS, .ref mB, .int (nI (off hi + ts - off u.1)), .int (nI (hi + 1)), .int (nI (dr + (u.1 - lo))), .int (nI de), .int (nI uw), .int fr, .int to, .int (nI pa)])), (mX, .inl (eX, 512, .inl Xm)), (mT, .inl (eT, 16384, .inl u.2.1)), (mS, .inl (eS, 16384, .inl u.2.2.1)), (mB, .inl (eB, 16384, .inl u.2.2.2))]) (va_A [(mM, .inr (2, [.int (nI 0), .int (nI R), .ref mX, .int (nI ts), .ref mO, .int (nI os), .int (nI (hi - lo)), .ref mT, .ref mS, .ref mB, .int (nI (off hi - off lo)), .int (nI hi), .int (nI dr), .int (nI de), .int (nI uw), .int fr, .int to, .int (nI pa)])), (mX, .inl (eX, 512, .inl Xm)), (mT, .inl (eT, 16384, .inl Tm)), (mS, .inl (eS, 16384, .inl Sm)), (mB, .inl (eB, 16384, .inl Bm))] hz)) 0 0 (va_A [(mM, .inr (2, [.int (nI 0), .int (nI R), .ref mX, .int (nI ts), .ref mO, .int (nI os), .int (nI (hi - lo)), .ref mT, .ref mS, .ref mB, .int (nI (off hi - off lo)), .int (nI hi), .int (nI dr), .int (nI de), .int (nI uw), .int fr, .int to, .int (nI pa)])), (mX, .inl (eX, 512, .inl Xm)), (mT, .inl (eT, 16384, .inl Tm)), (mS, .inl (eS, 16384, .inl Sm)), (mB, .inl (eB, 16384, .inl Bm))] hz) := by
  refine Met.ofW (cc := cM_keep) (maxL := 5) (ret := (some .int)) (by decide) rfl ?_
  intro p e s m args below meth c s₁ B hml hv
  obtain ⟨rfl, hsz, hP, hK, hD0⟩ := hv
  have hx := B.exec
  have hb := B.bytes
  have hr := B.returns
  have hts := atoms_spec (ws := wsM_keep) B.pre
  have hown : s.vm.findClass RM = some m.cls := findClass_of_methodNamed B.named
  have hlocks := B.notSynchronized
  have hi_M : ∀ w ∈ u_ws RM TM 18, w ∈ wsM_keep := by decide +kernel
  subst hsz
  have hD := hD0.self (sz := s.heap.size)
  generalize hAe : va_A [(mM, .inr (2, [.int (nI 0), .int (nI R), .ref mX, .int (nI ts), .ref mO, .int (nI os), .int (nI (hi - lo)), .ref mT, .ref mS, .ref mB, .int (nI (off hi - off lo)), .int (nI hi), .int (nI dr), .int (nI de), .int (nI uw), .int fr, .int to, .int (nI pa)])), (mX, .inl (eX, 512, .inl Xm)), (mT, .inl (eT, 16384, .inl Tm)), (mS, .inl (eS, 16384, .inl Sm)), (mB, .inl (eB, 16384, .inl Bm))] s.heap.size = A at hD ⊢
  have hA : ∀ q : Nat, s.heap.size ≤ q → A q := fun q h => by rw [← hAe]; exact Or.inr h
  have hS : va_S A s.heap s.heap [] := va_S.rf
  have hP : va_P (dC, dI) vwCl [(mM, .inr (2, [.int (nI 0), .int (nI R), .ref mX, .int (nI ts), .ref mO, .int (nI os), .int (nI (hi - lo)), .ref mT, .ref mS, .ref mB, .int (nI (off hi - off lo)), .int (nI hi), .int (nI dr), .int (nI de), .int (nI uw), .int fr, .int to, .int (nI pa)])), (mX, .inl (eX, 512, .inl Xm)), (mT, .inl (eT, 16384, .inl Tm)), (mS, .inl (eS, 16384, .inl Sm)), (mB, .inl (eB, 16384, .inl Bm))] s.heap := hP
  have hl := lv_entry ([.ref mM, .int tim]) (n := 5) (Nat.le_of_ble_eq_true rfl)
  rw [lg_entry_eq]
  generalize (lg_sl ([.ref mM, .int tim]) ++ List.replicate (5 - (lg_sl ([.ref mM, .int tim])).length) Slot.unset).toArray = ls at hl ⊢
  have hl : lv_has ls 5 [(0, .ref mM), (1, .int tim)] := hl
  have hRR := hok.1
  have hll := hok.2.1
  have hcap := hok.2.2.1
  have hgap := hok.gap (Nat.le_refl lo) hll (Nat.le_refl hi)
  refine lv_aload_n hx hb dM_keep_0 rfl (lv_at hl 0 rfl) ?_
  refine lv_iconst (v := nI 0) hx hb dM_keep_1 (by decide) ?_
  refine va_put (D := (dC, dI)) (ci := 2) (v := .int (nI 0)) (ty := .int) (C := RM) (T := TM) (N := 18) hx hb hts hi_M tyM tyM_ok nmM hown hK hP hD hS 0 rfl rfl 0 (by decide) (hts (.fieldLink RM 30 "PacketStoreModel" "thrown" "I") (by decide +kernel)) (fun _ h9 => h9) rfl (by decide +kernel) rfl rfl (Nat.le_of_ble_eq_true rfl) dM_keep_2 (fun H locs hP hD hS => ?_)
  have hP : va_P (dC, dI) vwCl [(mM, .inr (2, [.int (nI 0), .int (nI R), .ref mX, .int (nI ts), .ref mO, .int (nI os), .int (nI (hi - lo)), .ref mT, .ref mS, .ref mB, .int (nI (off hi - off lo)), .int (nI hi), .int (nI dr), .int (nI de), .int (nI uw), .int fr, .int to, .int (nI pa)])), (mX, .inl (eX, 512, .inl Xm)), (mT, .inl (eT, 16384, .inl Tm)), (mS, .inl (eS, 16384, .inl Sm)), (mB, .inl (eB, 16384, .inl Bm))] H := hP
  have hD : va_D A [(mM, .inr (2, [.int (nI 0), .int (nI R), .ref mX, .int (nI ts), .ref mO, .int (nI os), .int (nI (hi - lo)), .ref mT, .ref mS, .ref mB, .int (nI (off hi - off lo)), .int (nI hi), .int (nI dr), .int (nI de), .int (nI uw), .int fr, .int to, .int (nI pa)])), (mX, .inl (eX, 512, .inl Xm)), (mT, .inl (eT, 16384, .inl Tm)), (mS, .inl (eS, 16384, .inl Sm)), (mB, .inl (eB, 16384, .inl Bm))] := hD
  refine lv_aload_n hx hb dM_keep_5 rfl (lv_at hl 0 rfl) ?_
  refine va_get (D := (dC, dI)) (ci := 2) (v := .int (nI ts)) (C := RM) (T := TM) (N := 18) hx hb hts hi_M hown hK hP 0 rfl rfl 3 (by decide) (hts (.fieldLink RM 39 "PacketStoreModel" "textSize" "I") (by decide +kernel)) (fun _ h9 => h9) rfl dM_keep_6 ?_
  refine lv_istore_n (lv' := [(2, .int (nI ts)), (0, .ref mM), (1, .int tim)]) hx hb dM_keep_9 rfl hl (by decide) rfl (fun ls hl => ?_)
  refine lv_aload_n hx hb dM_keep_10 rfl (lv_at hl 1 rfl) ?_
  refine lv_iconst (v := nI 0) hx hb dM_keep_11 (by decide) ?_
  refine va_put (D := (dC, dI)) (ci := 2) (v := .int (nI 0)) (ty := .int) (C := RM) (T := TM) (N := 18) hx hb hts hi_M tyM tyM_ok nmM hown hK hP hD hS 0 rfl rfl 3 (by decide) (hts (.fieldLink RM 39 "PacketStoreModel" "textSize" "I") (by decide +kernel)) (fun _ h9 => h9) rfl (by decide +kernel) rfl rfl (Nat.le_of_ble_eq_true rfl) dM_keep_12 (fun H locs hP hD hS => ?_)
  have hP : va_P (dC, dI) vwCl [(mM, .inr (2, [.int (nI 0), .int (nI R), .ref mX, .int (nI 0), .ref mO, .int (nI os), .int (nI (hi - lo)), .ref mT, .ref mS, .ref mB, .int (nI (off hi - off lo)), .int (nI hi), .int (nI dr), .int (nI de), .int (nI uw), .int fr, .int to, .int (nI pa)])), (mX, .inl (eX, 512, .inl Xm)), (mT, .inl (eT, 16384, .inl Tm)), (mS, .inl (eS, 16384, .inl Sm)), (mB, .inl (eB, 16384, .inl Bm))] H := hP
  have hD : va_D A [(mM, .inr (2, [.int (nI 0), .int (nI R), .ref mX, .int (nI 0), .ref mO, .int (nI os), .int (nI (hi - lo)), .ref mT, .ref mS, .ref mB, .int (nI (off hi - off lo)), .int (nI hi), .int (nI dr), .int (nI de), .int (nI uw), .int fr, .int to, .int (nI pa)])), (mX, .inl (eX, 512, .inl Xm)), (mT, .inl (eT, 16384, .inl Tm)), (mS, .inl (eS, 16384, .inl Sm)), (mB, .inl (eB, 16384, .inl Bm))] := hD
  refine lv_iload_n hx hb dM_keep_15 rfl (lv_at hl 0 rfl) ?_
  refine zz_if_ne (a := ts) (tgt := 21) hx hb dM_keep_16 (by decide) (by omega) (fun c16 => ?_) (fun c16 => ?_)
  · refine lv_iload_n hx hb dM_keep_21 rfl (lv_at hl 0 rfl) ?_
    refine lv_aload_n hx hb dM_keep_22 rfl (lv_at hl 1 rfl) ?_
    refine va_get (D := (dC, dI)) (ci := 2) (v := .int (nI R)) (C := RM) (T := TM) (N := 18) hx hb hts hi_M hown hK hP 0 rfl rfl 1 (by decide) (hts (.fieldLink RM 26 "PacketStoreModel" "room" "I") (by decide +kernel)) (fun _ h9 => h9) rfl dM_keep_23 ?_
    refine zz_icmp_le (a := ts) (b := R) (tgt := 32) hx hb dM_keep_26 (by decide) (by omega) (by omega) (fun c26 => ?_) (fun c26 => ?_)
    · refine lv_iconst (v := nI 0) hx hb dM_keep_32 (by decide) ?_
      refine lv_istore_n (lv' := [(3, .int (nI 0)), (2, .int (nI ts)), (0, .ref mM), (1, .int tim)]) hx hb dM_keep_33 rfl hl (by decide) rfl (fun ls hl => ?_)
      have hP := hP.sub (ws' := [(mX, .inl (eX, 512, .inl Xm)), (mM, .inr (2, [.int (nI 0), .int (nI R), .ref mX, .int (nI 0), .ref mO, .int (nI os), .int (nI (hi - lo)), .ref mT, .ref mS, .ref mB, .int (nI (off hi - off lo)), .int (nI hi), .int (nI dr), .int (nI de), .int (nI uw), .int fr, .int to, .int (nI pa)])), (mT, .inl (eT, 16384, .inl Tm)), (mS, .inl (eS, 16384, .inl Sm)), (mB, .inl (eB, 16384, .inl Bm))]) [1, 0, 2, 3, 4] rfl
      have hD := hD.sub (ws' := [(mX, .inl (eX, 512, .inl Xm)), (mM, .inr (2, [.int (nI 0), .int (nI R), .ref mX, .int (nI 0), .ref mO, .int (nI os), .int (nI (hi - lo)), .ref mT, .ref mS, .ref mB, .int (nI (off hi - off lo)), .int (nI hi), .int (nI dr), .int (nI de), .int (nI uw), .int fr, .int to, .int (nI pa)])), (mT, .inl (eT, 16384, .inl Tm)), (mS, .inl (eS, 16384, .inl Sm)), (mB, .inl (eB, 16384, .inl Bm))]) [1, 0, 2, 3, 4] (by decide) rfl
      refine zz_loop (σ := Nat × (Nat → Int32) × (Nat → Int32) × (Nat → Int32)) (fun n v H locs ls => (n + v.1 = hi - lo + 1 ∧ v.1 ≤ hi - lo ∧ (∀ k, lo ≤ k → k < lo + v.1 → R < off hi - off k + ts) ∧ rm_rep (lo + v.1) hi off tm bz v.2.2.2 v.2.2.1 v.2.1) ∧ va_P (dC, dI) vwCl [(mX, .inl (eX, 512, .inl Xm)), (mM, .inr (2, [.int (nI 0), .int (nI R), .ref mX, .int (nI 0), .ref mO, .int (nI os), .int (nI (hi - (lo + v.1))), .ref mT, .ref mS, .ref mB, .int (nI (off hi - off (lo + v.1))), .int (nI hi), .int (nI dr), .int (nI de), .int (nI uw), .int fr, .int to, .int (nI pa)])), (mT, .inl (eT, 16384, .inl v.2.1)), (mS, .inl (eS, 16384, .inl v.2.2.1)), (mB, .inl (eB, 16384, .inl v.2.2.2))] H ∧ va_D A [(mX, .inl (eX, 512, .inl Xm)), (mM, .inr (2, [.int (nI 0), .int (nI R), .ref mX, .int (nI 0), .ref mO, .int (nI os), .int (nI (hi - (lo + v.1))), .ref mT, .ref mS, .ref mB, .int (nI (off hi - off (lo + v.1))), .int (nI hi), .int (nI dr), .int (nI de), .int (nI uw), .int fr, .int to, .int (nI pa)])), (mT, .inl (eT, 16384, .inl v.2.1)), (mS, .inl (eS, 16384, .inl v.2.2.1)), (mB, .inl (eB, 16384, .inl v.2.2.2))] ∧ va_S A s.heap H locs ∧ lv_has ls 5 [(3, .int (nI v.1)), (0, .ref mM), (1, .int tim), (2, .int (nI ts))]) (fun v H locs ls h => ?_) (fun n v H locs ls h ih => ?_) (hi - lo + 1) (0, Tm, Sm, Bm) _ _ _ ⟨⟨rfl, Nat.zero_le _, fun k h1 h2 => absurd h2 (Nat.not_lt.mpr h1), hrm⟩, hP, hD, hS, lv_sub hl [0, 2, 3, 1] rfl⟩
      · obtain ⟨⟨h1, h2, -⟩, -⟩ := h
        omega
      obtain ⟨g, Tg, Sg, Bg⟩ := v
      obtain ⟨⟨hj1, hj2, hj3, hrm2⟩, hP, hD, hS, hl⟩ := h
      dsimp only at hj1 hj2 hj3 hrm2
      have hok2 := hok.drop (Nat.le_add_right lo g) (show lo + g ≤ hi by omega)
      have hcap2 := hok2.2.2.1
      have hgap2 := hok2.gap (Nat.le_refl _) hok2.2.1 (Nat.le_refl hi)
      have hP : va_P (dC, dI) vwCl [(mX, .inl (eX, 512, .inl Xm)), (mM, .inr (2, [.int (nI 0), .int (nI R), .ref mX, .int (nI 0), .ref mO, .int (nI os), .int (nI (hi - (lo + g))), .ref mT, .ref mS, .ref mB, .int (nI (off hi - off (lo + g))), .int (nI hi), .int (nI dr), .int (nI de), .int (nI uw), .int fr, .int to, .int (nI pa)])), (mT, .inl (eT, 16384, .inl Tg)), (mS, .inl (eS, 16384, .inl Sg)), (mB, .inl (eB, 16384, .inl Bg))] H := hP
      have hD : va_D A [(mX, .inl (eX, 512, .inl Xm)), (mM, .inr (2, [.int (nI 0), .int (nI R), .ref mX, .int (nI 0), .ref mO, .int (nI os), .int (nI (hi - (lo + g))), .ref mT, .ref mS, .ref mB, .int (nI (off hi - off (lo + g))), .int (nI hi), .int (nI dr), .int (nI de), .int (nI uw), .int fr, .int to, .int (nI pa)])), (mT, .inl (eT, 16384, .inl Tg)), (mS, .inl (eS, 16384, .inl Sg)), (mB, .inl (eB, 16384, .inl Bg))] := hD
      have hl : lv_has ls 5 [(3, .int (nI g)), (0, .ref mM), (1, .int tim), (2, .int (nI ts))] := hl
      refine lv_aload_n hx hb dM_keep_34 rfl (lv_at hl 1 rfl) ?_
      refine va_get (D := (dC, dI)) (ci := 2) (v := .int (nI (off hi - off (lo + g)))) (C := RM) (T := TM) (N := 18) hx hb hts hi_M hown hK hP 1 rfl rfl 10 (by decide) (hts (.fieldLink RM 33 "PacketStoreModel" "used" "I") (by decide +kernel)) (fun _ h9 => h9) rfl dM_keep_35 ?_
      refine lv_iload_n hx hb dM_keep_38 rfl (lv_at hl 3 rfl) ?_
      refine lv_iadd hx hb dM_keep_39 ?_
      refine zz_as (nI ((off hi - off (lo + g)) + ts)) (nI_add _ _) ?_
      refine lv_aload_n hx hb dM_keep_40 rfl (lv_at hl 1 rfl) ?_
      refine va_get (D := (dC, dI)) (ci := 2) (v := .int (nI R)) (C := RM) (T := TM) (N := 18) hx hb hts hi_M hown hK hP 1 rfl rfl 1 (by decide) (hts (.fieldLink RM 26 "PacketStoreModel" "room" "I") (by decide +kernel)) (fun _ h9 => h9) rfl dM_keep_41 ?_
      refine zz_icmp_le (a := (off hi - off (lo + g)) + ts) (b := R) (tgt := 57) hx hb dM_keep_44 (by decide) (by omega) (by omega) (fun c44 => ?_) (fun c44 => ?_)
      · refine lv_aload_n hx hb dM_keep_57 rfl (lv_at hl 1 rfl) ?_
        refine lv_dup hx hb dM_keep_58 rfl ?_
        refine va_get (D := (dC, dI)) (ci := 2) (v := .int (nI dr)) (C := RM) (T := TM) (N := 18) hx hb hts hi_M hown hK hP 1 rfl rfl 12 (by decide) (hts (.fieldLink RM 45 "PacketStoreModel" "driven" "I") (by decide +kernel)) (fun _ h9 => h9) rfl dM_keep_59 ?_
        refine lv_iload_n hx hb dM_keep_62 rfl (lv_at hl 0 rfl) ?_
        refine lv_iadd hx hb dM_keep_63 ?_
        refine zz_as (nI (dr + g)) (nI_add _ _) ?_
        refine zz_as (nI (dr + (lo + g - lo))) (congrArg nI (by omega)) ?_
        refine va_put (D := (dC, dI)) (ci := 2) (v := .int (nI (dr + (lo + g - lo)))) (ty := .int) (C := RM) (T := TM) (N := 18) hx hb hts hi_M tyM tyM_ok nmM hown hK hP hD hS 1 rfl rfl 12 (by decide) (hts (.fieldLink RM 45 "PacketStoreModel" "driven" "I") (by decide +kernel)) (fun _ h9 => h9) rfl (by decide +kernel) rfl rfl (Nat.le_of_ble_eq_true rfl) dM_keep_64 (fun H locs hP hD hS => ?_)
        have hP : va_P (dC, dI) vwCl [(mX, .inl (eX, 512, .inl Xm)), (mM, .inr (2, [.int (nI 0), .int (nI R), .ref mX, .int (nI 0), .ref mO, .int (nI os), .int (nI (hi - (lo + g))), .ref mT, .ref mS, .ref mB, .int (nI (off hi - off (lo + g))), .int (nI hi), .int (nI (dr + (lo + g - lo))), .int (nI de), .int (nI uw), .int fr, .int to, .int (nI pa)])), (mT, .inl (eT, 16384, .inl Tg)), (mS, .inl (eS, 16384, .inl Sg)), (mB, .inl (eB, 16384, .inl Bg))] H := hP
        have hD : va_D A [(mX, .inl (eX, 512, .inl Xm)), (mM, .inr (2, [.int (nI 0), .int (nI R), .ref mX, .int (nI 0), .ref mO, .int (nI os), .int (nI (hi - (lo + g))), .ref mT, .ref mS, .ref mB, .int (nI (off hi - off (lo + g))), .int (nI hi), .int (nI (dr + (lo + g - lo))), .int (nI de), .int (nI uw), .int fr, .int to, .int (nI pa)])), (mT, .inl (eT, 16384, .inl Tg)), (mS, .inl (eS, 16384, .inl Sg)), (mB, .inl (eB, 16384, .inl Bg))] := hD
        refine lv_iconst (v := nI 0) hx hb dM_keep_67 (by decide) ?_
        refine lv_istore (lv' := [(4, .int (nI 0)), (3, .int (nI g)), (0, .ref mM), (1, .int tim), (2, .int (nI ts))]) hx hb dM_keep_68 hl (by decide) rfl (fun ls hl => ?_)
        refine zz_loop (σ := Nat × (Nat → Int32)) (fun n v H locs ls => (n + v.1 = ts + 1 ∧ v.1 ≤ ts ∧ (∀ q, q < off hi - off (lo + g) → v.2 q = Bg q) ∧ ∀ j, j < v.1 → v.2 (off hi - off (lo + g) + j) = (tz j).toInt8.toInt32) ∧ va_P (dC, dI) vwCl [(mX, .inl (eX, 512, .inl Xm)), (mM, .inr (2, [.int (nI 0), .int (nI R), .ref mX, .int (nI 0), .ref mO, .int (nI os), .int (nI (hi - (lo + g))), .ref mT, .ref mS, .ref mB, .int (nI (off hi - off (lo + g))), .int (nI hi), .int (nI (dr + (lo + g - lo))), .int (nI de), .int (nI uw), .int fr, .int to, .int (nI pa)])), (mT, .inl (eT, 16384, .inl Tg)), (mS, .inl (eS, 16384, .inl Sg)), (mB, .inl (eB, 16384, .inl v.2))] H ∧ va_D A [(mX, .inl (eX, 512, .inl Xm)), (mM, .inr (2, [.int (nI 0), .int (nI R), .ref mX, .int (nI 0), .ref mO, .int (nI os), .int (nI (hi - (lo + g))), .ref mT, .ref mS, .ref mB, .int (nI (off hi - off (lo + g))), .int (nI hi), .int (nI (dr + (lo + g - lo))), .int (nI de), .int (nI uw), .int fr, .int to, .int (nI pa)])), (mT, .inl (eT, 16384, .inl Tg)), (mS, .inl (eS, 16384, .inl Sg)), (mB, .inl (eB, 16384, .inl v.2))] ∧ va_S A s.heap H locs ∧ lv_has ls 5 [(4, .int (nI v.1)), (3, .int (nI g)), (0, .ref mM), (1, .int tim), (2, .int (nI ts))]) (fun v H locs ls h => ?_) (fun n v H locs ls h ih => ?_) (ts + 1) (0, Bg) _ _ _ ⟨⟨rfl, Nat.zero_le _, fun q _ => rfl, fun j h => absurd h (Nat.not_lt_zero j)⟩, hP, hD, hS, lv_sub hl [0, 1, 2, 3, 4] rfl⟩
        · obtain ⟨⟨h1, h2, -⟩, -⟩ := h
          omega
        obtain ⟨j, Bh⟩ := v
        obtain ⟨⟨hi1, hi2, hB1, hB2⟩, hP, hD, hS, hl⟩ := h
        dsimp only at hi1 hi2 hB1 hB2
        have hP : va_P (dC, dI) vwCl [(mX, .inl (eX, 512, .inl Xm)), (mM, .inr (2, [.int (nI 0), .int (nI R), .ref mX, .int (nI 0), .ref mO, .int (nI os), .int (nI (hi - (lo + g))), .ref mT, .ref mS, .ref mB, .int (nI (off hi - off (lo + g))), .int (nI hi), .int (nI (dr + (lo + g - lo))), .int (nI de), .int (nI uw), .int fr, .int to, .int (nI pa)])), (mT, .inl (eT, 16384, .inl Tg)), (mS, .inl (eS, 16384, .inl Sg)), (mB, .inl (eB, 16384, .inl Bh))] H := hP
        have hD : va_D A [(mX, .inl (eX, 512, .inl Xm)), (mM, .inr (2, [.int (nI 0), .int (nI R), .ref mX, .int (nI 0), .ref mO, .int (nI os), .int (nI (hi - (lo + g))), .ref mT, .ref mS, .ref mB, .int (nI (off hi - off (lo + g))), .int (nI hi), .int (nI (dr + (lo + g - lo))), .int (nI de), .int (nI uw), .int fr, .int to, .int (nI pa)])), (mT, .inl (eT, 16384, .inl Tg)), (mS, .inl (eS, 16384, .inl Sg)), (mB, .inl (eB, 16384, .inl Bh))] := hD
        have hl : lv_has ls 5 [(4, .int (nI j)), (3, .int (nI g)), (0, .ref mM), (1, .int tim), (2, .int (nI ts))] := hl
        refine lv_iload hx hb dM_keep_70 (lv_at hl 0 rfl) ?_
        refine lv_iload_n hx hb dM_keep_72 rfl (lv_at hl 4 rfl) ?_
        refine zz_icmp_ge (a := j) (b := ts) (tgt := 101) hx hb dM_keep_73 (by decide) (by omega) (by omega) (fun c73 => ?_) (fun c73 => ?_)
        · refine lv_aload_n hx hb dM_keep_101 rfl (lv_at hl 2 rfl) ?_
          refine lv_dup hx hb dM_keep_102 rfl ?_
          refine va_get (D := (dC, dI)) (ci := 2) (v := .int (nI (off hi - off (lo + g)))) (C := RM) (T := TM) (N := 18) hx hb hts hi_M hown hK hP 1 rfl rfl 10 (by decide) (hts (.fieldLink RM 33 "PacketStoreModel" "used" "I") (by decide +kernel)) (fun _ h9 => h9) rfl dM_keep_103 ?_
          refine lv_iload_n hx hb dM_keep_106 rfl (lv_at hl 4 rfl) ?_
          refine lv_iadd hx hb dM_keep_107 ?_
          refine zz_as (nI ((off hi - off (lo + g)) + ts)) (nI_add _ _) ?_
          refine zz_as (nI (off hi + ts - off (lo + g))) (congrArg nI (by omega)) ?_
          refine va_put (D := (dC, dI)) (ci := 2) (v := .int (nI (off hi + ts - off (lo + g)))) (ty := .int) (C := RM) (T := TM) (N := 18) hx hb hts hi_M tyM tyM_ok nmM hown hK hP hD hS 1 rfl rfl 10 (by decide) (hts (.fieldLink RM 33 "PacketStoreModel" "used" "I") (by decide +kernel)) (fun _ h9 => h9) rfl (by decide +kernel) rfl rfl (Nat.le_of_ble_eq_true rfl) dM_keep_108 (fun H locs hP hD hS => ?_)
          have hP : va_P (dC, dI) vwCl [(mX, .inl (eX, 512, .inl Xm)), (mM, .inr (2, [.int (nI 0), .int (nI R), .ref mX, .int (nI 0), .ref mO, .int (nI os), .int (nI (hi - (lo + g))), .ref mT, .ref mS, .ref mB, .int (nI (off hi + ts - off (lo + g))), .int (nI hi), .int (nI (dr + (lo + g - lo))), .int (nI de), .int (nI uw), .int fr, .int to, .int (nI pa)])), (mT, .inl (eT, 16384, .inl Tg)), (mS, .inl (eS, 16384, .inl Sg)), (mB, .inl (eB, 16384, .inl Bh))] H := hP
          have hD : va_D A [(mX, .inl (eX, 512, .inl Xm)), (mM, .inr (2, [.int (nI 0), .int (nI R), .ref mX, .int (nI 0), .ref mO, .int (nI os), .int (nI (hi - (lo + g))), .ref mT, .ref mS, .ref mB, .int (nI (off hi + ts - off (lo + g))), .int (nI hi), .int (nI (dr + (lo + g - lo))), .int (nI de), .int (nI uw), .int fr, .int to, .int (nI pa)])), (mT, .inl (eT, 16384, .inl Tg)), (mS, .inl (eS, 16384, .inl Sg)), (mB, .inl (eB, 16384, .inl Bh))] := hD
          refine lv_aload_n hx hb dM_keep_111 rfl (lv_at hl 2 rfl) ?_
          refine va_get (D := (dC, dI)) (ci := 2) (v := .ref mT) (C := RM) (T := TM) (N := 18) hx hb hts hi_M hown hK hP 1 rfl rfl 7 (by decide) (hts (.fieldLink RM 16 "PacketStoreModel" "time" "[I") (by decide +kernel)) (fun _ h9 => h9) rfl dM_keep_112 ?_
          refine lv_aload_n hx hb dM_keep_115 rfl (lv_at hl 2 rfl) ?_
          refine va_get (D := (dC, dI)) (ci := 2) (v := .int (nI (hi - (lo + g)))) (C := RM) (T := TM) (N := 18) hx hb hts hi_M hown hK hP 1 rfl rfl 6 (by decide) (hts (.fieldLink RM 36 "PacketStoreModel" "many" "I") (by decide +kernel)) (fun _ h9 => h9) rfl dM_keep_116 ?_
          refine lv_iload_n hx hb dM_keep_119 rfl (lv_at hl 3 rfl) ?_
          refine zz_iast hx hb hK hP hD hS 2 1 rfl rfl (j := hi - (lo + g)) (x := tim) (by omega) (by omega) dM_keep_120 (fun H locs hP hD hS => ?_)
          have hP : va_P (dC, dI) vwCl [(mX, .inl (eX, 512, .inl Xm)), (mM, .inr (2, [.int (nI 0), .int (nI R), .ref mX, .int (nI 0), .ref mO, .int (nI os), .int (nI (hi - (lo + g))), .ref mT, .ref mS, .ref mB, .int (nI (off hi + ts - off (lo + g))), .int (nI hi), .int (nI (dr + (lo + g - lo))), .int (nI de), .int (nI uw), .int fr, .int to, .int (nI pa)])), (mT, .inl (eT, 16384, .inl (upd Tg (hi - (lo + g)) tim))), (mS, .inl (eS, 16384, .inl Sg)), (mB, .inl (eB, 16384, .inl Bh))] H := hP
          have hD : va_D A [(mX, .inl (eX, 512, .inl Xm)), (mM, .inr (2, [.int (nI 0), .int (nI R), .ref mX, .int (nI 0), .ref mO, .int (nI os), .int (nI (hi - (lo + g))), .ref mT, .ref mS, .ref mB, .int (nI (off hi + ts - off (lo + g))), .int (nI hi), .int (nI (dr + (lo + g - lo))), .int (nI de), .int (nI uw), .int fr, .int to, .int (nI pa)])), (mT, .inl (eT, 16384, .inl (upd Tg (hi - (lo + g)) tim))), (mS, .inl (eS, 16384, .inl Sg)), (mB, .inl (eB, 16384, .inl Bh))] := hD
          refine lv_aload_n hx hb dM_keep_121 rfl (lv_at hl 2 rfl) ?_
          refine va_get (D := (dC, dI)) (ci := 2) (v := .ref mS) (C := RM) (T := TM) (N := 18) hx hb hts hi_M hown hK hP 1 rfl rfl 8 (by decide) (hts (.fieldLink RM 20 "PacketStoreModel" "size" "[I") (by decide +kernel)) (fun _ h9 => h9) rfl dM_keep_122 ?_
          refine lv_aload_n hx hb dM_keep_125 rfl (lv_at hl 2 rfl) ?_
          refine va_get (D := (dC, dI)) (ci := 2) (v := .int (nI (hi - (lo + g)))) (C := RM) (T := TM) (N := 18) hx hb hts hi_M hown hK hP 1 rfl rfl 6 (by decide) (hts (.fieldLink RM 36 "PacketStoreModel" "many" "I") (by decide +kernel)) (fun _ h9 => h9) rfl dM_keep_126 ?_
          refine lv_iload_n hx hb dM_keep_129 rfl (lv_at hl 4 rfl) ?_
          refine zz_iast hx hb hK hP hD hS 3 2 rfl rfl (j := hi - (lo + g)) (x := ((nI ts))) (by omega) (by omega) dM_keep_130 (fun H locs hP hD hS => ?_)
          have hP : va_P (dC, dI) vwCl [(mX, .inl (eX, 512, .inl Xm)), (mM, .inr (2, [.int (nI 0), .int (nI R), .ref mX, .int (nI 0), .ref mO, .int (nI os), .int (nI (hi - (lo + g))), .ref mT, .ref mS, .ref mB, .int (nI (off hi + ts - off (lo + g))), .int (nI hi), .int (nI (dr + (lo + g - lo))), .int (nI de), .int (nI uw), .int fr, .int to, .int (nI pa)])), (mT, .inl (eT, 16384, .inl (upd Tg (hi - (lo + g)) tim))), (mS, .inl (eS, 16384, .inl (upd Sg (hi - (lo + g)) ((nI ts))))), (mB, .inl (eB, 16384, .inl Bh))] H := hP
          have hD : va_D A [(mX, .inl (eX, 512, .inl Xm)), (mM, .inr (2, [.int (nI 0), .int (nI R), .ref mX, .int (nI 0), .ref mO, .int (nI os), .int (nI (hi - (lo + g))), .ref mT, .ref mS, .ref mB, .int (nI (off hi + ts - off (lo + g))), .int (nI hi), .int (nI (dr + (lo + g - lo))), .int (nI de), .int (nI uw), .int fr, .int to, .int (nI pa)])), (mT, .inl (eT, 16384, .inl (upd Tg (hi - (lo + g)) tim))), (mS, .inl (eS, 16384, .inl (upd Sg (hi - (lo + g)) ((nI ts))))), (mB, .inl (eB, 16384, .inl Bh))] := hD
          refine lv_aload_n hx hb dM_keep_131 rfl (lv_at hl 2 rfl) ?_
          refine lv_dup hx hb dM_keep_132 rfl ?_
          refine va_get (D := (dC, dI)) (ci := 2) (v := .int (nI (hi - (lo + g)))) (C := RM) (T := TM) (N := 18) hx hb hts hi_M hown hK hP 1 rfl rfl 6 (by decide) (hts (.fieldLink RM 36 "PacketStoreModel" "many" "I") (by decide +kernel)) (fun _ h9 => h9) rfl dM_keep_133 ?_
          refine lv_iconst (v := nI 1) hx hb dM_keep_136 (by decide) ?_
          refine lv_iadd hx hb dM_keep_137 ?_
          refine zz_as (nI ((hi - (lo + g)) + 1)) (nI_add _ _) ?_
          refine zz_as (nI (hi + 1 - (lo + g))) (congrArg nI (by omega)) ?_
          refine va_put (D := (dC, dI)) (ci := 2) (v := .int (nI (hi + 1 - (lo + g)))) (ty := .int) (C := RM) (T := TM) (N := 18) hx hb hts hi_M tyM tyM_ok nmM hown hK hP hD hS 1 rfl rfl 6 (by decide) (hts (.fieldLink RM 36 "PacketStoreModel" "many" "I") (by decide +kernel)) (fun _ h9 => h9) rfl (by decide +kernel) rfl rfl (Nat.le_of_ble_eq_true rfl) dM_keep_138 (fun H locs hP hD hS => ?_)
          have hP : va_P (dC, dI) vwCl [(mX, .inl (eX, 512, .inl Xm)), (mM, .inr (2, [.int (nI 0), .int (nI R), .ref mX, .int (nI 0), .ref mO, .int (nI os), .int (nI (hi + 1 - (lo + g))), .ref mT, .ref mS, .ref mB, .int (nI (off hi + ts - off (lo + g))), .int (nI hi), .int (nI (dr + (lo + g - lo))), .int (nI de), .int (nI uw), .int fr, .int to, .int (nI pa)])), (mT, .inl (eT, 16384, .inl (upd Tg (hi - (lo + g)) tim))), (mS, .inl (eS, 16384, .inl (upd Sg (hi - (lo + g)) ((nI ts))))), (mB, .inl (eB, 16384, .inl Bh))] H := hP
          have hD : va_D A [(mX, .inl (eX, 512, .inl Xm)), (mM, .inr (2, [.int (nI 0), .int (nI R), .ref mX, .int (nI 0), .ref mO, .int (nI os), .int (nI (hi + 1 - (lo + g))), .ref mT, .ref mS, .ref mB, .int (nI (off hi + ts - off (lo + g))), .int (nI hi), .int (nI (dr + (lo + g - lo))), .int (nI de), .int (nI uw), .int fr, .int to, .int (nI pa)])), (mT, .inl (eT, 16384, .inl (upd Tg (hi - (lo + g)) tim))), (mS, .inl (eS, 16384, .inl (upd Sg (hi - (lo + g)) ((nI ts))))), (mB, .inl (eB, 16384, .inl Bh))] := hD
          refine lv_aload_n hx hb dM_keep_141 rfl (lv_at hl 2 rfl) ?_
          refine lv_dup hx hb dM_keep_142 rfl ?_
          refine va_get (D := (dC, dI)) (ci := 2) (v := .int (nI hi)) (C := RM) (T := TM) (N := 18) hx hb hts hi_M hown hK hP 1 rfl rfl 11 (by decide) (hts (.fieldLink RM 48 "PacketStoreModel" "came" "I") (by decide +kernel)) (fun _ h9 => h9) rfl dM_keep_143 ?_
          refine lv_iconst (v := nI 1) hx hb dM_keep_146 (by decide) ?_
          refine lv_iadd hx hb dM_keep_147 ?_
          refine zz_as (nI (hi + 1)) (nI_add _ _) ?_
          refine va_put (D := (dC, dI)) (ci := 2) (v := .int (nI (hi + 1))) (ty := .int) (C := RM) (T := TM) (N := 18) hx hb hts hi_M tyM tyM_ok nmM hown hK hP hD hS 1 rfl rfl 11 (by decide) (hts (.fieldLink RM 48 "PacketStoreModel" "came" "I") (by decide +kernel)) (fun _ h9 => h9) rfl (by decide +kernel) rfl rfl (Nat.le_of_ble_eq_true rfl) dM_keep_148 (fun H locs hP hD hS => ?_)
          have hP : va_P (dC, dI) vwCl [(mX, .inl (eX, 512, .inl Xm)), (mM, .inr (2, [.int (nI 0), .int (nI R), .ref mX, .int (nI 0), .ref mO, .int (nI os), .int (nI (hi + 1 - (lo + g))), .ref mT, .ref mS, .ref mB, .int (nI (off hi + ts - off (lo + g))), .int (nI (hi + 1)), .int (nI (dr + (lo + g - lo))), .int (nI de), .int (nI uw), .int fr, .int to, .int (nI pa)])), (mT, .inl (eT, 16384, .inl (upd Tg (hi - (lo + g)) tim))), (mS, .inl (eS, 16384, .inl (upd Sg (hi - (lo + g)) ((nI ts))))), (mB, .inl (eB, 16384, .inl Bh))] H := hP
          have hD : va_D A [(mX, .inl (eX, 512, .inl Xm)), (mM, .inr (2, [.int (nI 0), .int (nI R), .ref mX, .int (nI 0), .ref mO, .int (nI os), .int (nI (hi + 1 - (lo + g))), .ref mT, .ref mS, .ref mB, .int (nI (off hi + ts - off (lo + g))), .int (nI (hi + 1)), .int (nI (dr + (lo + g - lo))), .int (nI de), .int (nI uw), .int fr, .int to, .int (nI pa)])), (mT, .inl (eT, 16384, .inl (upd Tg (hi - (lo + g)) tim))), (mS, .inl (eS, 16384, .inl (upd Sg (hi - (lo + g)) ((nI ts))))), (mB, .inl (eB, 16384, .inl Bh))] := hD
          refine lv_iload_n hx hb dM_keep_151 rfl (lv_at hl 1 rfl) ?_
          have hP := hP.sub (ws' := [(mM, .inr (2, [.int (nI 0), .int (nI R), .ref mX, .int (nI 0), .ref mO, .int (nI os), .int (nI (hi + 1 - (lo + g))), .ref mT, .ref mS, .ref mB, .int (nI (off hi + ts - off (lo + g))), .int (nI (hi + 1)), .int (nI (dr + (lo + g - lo))), .int (nI de), .int (nI uw), .int fr, .int to, .int (nI pa)])), (mX, .inl (eX, 512, .inl Xm)), (mT, .inl (eT, 16384, .inl (upd Tg (hi - (lo + g)) tim))), (mS, .inl (eS, 16384, .inl (upd Sg (hi - (lo + g)) ((nI ts))))), (mB, .inl (eB, 16384, .inl Bh))]) [1, 0, 2, 3, 4] rfl
          have hD := hD.sub (ws' := [(mM, .inr (2, [.int (nI 0), .int (nI R), .ref mX, .int (nI 0), .ref mO, .int (nI os), .int (nI (hi + 1 - (lo + g))), .ref mT, .ref mS, .ref mB, .int (nI (off hi + ts - off (lo + g))), .int (nI (hi + 1)), .int (nI (dr + (lo + g - lo))), .int (nI de), .int (nI uw), .int fr, .int to, .int (nI pa)])), (mX, .inl (eX, 512, .inl Xm)), (mT, .inl (eT, 16384, .inl (upd Tg (hi - (lo + g)) tim))), (mS, .inl (eS, 16384, .inl (upd Sg (hi - (lo + g)) ((nI ts))))), (mB, .inl (eB, 16384, .inl Bh))]) [1, 0, 2, 3, 4] (by decide) rfl
          exact W.iret (v := (nI g)) hx hb hr (fun t ht hW => ⟨⟨_, (lo + g, upd Tg (hi - (lo + g)) tim, upd Sg (hi - (lo + g)) (nI ts), Bh), rfl, ⟨congrArg nI (by omega), by omega, by omega, c44, hj3, hrm2.add hok2 hB1 (fun j h => hB2 j (by omega))⟩, by rw [ht]; exact hP, va_K.moved hW.alike hK, hD⟩, hS.F ht⟩) hS.2.2 dM_keep_152
        · refine lv_aload_n hx hb dM_keep_76 rfl (lv_at hl 2 rfl) ?_
          refine va_get (D := (dC, dI)) (ci := 2) (v := .ref mB) (C := RM) (T := TM) (N := 18) hx hb hts hi_M hown hK hP 1 rfl rfl 9 (by decide) (hts (.fieldLink RM 23 "PacketStoreModel" "bytes" "[B") (by decide +kernel)) (fun _ h9 => h9) rfl dM_keep_77 ?_
          refine lv_aload_n hx hb dM_keep_80 rfl (lv_at hl 2 rfl) ?_
          refine va_get (D := (dC, dI)) (ci := 2) (v := .int (nI (off hi - off (lo + g)))) (C := RM) (T := TM) (N := 18) hx hb hts hi_M hown hK hP 1 rfl rfl 10 (by decide) (hts (.fieldLink RM 33 "PacketStoreModel" "used" "I") (by decide +kernel)) (fun _ h9 => h9) rfl dM_keep_81 ?_
          refine lv_iload hx hb dM_keep_84 (lv_at hl 0 rfl) ?_
          refine lv_iadd hx hb dM_keep_86 ?_
          refine zz_as (nI ((off hi - off (lo + g)) + j)) (nI_add _ _) ?_
          refine lv_aload_n hx hb dM_keep_87 rfl (lv_at hl 2 rfl) ?_
          refine va_get (D := (dC, dI)) (ci := 2) (v := .ref mX) (C := RM) (T := TM) (N := 18) hx hb hts hi_M hown hK hP 1 rfl rfl 2 (by decide) (hts (.fieldLink RM 7 "PacketStoreModel" "text" "[B") (by decide +kernel)) (fun _ h9 => h9) rfl dM_keep_88 ?_
          refine lv_iload hx hb dM_keep_91 (lv_at hl 0 rfl) ?_
          refine zz_bald hx hb hK hP 0 0 rfl rfl (j := j) (by omega) (by omega) dM_keep_93 ?_
          refine zz_bast hx hb hK hP hD hS 4 3 rfl rfl (j := (off hi - off (lo + g)) + j) (x := ((Xm j))) (by omega) (by omega) dM_keep_94 (fun H locs hP hD hS => ?_)
          have hP : va_P (dC, dI) vwCl [(mX, .inl (eX, 512, .inl Xm)), (mM, .inr (2, [.int (nI 0), .int (nI R), .ref mX, .int (nI 0), .ref mO, .int (nI os), .int (nI (hi - (lo + g))), .ref mT, .ref mS, .ref mB, .int (nI (off hi - off (lo + g))), .int (nI hi), .int (nI (dr + (lo + g - lo))), .int (nI de), .int (nI uw), .int fr, .int to, .int (nI pa)])), (mT, .inl (eT, 16384, .inl Tg)), (mS, .inl (eS, 16384, .inl Sg)), (mB, .inl (eB, 16384, .inl (upd Bh ((off hi - off (lo + g)) + j) (((Xm j)).toInt8.toInt32))))] H := hP
          have hD : va_D A [(mX, .inl (eX, 512, .inl Xm)), (mM, .inr (2, [.int (nI 0), .int (nI R), .ref mX, .int (nI 0), .ref mO, .int (nI os), .int (nI (hi - (lo + g))), .ref mT, .ref mS, .ref mB, .int (nI (off hi - off (lo + g))), .int (nI hi), .int (nI (dr + (lo + g - lo))), .int (nI de), .int (nI uw), .int fr, .int to, .int (nI pa)])), (mT, .inl (eT, 16384, .inl Tg)), (mS, .inl (eS, 16384, .inl Sg)), (mB, .inl (eB, 16384, .inl (upd Bh ((off hi - off (lo + g)) + j) (((Xm j)).toInt8.toInt32))))] := hD
          refine lv_iinc (v := nI (j + 1)) (lv' := [(4, .int (nI (j + 1))), (3, .int (nI g)), (0, .ref mM), (1, .int tim), (2, .int (nI ts))]) hx hb dM_keep_95 hl (k := 0) rfl (show nI j + 1 = nI (j + 1) from nI_1 _) (by decide) rfl (fun ls hl => ?_)
          refine lv_goto (tgt := 70) hx hb dM_keep_98 (by decide) ?_
          exact ih (j + 1, upd Bh ((off hi - off (lo + g)) + j) (((Xm j)).toInt8.toInt32)) _ _ _ ⟨⟨by show _ + (j + 1) = ts + 1; omega, by show j + 1 ≤ ts; omega, fun q h => (pk_un (by omega)).trans (hB1 q h), zz_addB3 (g := fun t => (tz t).toInt8.toInt32) hB2 (by rw [htx j (by omega), zz_i8])⟩, hP, hD, hS, lv_sub hl [0, 1, 2, 3, 4] rfl⟩
      · have hlt : lo + g < hi := (Nat.lt_or_ge (lo + g) hi).elim id (fun q => by rw [show lo + g = hi by omega] at c44; omega)
        refine lv_aload_n hx hb dM_keep_47 rfl (lv_at hl 1 rfl) ?_
        refine zz_callMv (As := []) (rest := []) (wr := [(mX, .inl (eX, 512, .inl Xm))]) ⟨hx, hb, hml, hown, hts⟩ (c_M_goes l dC dI mM mX mO mT mS mB R (lo + g) hi off 0 os dr de uw fr to pa eT eS eB Tg Sg Bg tm bz hok2 hrm2 hlt _) (cwV 0 hts gM_keep_goes rfl rfl rfl (by decide +kernel) ⟨Nat.le_of_ble_eq_true rfl, Nat.le_of_ble_eq_true rfl⟩) hP hD hK hS hA [1, 2, 3, 4] [0] [1, 2, 3] rfl rfl rfl (by decide) (by decide) (by decide) rfl 0 rfl rfl rfl rfl hl.1 rfl (Nat.le_of_ble_eq_true rfl) dM_keep_48 ⟨Nat.zero_le _, Nat.zero_le _⟩ (fun u48 H locs e48 hP hD hS => ?_)
        have hP : va_P (dC, dI) vwCl [(mX, .inl (eX, 512, .inl Xm)), (mM, .inr (2, [.int (nI 0), .int (nI R), .ref mX, .int (nI 0), .ref mO, .int (nI os), .int (nI (hi - (lo + g + 1))), .ref mT, .ref mS, .ref mB, .int (nI (off hi - off (lo + g + 1))), .int (nI hi), .int (nI dr), .int (nI de), .int (nI uw), .int fr, .int to, .int (nI pa)])), (mT, .inl (eT, 16384, .inl u48.1)), (mS, .inl (eS, 16384, .inl u48.2.1)), (mB, .inl (eB, 16384, .inl u48.2.2))] H := hP
        have hD : va_D A [(mX, .inl (eX, 512, .inl Xm)), (mM, .inr (2, [.int (nI 0), .int (nI R), .ref mX, .int (nI 0), .ref mO, .int (nI os), .int (nI (hi - (lo + g + 1))), .ref mT, .ref mS, .ref mB, .int (nI (off hi - off (lo + g + 1))), .int (nI hi), .int (nI dr), .int (nI de), .int (nI uw), .int fr, .int to, .int (nI pa)])), (mT, .inl (eT, 16384, .inl u48.1)), (mS, .inl (eS, 16384, .inl u48.2.1)), (mB, .inl (eB, 16384, .inl u48.2.2))] := hD
        refine lv_iinc (v := nI (g + 1)) (lv' := [(3, .int (nI (g + 1))), (0, .ref mM), (1, .int tim), (2, .int (nI ts))]) hx hb dM_keep_51 hl (k := 0) rfl (show nI g + 1 = nI (g + 1) from nI_1 _) (by decide) rfl (fun ls hl => ?_)
        refine lv_goto (tgt := 34) hx hb dM_keep_54 (by decide) ?_
        exact ih (g + 1, u48.1, u48.2.1, u48.2.2) _ _ _ ⟨⟨by show _ + (g + 1) = hi - lo + 1; omega, by show g + 1 ≤ hi - lo; omega, fun k h1 h2 => (Nat.lt_or_ge k (lo + g)).elim (fun q => hj3 k h1 q) (fun q => by rw [show k = lo + g from Nat.le_antisymm (Nat.lt_succ_iff.mp h2) q]; exact c44), e48⟩, hP, hD, hS, lv_sub hl [0, 1, 2, 3] rfl⟩
    · exact absurd c26 (by omega)
  · exact absurd c16 (by omega)
set_option maxHeartbeats 4000000 in
set_option maxRecDepth 100000 in
/-- model: delete -/
theorem c_M_delete (l : Launch) (dC : Nat → ClassId) (dI : Nat → Nat → Nat) (mM mX mO mT mS mB R lo hi : Nat) (off : Nat → Nat) (ts os dr de uw : Nat) (fr to : Int32) (pa : Nat) (eT eS eB : ClassId) (Tm Sm Bm tm bz : Nat → Int32) (tim : Int32) (hok : rg_ok R lo hi off) (hrm : rm_rep lo hi off tm bz Bm Sm Tm) (hz : Nat) : Met l yM_delete wsM_delete ({ frames := 1, cells := 0, slots := 0, locals := 22 }) (va_Pc [.ref mM, .int tim] (fun U => U.heap.size = hz ∧ va_P (dC, dI) vwCl [(mM, .inr (2, [.int (nI 0), .int (nI R), .ref mX, .int (nI ts), .ref mO, .int (nI os), .int (nI (hi - lo)), .ref mT, .ref mS, .ref mB, .int (nI (off hi - off lo)), .int (nI hi), .int (nI dr), .int (nI de), .int (nI uw), .int fr, .int to, .int (nI pa)])), (mT, .inl (eT, 16384, .inl Tm)), (mS, .inl (eS, 16384, .inl Sm)), (mB, .inl (eB, 16384, .inl Bm))] U.heap ∧ va_K (dC, dI) vwCl [(eT, .int), (eS, .int), (eB, .byte)] U ∧ va_D (fun _ => True) [(mM, .inr (2, [.int (nI 0), .int (nI R), .ref mX, .int (nI ts), .ref mO, .int (nI os), .int (nI (hi - lo)), .ref mT, .ref mS, .ref mB, .int (nI (off hi - off lo)), .int (nI hi), .int (nI dr), .int (nI de), .int (nI uw), .int fr, .int to, .int (nI pa)])), (mT, .inl (eT, 16384, .inl Tm)), (mS, .inl (eS, 16384, .inl Sm)), (mB, .inl (eB, 16384, .inl Bm))])) (va_Qi (fun (r : Int32) (u : Nat × (Nat → Int32) × (Nat → Int32) × (Nat → Int32)) => r = nI (u.1 - lo) ∧ lo ≤ u.1 ∧ u.1 ≤ hi ∧ (∀ k, lo ≤ k → k < u.1 → ¬ tim < tm k) ∧ (u.1 < hi → tim < tm u.1) ∧ rm_rep u.1 hi off tm bz u.2.2.2 u.2.2.1 u.2.1) (fun u t => va_P (dC, dI) vwCl [(mM, .inr (2, [.int (nI 0), .int (nI R), .ref mX, .int (nI ts), .ref mO, .int (nI os), .int (nI (hi - u.1)), .ref mT, .ref mS, .ref mB, .int (nI (off hi - off u.1)), .int (nI hi), .int (nI dr), .int (nI (de + (u.1 - lo))), .int (nI uw), .int fr, .int to, .int (nI pa)])), (mT, .inl (eT, 16384, .inl u.2.1)), (mS, .inl (eS, 16384, .inl u.2.2.1)), (mB, .inl (eB, 16384, .inl u.2.2.2))] t.heap ∧ va_K (dC, dI) vwCl [(eT, .int), (eS, .int), (eB, .byte)] t ∧ va_D (va_A [(mM, .inr (2, [.int (nI 0), .int (nI R), .ref mX, .int (nI ts), .ref mO, .int (nI os), .int (nI (hi - lo)), .ref mT, .ref mS, .ref mB, .int (nI (off hi - off lo)), .int (nI hi), .int (nI dr), .int (nI de), .int (nI uw), .int fr, .int to, .int (nI pa)])), (mT, .inl (eT, 16384, .inl Tm)), (mS, .inl (eS, 16384, .inl Sm)), (mB, .inl (eB, 16384, .inl Bm))] hz) [(mM, .inr (2, [.int (nI 0), .int (nI R), .ref mX, .int (nI ts), .ref mO, .int (nI os), .int (nI (hi - u.1)), .ref mT, .ref mS, .ref mB, .int (nI (off hi - off u.1)), .int (nI hi), .int (nI dr), .int (nI (de + (u.1 - lo))), .int (nI uw), .int fr, .int to, .int (nI pa)])), (mT, .inl (eT, 16384, .inl u.2.1)), (mS, .inl (eS, 16384, .inl u.2.2.1)), (mB, .inl (eB, 16384, .inl u.2.2.2))]) (va_A [(mM, .inr (2, [.int (nI 0), .int (nI R), .ref mX, .int (nI ts), .ref mO, .int (nI os), .int (nI (hi - lo)), .ref mT, .ref mS, .ref mB, .int (nI (off hi - off lo)), .int (nI hi), .int (nI dr), .int (nI de), .int (nI uw), .int fr, .int to, .int (nI pa)])), (mT, .inl (eT, 16384, .inl Tm)), (mS, .inl (eS, 16384, .inl Sm)), (mB, .inl (eB, 16384, .inl Bm))] hz)) 0 0 (va_A [(mM, .inr (2, [.int (nI 0), .int (nI R), .ref mX, .int (nI ts), .ref mO, .int (nI os), .int (nI (hi - lo)), .ref mT, .ref mS, .ref mB, .int (nI (off hi - off lo)), .int (nI hi), .int (nI dr), .int (nI de), .int (nI uw), .int fr, .int to, .int (nI pa)])), (mT, .inl (eT, 16384, .inl Tm)), (mS, .inl (eS, 16384, .inl Sm)), (mB, .inl (eB, 16384, .inl Bm))] hz) := by
  refine Met.ofW (cc := cM_delete) (maxL := 3) (ret := (some .int)) (by decide) rfl ?_
  intro p e s m args below meth c s₁ B hml hv
  obtain ⟨rfl, hsz, hP, hK, hD0⟩ := hv
  have hx := B.exec
  have hb := B.bytes
  have hr := B.returns
  have hts := atoms_spec (ws := wsM_delete) B.pre
  have hown : s.vm.findClass RM = some m.cls := findClass_of_methodNamed B.named
  have hlocks := B.notSynchronized
  have hi_M : ∀ w ∈ u_ws RM TM 18, w ∈ wsM_delete := by decide +kernel
  subst hsz
  have hD := hD0.self (sz := s.heap.size)
  generalize hAe : va_A [(mM, .inr (2, [.int (nI 0), .int (nI R), .ref mX, .int (nI ts), .ref mO, .int (nI os), .int (nI (hi - lo)), .ref mT, .ref mS, .ref mB, .int (nI (off hi - off lo)), .int (nI hi), .int (nI dr), .int (nI de), .int (nI uw), .int fr, .int to, .int (nI pa)])), (mT, .inl (eT, 16384, .inl Tm)), (mS, .inl (eS, 16384, .inl Sm)), (mB, .inl (eB, 16384, .inl Bm))] s.heap.size = A at hD ⊢
  have hA : ∀ q : Nat, s.heap.size ≤ q → A q := fun q h => by rw [← hAe]; exact Or.inr h
  have hS : va_S A s.heap s.heap [] := va_S.rf
  have hP : va_P (dC, dI) vwCl [(mM, .inr (2, [.int (nI 0), .int (nI R), .ref mX, .int (nI ts), .ref mO, .int (nI os), .int (nI (hi - lo)), .ref mT, .ref mS, .ref mB, .int (nI (off hi - off lo)), .int (nI hi), .int (nI dr), .int (nI de), .int (nI uw), .int fr, .int to, .int (nI pa)])), (mT, .inl (eT, 16384, .inl Tm)), (mS, .inl (eS, 16384, .inl Sm)), (mB, .inl (eB, 16384, .inl Bm))] s.heap := hP
  have hl := lv_entry ([.ref mM, .int tim]) (n := 3) (Nat.le_of_ble_eq_true rfl)
  rw [lg_entry_eq]
  generalize (lg_sl ([.ref mM, .int tim]) ++ List.replicate (3 - (lg_sl ([.ref mM, .int tim])).length) Slot.unset).toArray = ls at hl ⊢
  have hl : lv_has ls 3 [(0, .ref mM), (1, .int tim)] := hl
  have hRR := hok.1
  have hll := hok.2.1
  have hcap := hok.2.2.1
  have hgap := hok.gap (Nat.le_refl lo) hll (Nat.le_refl hi)
  refine lv_aload_n hx hb dM_delete_0 rfl (lv_at hl 0 rfl) ?_
  refine lv_iconst (v := nI 0) hx hb dM_delete_1 (by decide) ?_
  refine va_put (D := (dC, dI)) (ci := 2) (v := .int (nI 0)) (ty := .int) (C := RM) (T := TM) (N := 18) hx hb hts hi_M tyM tyM_ok nmM hown hK hP hD hS 0 rfl rfl 0 (by decide) (hts (.fieldLink RM 30 "PacketStoreModel" "thrown" "I") (by decide +kernel)) (fun _ h9 => h9) rfl (by decide +kernel) rfl rfl (Nat.le_of_ble_eq_true rfl) dM_delete_2 (fun H locs hP hD hS => ?_)
  have hP : va_P (dC, dI) vwCl [(mM, .inr (2, [.int (nI 0), .int (nI R), .ref mX, .int (nI ts), .ref mO, .int (nI os), .int (nI (hi - lo)), .ref mT, .ref mS, .ref mB, .int (nI (off hi - off lo)), .int (nI hi), .int (nI dr), .int (nI de), .int (nI uw), .int fr, .int to, .int (nI pa)])), (mT, .inl (eT, 16384, .inl Tm)), (mS, .inl (eS, 16384, .inl Sm)), (mB, .inl (eB, 16384, .inl Bm))] H := hP
  have hD : va_D A [(mM, .inr (2, [.int (nI 0), .int (nI R), .ref mX, .int (nI ts), .ref mO, .int (nI os), .int (nI (hi - lo)), .ref mT, .ref mS, .ref mB, .int (nI (off hi - off lo)), .int (nI hi), .int (nI dr), .int (nI de), .int (nI uw), .int fr, .int to, .int (nI pa)])), (mT, .inl (eT, 16384, .inl Tm)), (mS, .inl (eS, 16384, .inl Sm)), (mB, .inl (eB, 16384, .inl Bm))] := hD
  refine lv_iconst (v := nI 0) hx hb dM_delete_5 (by decide) ?_
  refine lv_istore_n (lv' := [(2, .int (nI 0)), (0, .ref mM), (1, .int tim)]) hx hb dM_delete_6 rfl hl (by decide) rfl (fun ls hl => ?_)
  refine zz_loop (σ := Nat × (Nat → Int32) × (Nat → Int32) × (Nat → Int32)) (fun n v H locs ls => (n + v.1 = hi - lo + 1 ∧ v.1 ≤ hi - lo ∧ (∀ k, lo ≤ k → k < lo + v.1 → ¬ tim < tm k) ∧ rm_rep (lo + v.1) hi off tm bz v.2.2.2 v.2.2.1 v.2.1) ∧ va_P (dC, dI) vwCl [(mM, .inr (2, [.int (nI 0), .int (nI R), .ref mX, .int (nI ts), .ref mO, .int (nI os), .int (nI (hi - (lo + v.1))), .ref mT, .ref mS, .ref mB, .int (nI (off hi - off (lo + v.1))), .int (nI hi), .int (nI dr), .int (nI de), .int (nI uw), .int fr, .int to, .int (nI pa)])), (mT, .inl (eT, 16384, .inl v.2.1)), (mS, .inl (eS, 16384, .inl v.2.2.1)), (mB, .inl (eB, 16384, .inl v.2.2.2))] H ∧ va_D A [(mM, .inr (2, [.int (nI 0), .int (nI R), .ref mX, .int (nI ts), .ref mO, .int (nI os), .int (nI (hi - (lo + v.1))), .ref mT, .ref mS, .ref mB, .int (nI (off hi - off (lo + v.1))), .int (nI hi), .int (nI dr), .int (nI de), .int (nI uw), .int fr, .int to, .int (nI pa)])), (mT, .inl (eT, 16384, .inl v.2.1)), (mS, .inl (eS, 16384, .inl v.2.2.1)), (mB, .inl (eB, 16384, .inl v.2.2.2))] ∧ va_S A s.heap H locs ∧ lv_has ls 3 [(2, .int (nI v.1)), (0, .ref mM), (1, .int tim)]) (fun v H locs ls h => ?_) (fun n v H locs ls h ih => ?_) (hi - lo + 1) (0, Tm, Sm, Bm) _ _ _ ⟨⟨rfl, Nat.zero_le _, fun k h1 h2 => absurd h2 (Nat.not_lt.mpr h1), hrm⟩, hP, hD, hS, lv_sub hl [0, 1, 2] rfl⟩
  · obtain ⟨⟨h1, h2, -⟩, -⟩ := h
    omega
  obtain ⟨g, Tg, Sg, Bg⟩ := v
  obtain ⟨⟨hj1, hj2, hj3, hrm2⟩, hP, hD, hS, hl⟩ := h
  dsimp only at hj1 hj2 hj3 hrm2
  have hok2 := hok.drop (Nat.le_add_right lo g) (show lo + g ≤ hi by omega)
  have hcap2 := hok2.2.2.1
  have hgap2 := hok2.gap (Nat.le_refl _) hok2.2.1 (Nat.le_refl hi)
  have hP : va_P (dC, dI) vwCl [(mM, .inr (2, [.int (nI 0), .int (nI R), .ref mX, .int (nI ts), .ref mO, .int (nI os), .int (nI (hi - (lo + g))), .ref mT, .ref mS, .ref mB, .int (nI (off hi - off (lo + g))), .int (nI hi), .int (nI dr), .int (nI de), .int (nI uw), .int fr, .int to, .int (nI pa)])), (mT, .inl (eT, 16384, .inl Tg)), (mS, .inl (eS, 16384, .inl Sg)), (mB, .inl (eB, 16384, .inl Bg))] H := hP
  have hD : va_D A [(mM, .inr (2, [.int (nI 0), .int (nI R), .ref mX, .int (nI ts), .ref mO, .int (nI os), .int (nI (hi - (lo + g))), .ref mT, .ref mS, .ref mB, .int (nI (off hi - off (lo + g))), .int (nI hi), .int (nI dr), .int (nI de), .int (nI uw), .int fr, .int to, .int (nI pa)])), (mT, .inl (eT, 16384, .inl Tg)), (mS, .inl (eS, 16384, .inl Sg)), (mB, .inl (eB, 16384, .inl Bg))] := hD
  have hl : lv_has ls 3 [(2, .int (nI g)), (0, .ref mM), (1, .int tim)] := hl
  refine lv_aload_n hx hb dM_delete_7 rfl (lv_at hl 1 rfl) ?_
  refine va_get (D := (dC, dI)) (ci := 2) (v := .int (nI (hi - (lo + g)))) (C := RM) (T := TM) (N := 18) hx hb hts hi_M hown hK hP 0 rfl rfl 6 (by decide) (hts (.fieldLink RM 36 "PacketStoreModel" "many" "I") (by decide +kernel)) (fun _ h9 => h9) rfl dM_delete_8 ?_
  refine zz_if_le (a := hi - (lo + g)) (tgt := 34) hx hb dM_delete_11 (by decide) (by omega) (fun c11 => ?_) (fun c11 => ?_)
  · refine lv_aload_n hx hb dM_delete_34 rfl (lv_at hl 1 rfl) ?_
    refine lv_dup hx hb dM_delete_35 rfl ?_
    refine va_get (D := (dC, dI)) (ci := 2) (v := .int (nI de)) (C := RM) (T := TM) (N := 18) hx hb hts hi_M hown hK hP 0 rfl rfl 13 (by decide) (hts (.fieldLink RM 51 "PacketStoreModel" "deleted" "I") (by decide +kernel)) (fun _ h9 => h9) rfl dM_delete_36 ?_
    refine lv_iload_n hx hb dM_delete_39 rfl (lv_at hl 0 rfl) ?_
    refine lv_iadd hx hb dM_delete_40 ?_
    refine zz_as (nI (de + g)) (nI_add _ _) ?_
    refine zz_as (nI (de + (lo + g - lo))) (congrArg nI (by omega)) ?_
    refine va_put (D := (dC, dI)) (ci := 2) (v := .int (nI (de + (lo + g - lo)))) (ty := .int) (C := RM) (T := TM) (N := 18) hx hb hts hi_M tyM tyM_ok nmM hown hK hP hD hS 0 rfl rfl 13 (by decide) (hts (.fieldLink RM 51 "PacketStoreModel" "deleted" "I") (by decide +kernel)) (fun _ h9 => h9) rfl (by decide +kernel) rfl rfl (Nat.le_of_ble_eq_true rfl) dM_delete_41 (fun H locs hP hD hS => ?_)
    have hP : va_P (dC, dI) vwCl [(mM, .inr (2, [.int (nI 0), .int (nI R), .ref mX, .int (nI ts), .ref mO, .int (nI os), .int (nI (hi - (lo + g))), .ref mT, .ref mS, .ref mB, .int (nI (off hi - off (lo + g))), .int (nI hi), .int (nI dr), .int (nI (de + (lo + g - lo))), .int (nI uw), .int fr, .int to, .int (nI pa)])), (mT, .inl (eT, 16384, .inl Tg)), (mS, .inl (eS, 16384, .inl Sg)), (mB, .inl (eB, 16384, .inl Bg))] H := hP
    have hD : va_D A [(mM, .inr (2, [.int (nI 0), .int (nI R), .ref mX, .int (nI ts), .ref mO, .int (nI os), .int (nI (hi - (lo + g))), .ref mT, .ref mS, .ref mB, .int (nI (off hi - off (lo + g))), .int (nI hi), .int (nI dr), .int (nI (de + (lo + g - lo))), .int (nI uw), .int fr, .int to, .int (nI pa)])), (mT, .inl (eT, 16384, .inl Tg)), (mS, .inl (eS, 16384, .inl Sg)), (mB, .inl (eB, 16384, .inl Bg))] := hD
    refine lv_iload_n hx hb dM_delete_44 rfl (lv_at hl 0 rfl) ?_
    exact W.iret (v := (nI g)) hx hb hr (fun t ht hW => ⟨⟨_, (lo + g, Tg, Sg, Bg), rfl, ⟨congrArg nI (by omega), by omega, by omega, hj3, fun h => absurd h (by show ¬ lo + g < hi; omega), hrm2⟩, by rw [ht]; exact hP, va_K.moved hW.alike hK, hD⟩, hS.F ht⟩) hS.2.2 dM_delete_45
  · refine lv_aload_n hx hb dM_delete_14 rfl (lv_at hl 1 rfl) ?_
    refine va_get (D := (dC, dI)) (ci := 2) (v := .ref mT) (C := RM) (T := TM) (N := 18) hx hb hts hi_M hown hK hP 0 rfl rfl 7 (by decide) (hts (.fieldLink RM 16 "PacketStoreModel" "time" "[I") (by decide +kernel)) (fun _ h9 => h9) rfl dM_delete_15 ?_
    refine lv_iconst (v := nI 0) hx hb dM_delete_18 (by decide) ?_
    refine zz_iald hx hb hK hP 1 0 rfl rfl (j := 0) (by omega) (by omega) dM_delete_19 ?_
    refine zz_as (tm (lo + g)) (hrm2.1 0 (by omega)) ?_
    refine lv_iload_n hx hb dM_delete_20 rfl (lv_at hl 2 rfl) ?_
    refine lv_icmp_gt (tgt := 34) hx hb dM_delete_21 (by decide) (fun c21 => ?_) (fun c21 => ?_)
    · refine lv_aload_n hx hb dM_delete_34 rfl (lv_at hl 1 rfl) ?_
      refine lv_dup hx hb dM_delete_35 rfl ?_
      refine va_get (D := (dC, dI)) (ci := 2) (v := .int (nI de)) (C := RM) (T := TM) (N := 18) hx hb hts hi_M hown hK hP 0 rfl rfl 13 (by decide) (hts (.fieldLink RM 51 "PacketStoreModel" "deleted" "I") (by decide +kernel)) (fun _ h9 => h9) rfl dM_delete_36 ?_
      refine lv_iload_n hx hb dM_delete_39 rfl (lv_at hl 0 rfl) ?_
      refine lv_iadd hx hb dM_delete_40 ?_
      refine zz_as (nI (de + g)) (nI_add _ _) ?_
      refine zz_as (nI (de + (lo + g - lo))) (congrArg nI (by omega)) ?_
      refine va_put (D := (dC, dI)) (ci := 2) (v := .int (nI (de + (lo + g - lo)))) (ty := .int) (C := RM) (T := TM) (N := 18) hx hb hts hi_M tyM tyM_ok nmM hown hK hP hD hS 0 rfl rfl 13 (by decide) (hts (.fieldLink RM 51 "PacketStoreModel" "deleted" "I") (by decide +kernel)) (fun _ h9 => h9) rfl (by decide +kernel) rfl rfl (Nat.le_of_ble_eq_true rfl) dM_delete_41 (fun H locs hP hD hS => ?_)
      have hP : va_P (dC, dI) vwCl [(mM, .inr (2, [.int (nI 0), .int (nI R), .ref mX, .int (nI ts), .ref mO, .int (nI os), .int (nI (hi - (lo + g))), .ref mT, .ref mS, .ref mB, .int (nI (off hi - off (lo + g))), .int (nI hi), .int (nI dr), .int (nI (de + (lo + g - lo))), .int (nI uw), .int fr, .int to, .int (nI pa)])), (mT, .inl (eT, 16384, .inl Tg)), (mS, .inl (eS, 16384, .inl Sg)), (mB, .inl (eB, 16384, .inl Bg))] H := hP
      have hD : va_D A [(mM, .inr (2, [.int (nI 0), .int (nI R), .ref mX, .int (nI ts), .ref mO, .int (nI os), .int (nI (hi - (lo + g))), .ref mT, .ref mS, .ref mB, .int (nI (off hi - off (lo + g))), .int (nI hi), .int (nI dr), .int (nI (de + (lo + g - lo))), .int (nI uw), .int fr, .int to, .int (nI pa)])), (mT, .inl (eT, 16384, .inl Tg)), (mS, .inl (eS, 16384, .inl Sg)), (mB, .inl (eB, 16384, .inl Bg))] := hD
      refine lv_iload_n hx hb dM_delete_44 rfl (lv_at hl 0 rfl) ?_
      exact W.iret (v := (nI g)) hx hb hr (fun t ht hW => ⟨⟨_, (lo + g, Tg, Sg, Bg), rfl, ⟨congrArg nI (by omega), by omega, by omega, hj3, fun _ => c21, hrm2⟩, by rw [ht]; exact hP, va_K.moved hW.alike hK, hD⟩, hS.F ht⟩) hS.2.2 dM_delete_45
    · refine lv_aload_n hx hb dM_delete_24 rfl (lv_at hl 1 rfl) ?_
      refine zz_callMv (As := []) (rest := []) (wr := []) ⟨hx, hb, hml, hown, hts⟩ (c_M_goes l dC dI mM mX mO mT mS mB R (lo + g) hi off ts os dr de uw fr to pa eT eS eB Tg Sg Bg tm bz hok2 hrm2 (by omega) _) (cwV 0 hts gM_delete_goes rfl rfl rfl (by decide +kernel) ⟨Nat.le_of_ble_eq_true rfl, Nat.le_of_ble_eq_true rfl⟩) hP hD hK hS hA [0, 1, 2, 3] [] [0, 1, 2] rfl rfl rfl (by decide) (by decide) (by decide) rfl 0 rfl rfl rfl rfl hl.1 rfl (Nat.le_of_ble_eq_true rfl) dM_delete_25 ⟨Nat.zero_le _, Nat.zero_le _⟩ (fun u25 H locs e25 hP hD hS => ?_)
      have hP : va_P (dC, dI) vwCl [(mM, .inr (2, [.int (nI 0), .int (nI R), .ref mX, .int (nI ts), .ref mO, .int (nI os), .int (nI (hi - (lo + g + 1))), .ref mT, .ref mS, .ref mB, .int (nI (off hi - off (lo + g + 1))), .int (nI hi), .int (nI dr), .int (nI de), .int (nI uw), .int fr, .int to, .int (nI pa)])), (mT, .inl (eT, 16384, .inl u25.1)), (mS, .inl (eS, 16384, .inl u25.2.1)), (mB, .inl (eB, 16384, .inl u25.2.2))] H := hP
      have hD : va_D A [(mM, .inr (2, [.int (nI 0), .int (nI R), .ref mX, .int (nI ts), .ref mO, .int (nI os), .int (nI (hi - (lo + g + 1))), .ref mT, .ref mS, .ref mB, .int (nI (off hi - off (lo + g + 1))), .int (nI hi), .int (nI dr), .int (nI de), .int (nI uw), .int fr, .int to, .int (nI pa)])), (mT, .inl (eT, 16384, .inl u25.1)), (mS, .inl (eS, 16384, .inl u25.2.1)), (mB, .inl (eB, 16384, .inl u25.2.2))] := hD
      refine lv_iinc (v := nI (g + 1)) (lv' := [(2, .int (nI (g + 1))), (0, .ref mM), (1, .int tim)]) hx hb dM_delete_28 hl (k := 0) rfl (show nI g + 1 = nI (g + 1) from nI_1 _) (by decide) rfl (fun ls hl => ?_)
      refine lv_goto (tgt := 7) hx hb dM_delete_31 (by decide) ?_
      exact ih (g + 1, u25.1, u25.2.1, u25.2.2) _ _ _ ⟨⟨by show _ + (g + 1) = hi - lo + 1; omega, by show g + 1 ≤ hi - lo; omega, fun k h1 h2 => (Nat.lt_or_ge k (lo + g)).elim (fun q => hj3 k h1 q) (fun q => by rw [show k = lo + g from Nat.le_antisymm (Nat.lt_succ_iff.mp h2) q]; exact c21), e25⟩, hP, hD, hS, lv_sub hl [0, 1, 2] rfl⟩
set_option maxHeartbeats 4000000 in
set_option maxRecDepth 100000 in
/-- model: begin -/
theorem c_M_begin (l : Launch) (dC : Nat → ClassId) (dI : Nat → Nat → Nat) (mM mX mO mT mS mB R ts os ma us ca dr de uw : Nat) (fr to : Int32) (lk : Nat) (f2 t2 : Int32) (huw : uw ≤ 1) (hma : ma ≤ ca) (hz : Nat) : Met l yM_begin wsM_begin ({ frames := 0, cells := 0, slots := 0, locals := 0 }) (va_Pc [.ref mM, .int f2, .int t2] (fun U => U.heap.size = hz ∧ va_P (dC, dI) vwCl [(mM, .inr (2, [.int (nI 0), .int (nI R), .ref mX, .int (nI ts), .ref mO, .int (nI os), .int (nI ma), .ref mT, .ref mS, .ref mB, .int (nI us), .int (nI ca), .int (nI dr), .int (nI de), .int (nI uw), .int fr, .int to, .int (nI lk)]))] U.heap ∧ va_K (dC, dI) vwCl [] U ∧ va_D (fun _ => True) [(mM, .inr (2, [.int (nI 0), .int (nI R), .ref mX, .int (nI ts), .ref mO, .int (nI os), .int (nI ma), .ref mT, .ref mS, .ref mB, .int (nI us), .int (nI ca), .int (nI dr), .int (nI de), .int (nI uw), .int fr, .int to, .int (nI lk)]))])) (va_Qi (fun (r : Int32) (u : Nat × Int32 × Int32 × Nat) => (uw ≠ 0 ∧ r = nI 0 ∧ u = (uw, fr, to, lk)) ∨ (uw = 0 ∧ r = nI 1 ∧ u = (1, f2, t2, ca - ma))) (fun u t => va_P (dC, dI) vwCl [(mM, .inr (2, [.int (nI 0), .int (nI R), .ref mX, .int (nI ts), .ref mO, .int (nI os), .int (nI ma), .ref mT, .ref mS, .ref mB, .int (nI us), .int (nI ca), .int (nI dr), .int (nI de), .int (nI u.1), .int u.2.1, .int u.2.2.1, .int (nI u.2.2.2)]))] t.heap ∧ va_K (dC, dI) vwCl [] t ∧ va_D (va_A [(mM, .inr (2, [.int (nI 0), .int (nI R), .ref mX, .int (nI ts), .ref mO, .int (nI os), .int (nI ma), .ref mT, .ref mS, .ref mB, .int (nI us), .int (nI ca), .int (nI dr), .int (nI de), .int (nI uw), .int fr, .int to, .int (nI lk)]))] hz) [(mM, .inr (2, [.int (nI 0), .int (nI R), .ref mX, .int (nI ts), .ref mO, .int (nI os), .int (nI ma), .ref mT, .ref mS, .ref mB, .int (nI us), .int (nI ca), .int (nI dr), .int (nI de), .int (nI u.1), .int u.2.1, .int u.2.2.1, .int (nI u.2.2.2)]))]) (va_A [(mM, .inr (2, [.int (nI 0), .int (nI R), .ref mX, .int (nI ts), .ref mO, .int (nI os), .int (nI ma), .ref mT, .ref mS, .ref mB, .int (nI us), .int (nI ca), .int (nI dr), .int (nI de), .int (nI uw), .int fr, .int to, .int (nI lk)]))] hz)) 0 0 (va_A [(mM, .inr (2, [.int (nI 0), .int (nI R), .ref mX, .int (nI ts), .ref mO, .int (nI os), .int (nI ma), .ref mT, .ref mS, .ref mB, .int (nI us), .int (nI ca), .int (nI dr), .int (nI de), .int (nI uw), .int fr, .int to, .int (nI lk)]))] hz) := by
  refine Met.ofW (cc := cM_begin) (maxL := 3) (ret := (some .boolean)) (by decide) rfl ?_
  intro p e s m args below meth c s₁ B hml hv
  obtain ⟨rfl, hsz, hP, hK, hD0⟩ := hv
  have hx := B.exec
  have hb := B.bytes
  have hr := B.returns
  have hts := atoms_spec (ws := wsM_begin) B.pre
  have hown : s.vm.findClass RM = some m.cls := findClass_of_methodNamed B.named
  have hlocks := B.notSynchronized
  have hi_M : ∀ w ∈ u_ws RM TM 18, w ∈ wsM_begin := by decide +kernel
  subst hsz
  have hD := hD0.self (sz := s.heap.size)
  generalize hAe : va_A [(mM, .inr (2, [.int (nI 0), .int (nI R), .ref mX, .int (nI ts), .ref mO, .int (nI os), .int (nI ma), .ref mT, .ref mS, .ref mB, .int (nI us), .int (nI ca), .int (nI dr), .int (nI de), .int (nI uw), .int fr, .int to, .int (nI lk)]))] s.heap.size = A at hD ⊢
  have hA : ∀ q : Nat, s.heap.size ≤ q → A q := fun q h => by rw [← hAe]; exact Or.inr h
  have hS : va_S A s.heap s.heap [] := va_S.rf
  have hP : va_P (dC, dI) vwCl [(mM, .inr (2, [.int (nI 0), .int (nI R), .ref mX, .int (nI ts), .ref mO, .int (nI os), .int (nI ma), .ref mT, .ref mS, .ref mB, .int (nI us), .int (nI ca), .int (nI dr), .int (nI de), .int (nI uw), .int fr, .int to, .int (nI lk)]))] s.heap := hP
  have hl := lv_entry ([.ref mM, .int f2, .int t2]) (n := 3) (Nat.le_of_ble_eq_true rfl)
  rw [lg_entry_eq]
  generalize (lg_sl ([.ref mM, .int f2, .int t2]) ++ List.replicate (3 - (lg_sl ([.ref mM, .int f2, .int t2])).length) Slot.unset).toArray = ls at hl ⊢
  have hl : lv_has ls 3 [(0, .ref mM), (1, .int f2), (2, .int t2)] := hl
  refine lv_aload_n hx hb dM_begin_0 rfl (lv_at hl 0 rfl) ?_
  refine lv_iconst (v := nI 0) hx hb dM_begin_1 (by decide) ?_
  refine va_put (D := (dC, dI)) (ci := 2) (v := .int (nI 0)) (ty := .int) (C := RM) (T := TM) (N := 18) hx hb hts hi_M tyM tyM_ok nmM hown hK hP hD hS 0 rfl rfl 0 (by decide) (hts (.fieldLink RM 30 "PacketStoreModel" "thrown" "I") (by decide +kernel)) (fun _ h9 => h9) rfl (by decide +kernel) rfl rfl (Nat.le_of_ble_eq_true rfl) dM_begin_2 (fun H locs hP hD hS => ?_)
  have hP : va_P (dC, dI) vwCl [(mM, .inr (2, [.int (nI 0), .int (nI R), .ref mX, .int (nI ts), .ref mO, .int (nI os), .int (nI ma), .ref mT, .ref mS, .ref mB, .int (nI us), .int (nI ca), .int (nI dr), .int (nI de), .int (nI uw), .int fr, .int to, .int (nI lk)]))] H := hP
  have hD : va_D A [(mM, .inr (2, [.int (nI 0), .int (nI R), .ref mX, .int (nI ts), .ref mO, .int (nI os), .int (nI ma), .ref mT, .ref mS, .ref mB, .int (nI us), .int (nI ca), .int (nI dr), .int (nI de), .int (nI uw), .int fr, .int to, .int (nI lk)]))] := hD
  refine lv_aload_n hx hb dM_begin_5 rfl (lv_at hl 0 rfl) ?_
  refine va_get (D := (dC, dI)) (ci := 2) (v := .int (nI uw)) (C := RM) (T := TM) (N := 18) hx hb hts hi_M hown hK hP 0 rfl rfl 14 (by decide) (hts (.fieldLink RM 54 "PacketStoreModel" "retrieves" "Z") (by decide +kernel)) (fun _ h9 => h9) rfl dM_begin_6 ?_
  refine zz_if_eq (a := uw) (tgt := 14) hx hb dM_begin_9 (by decide) (by omega) (fun c9 => ?_) (fun c9 => ?_)
  · refine lv_aload_n hx hb dM_begin_14 rfl (lv_at hl 0 rfl) ?_
    refine lv_iconst (v := nI 1) hx hb dM_begin_15 (by decide) ?_
    refine va_put (D := (dC, dI)) (ci := 2) (v := .int (nI 1)) (ty := .boolean) (C := RM) (T := TM) (N := 18) hx hb hts hi_M tyM tyM_ok nmM hown hK hP hD hS 0 rfl rfl 14 (by decide) (hts (.fieldLink RM 54 "PacketStoreModel" "retrieves" "Z") (by decide +kernel)) (fun _ h9 => h9) rfl (by decide +kernel) rfl rfl (Nat.le_of_ble_eq_true rfl) dM_begin_16 (fun H locs hP hD hS => ?_)
    have hP : va_P (dC, dI) vwCl [(mM, .inr (2, [.int (nI 0), .int (nI R), .ref mX, .int (nI ts), .ref mO, .int (nI os), .int (nI ma), .ref mT, .ref mS, .ref mB, .int (nI us), .int (nI ca), .int (nI dr), .int (nI de), .int (nI 1), .int fr, .int to, .int (nI lk)]))] H := hP
    have hD : va_D A [(mM, .inr (2, [.int (nI 0), .int (nI R), .ref mX, .int (nI ts), .ref mO, .int (nI os), .int (nI ma), .ref mT, .ref mS, .ref mB, .int (nI us), .int (nI ca), .int (nI dr), .int (nI de), .int (nI 1), .int fr, .int to, .int (nI lk)]))] := hD
    refine lv_aload_n hx hb dM_begin_19 rfl (lv_at hl 0 rfl) ?_
    refine lv_iload_n hx hb dM_begin_20 rfl (lv_at hl 1 rfl) ?_
    refine va_put (D := (dC, dI)) (ci := 2) (v := .int f2) (ty := .int) (C := RM) (T := TM) (N := 18) hx hb hts hi_M tyM tyM_ok nmM hown hK hP hD hS 0 rfl rfl 15 (by decide) (hts (.fieldLink RM 58 "PacketStoreModel" "from" "I") (by decide +kernel)) (fun _ h9 => h9) rfl (by decide +kernel) rfl rfl (Nat.le_of_ble_eq_true rfl) dM_begin_21 (fun H locs hP hD hS => ?_)
    have hP : va_P (dC, dI) vwCl [(mM, .inr (2, [.int (nI 0), .int (nI R), .ref mX, .int (nI ts), .ref mO, .int (nI os), .int (nI ma), .ref mT, .ref mS, .ref mB, .int (nI us), .int (nI ca), .int (nI dr), .int (nI de), .int (nI 1), .int f2, .int to, .int (nI lk)]))] H := hP
    have hD : va_D A [(mM, .inr (2, [.int (nI 0), .int (nI R), .ref mX, .int (nI ts), .ref mO, .int (nI os), .int (nI ma), .ref mT, .ref mS, .ref mB, .int (nI us), .int (nI ca), .int (nI dr), .int (nI de), .int (nI 1), .int f2, .int to, .int (nI lk)]))] := hD
    refine lv_aload_n hx hb dM_begin_24 rfl (lv_at hl 0 rfl) ?_
    refine lv_iload_n hx hb dM_begin_25 rfl (lv_at hl 2 rfl) ?_
    refine va_put (D := (dC, dI)) (ci := 2) (v := .int t2) (ty := .int) (C := RM) (T := TM) (N := 18) hx hb hts hi_M tyM tyM_ok nmM hown hK hP hD hS 0 rfl rfl 16 (by decide) (hts (.fieldLink RM 61 "PacketStoreModel" "to" "I") (by decide +kernel)) (fun _ h9 => h9) rfl (by decide +kernel) rfl rfl (Nat.le_of_ble_eq_true rfl) dM_begin_26 (fun H locs hP hD hS => ?_)
    have hP : va_P (dC, dI) vwCl [(mM, .inr (2, [.int (nI 0), .int (nI R), .ref mX, .int (nI ts), .ref mO, .int (nI os), .int (nI ma), .ref mT, .ref mS, .ref mB, .int (nI us), .int (nI ca), .int (nI dr), .int (nI de), .int (nI 1), .int f2, .int t2, .int (nI lk)]))] H := hP
    have hD : va_D A [(mM, .inr (2, [.int (nI 0), .int (nI R), .ref mX, .int (nI ts), .ref mO, .int (nI os), .int (nI ma), .ref mT, .ref mS, .ref mB, .int (nI us), .int (nI ca), .int (nI dr), .int (nI de), .int (nI 1), .int f2, .int t2, .int (nI lk)]))] := hD
    refine lv_aload_n hx hb dM_begin_29 rfl (lv_at hl 0 rfl) ?_
    refine lv_aload_n hx hb dM_begin_30 rfl (lv_at hl 0 rfl) ?_
    refine va_get (D := (dC, dI)) (ci := 2) (v := .int (nI ca)) (C := RM) (T := TM) (N := 18) hx hb hts hi_M hown hK hP 0 rfl rfl 11 (by decide) (hts (.fieldLink RM 48 "PacketStoreModel" "came" "I") (by decide +kernel)) (fun _ h9 => h9) rfl dM_begin_31 ?_
    refine lv_aload_n hx hb dM_begin_34 rfl (lv_at hl 0 rfl) ?_
    refine va_get (D := (dC, dI)) (ci := 2) (v := .int (nI ma)) (C := RM) (T := TM) (N := 18) hx hb hts hi_M hown hK hP 0 rfl rfl 6 (by decide) (hts (.fieldLink RM 36 "PacketStoreModel" "many" "I") (by decide +kernel)) (fun _ h9 => h9) rfl dM_begin_35 ?_
    refine lv_isub hx hb dM_begin_38 ?_
    refine zz_as (nI (ca - ma)) (pk_sub (by omega)) ?_
    refine va_put (D := (dC, dI)) (ci := 2) (v := .int (nI (ca - ma))) (ty := .int) (C := RM) (T := TM) (N := 18) hx hb hts hi_M tyM tyM_ok nmM hown hK hP hD hS 0 rfl rfl 17 (by decide) (hts (.fieldLink RM 64 "PacketStoreModel" "looks" "I") (by decide +kernel)) (fun _ h9 => h9) rfl (by decide +kernel) rfl rfl (Nat.le_of_ble_eq_true rfl) dM_begin_39 (fun H locs hP hD hS => ?_)
    have hP : va_P (dC, dI) vwCl [(mM, .inr (2, [.int (nI 0), .int (nI R), .ref mX, .int (nI ts), .ref mO, .int (nI os), .int (nI ma), .ref mT, .ref mS, .ref mB, .int (nI us), .int (nI ca), .int (nI dr), .int (nI de), .int (nI 1), .int f2, .int t2, .int (nI (ca - ma))]))] H := hP
    have hD : va_D A [(mM, .inr (2, [.int (nI 0), .int (nI R), .ref mX, .int (nI ts), .ref mO, .int (nI os), .int (nI ma), .ref mT, .ref mS, .ref mB, .int (nI us), .int (nI ca), .int (nI dr), .int (nI de), .int (nI 1), .int f2, .int t2, .int (nI (ca - ma))]))] := hD
    refine lv_iconst (v := nI 1) hx hb dM_begin_42 (by decide) ?_
    exact W.zret (v := (nI 1)) hx hb hr rfl (fun t ht hW => ⟨⟨_, (1, f2, t2, ca - ma), rfl, Or.inr ⟨c9, rfl, rfl⟩, by rw [ht]; exact hP, va_K.moved hW.alike hK, hD⟩, hS.F ht⟩) hS.2.2 dM_begin_43
  · refine lv_iconst (v := nI 0) hx hb dM_begin_12 (by decide) ?_
    exact W.zret (v := (nI 0)) hx hb hr rfl (fun t ht hW => ⟨⟨_, (uw, fr, to, lk), rfl, Or.inl ⟨c9, rfl, rfl⟩, by rw [ht]; exact hP, va_K.moved hW.alike hK, hD⟩, hS.F ht⟩) hS.2.2 dM_begin_13
set_option maxHeartbeats 4000000 in
set_option maxRecDepth 100000 in
/-- model: stop -/
theorem c_M_stop (l : Launch) (dC : Nat → ClassId) (dI : Nat → Nat → Nat) (mM mX mO mT mS mB R ts os ma us ca dr de uw : Nat) (fr to : Int32) (lk : Nat) (huw : uw ≤ 1) (hz : Nat) : Met l yM_stop wsM_stop ({ frames := 0, cells := 0, slots := 0, locals := 0 }) (va_Pc [.ref mM] (fun U => U.heap.size = hz ∧ va_P (dC, dI) vwCl [(mM, .inr (2, [.int (nI 0), .int (nI R), .ref mX, .int (nI ts), .ref mO, .int (nI os), .int (nI ma), .ref mT, .ref mS, .ref mB, .int (nI us), .int (nI ca), .int (nI dr), .int (nI de), .int (nI uw), .int fr, .int to, .int (nI lk)]))] U.heap ∧ va_K (dC, dI) vwCl [] U ∧ va_D (fun _ => True) [(mM, .inr (2, [.int (nI 0), .int (nI R), .ref mX, .int (nI ts), .ref mO, .int (nI os), .int (nI ma), .ref mT, .ref mS, .ref mB, .int (nI us), .int (nI ca), .int (nI dr), .int (nI de), .int (nI uw), .int fr, .int to, .int (nI lk)]))])) (va_Qi (fun (r : Int32) (u : Unit) => r = nI uw) (fun u t => va_P (dC, dI) vwCl [(mM, .inr (2, [.int (nI 0), .int (nI R), .ref mX, .int (nI ts), .ref mO, .int (nI os), .int (nI ma), .ref mT, .ref mS, .ref mB, .int (nI us), .int (nI ca), .int (nI dr), .int (nI de), .int (nI 0), .int fr, .int to, .int (nI lk)]))] t.heap ∧ va_K (dC, dI) vwCl [] t ∧ va_D (va_A [(mM, .inr (2, [.int (nI 0), .int (nI R), .ref mX, .int (nI ts), .ref mO, .int (nI os), .int (nI ma), .ref mT, .ref mS, .ref mB, .int (nI us), .int (nI ca), .int (nI dr), .int (nI de), .int (nI uw), .int fr, .int to, .int (nI lk)]))] hz) [(mM, .inr (2, [.int (nI 0), .int (nI R), .ref mX, .int (nI ts), .ref mO, .int (nI os), .int (nI ma), .ref mT, .ref mS, .ref mB, .int (nI us), .int (nI ca), .int (nI dr), .int (nI de), .int (nI 0), .int fr, .int to, .int (nI lk)]))]) (va_A [(mM, .inr (2, [.int (nI 0), .int (nI R), .ref mX, .int (nI ts), .ref mO, .int (nI os), .int (nI ma), .ref mT, .ref mS, .ref mB, .int (nI us), .int (nI ca), .int (nI dr), .int (nI de), .int (nI uw), .int fr, .int to, .int (nI lk)]))] hz)) 0 0 (va_A [(mM, .inr (2, [.int (nI 0), .int (nI R), .ref mX, .int (nI ts), .ref mO, .int (nI os), .int (nI ma), .ref mT, .ref mS, .ref mB, .int (nI us), .int (nI ca), .int (nI dr), .int (nI de), .int (nI uw), .int fr, .int to, .int (nI lk)]))] hz) := by
  refine Met.ofW (cc := cM_stop) (maxL := 2) (ret := (some .boolean)) (by decide) rfl ?_
  intro p e s m args below meth c s₁ B hml hv
  obtain ⟨rfl, hsz, hP, hK, hD0⟩ := hv
  have hx := B.exec
  have hb := B.bytes
  have hr := B.returns
  have hts := atoms_spec (ws := wsM_stop) B.pre
  have hown : s.vm.findClass RM = some m.cls := findClass_of_methodNamed B.named
  have hlocks := B.notSynchronized
  have hi_M : ∀ w ∈ u_ws RM TM 18, w ∈ wsM_stop := by decide +kernel
  subst hsz
  have hD := hD0.self (sz := s.heap.size)
  generalize hAe : va_A [(mM, .inr (2, [.int (nI 0), .int (nI R), .ref mX, .int (nI ts), .ref mO, .int (nI os), .int (nI ma), .ref mT, .ref mS, .ref mB, .int (nI us), .int (nI ca), .int (nI dr), .int (nI de), .int (nI uw), .int fr, .int to, .int (nI lk)]))] s.heap.size = A at hD ⊢
  have hA : ∀ q : Nat, s.heap.size ≤ q → A q := fun q h => by rw [← hAe]; exact Or.inr h
  have hS : va_S A s.heap s.heap [] := va_S.rf
  have hP : va_P (dC, dI) vwCl [(mM, .inr (2, [.int (nI 0), .int (nI R), .ref mX, .int (nI ts), .ref mO, .int (nI os), .int (nI ma), .ref mT, .ref mS, .ref mB, .int (nI us), .int (nI ca), .int (nI dr), .int (nI de), .int (nI uw), .int fr, .int to, .int (nI lk)]))] s.heap := hP
  have hl := lv_entry ([.ref mM]) (n := 2) (Nat.le_of_ble_eq_true rfl)
  rw [lg_entry_eq]
  generalize (lg_sl ([.ref mM]) ++ List.replicate (2 - (lg_sl ([.ref mM])).length) Slot.unset).toArray = ls at hl ⊢
  have hl : lv_has ls 2 [(0, .ref mM)] := hl
  refine lv_aload_n hx hb dM_stop_0 rfl (lv_at hl 0 rfl) ?_
  refine lv_iconst (v := nI 0) hx hb dM_stop_1 (by decide) ?_
  refine va_put (D := (dC, dI)) (ci := 2) (v := .int (nI 0)) (ty := .int) (C := RM) (T := TM) (N := 18) hx hb hts hi_M tyM tyM_ok nmM hown hK hP hD hS 0 rfl rfl 0 (by decide) (hts (.fieldLink RM 30 "PacketStoreModel" "thrown" "I") (by decide +kernel)) (fun _ h9 => h9) rfl (by decide +kernel) rfl rfl (Nat.le_of_ble_eq_true rfl) dM_stop_2 (fun H locs hP hD hS => ?_)
  have hP : va_P (dC, dI) vwCl [(mM, .inr (2, [.int (nI 0), .int (nI R), .ref mX, .int (nI ts), .ref mO, .int (nI os), .int (nI ma), .ref mT, .ref mS, .ref mB, .int (nI us), .int (nI ca), .int (nI dr), .int (nI de), .int (nI uw), .int fr, .int to, .int (nI lk)]))] H := hP
  have hD : va_D A [(mM, .inr (2, [.int (nI 0), .int (nI R), .ref mX, .int (nI ts), .ref mO, .int (nI os), .int (nI ma), .ref mT, .ref mS, .ref mB, .int (nI us), .int (nI ca), .int (nI dr), .int (nI de), .int (nI uw), .int fr, .int to, .int (nI lk)]))] := hD
  refine lv_aload_n hx hb dM_stop_5 rfl (lv_at hl 0 rfl) ?_
  refine va_get (D := (dC, dI)) (ci := 2) (v := .int (nI uw)) (C := RM) (T := TM) (N := 18) hx hb hts hi_M hown hK hP 0 rfl rfl 14 (by decide) (hts (.fieldLink RM 54 "PacketStoreModel" "retrieves" "Z") (by decide +kernel)) (fun _ h9 => h9) rfl dM_stop_6 ?_
  refine lv_istore_n (lv' := [(1, .int (nI uw)), (0, .ref mM)]) hx hb dM_stop_9 rfl hl (by decide) rfl (fun ls hl => ?_)
  refine lv_aload_n hx hb dM_stop_10 rfl (lv_at hl 1 rfl) ?_
  refine lv_iconst (v := nI 0) hx hb dM_stop_11 (by decide) ?_
  refine va_put (D := (dC, dI)) (ci := 2) (v := .int (nI 0)) (ty := .boolean) (C := RM) (T := TM) (N := 18) hx hb hts hi_M tyM tyM_ok nmM hown hK hP hD hS 0 rfl rfl 14 (by decide) (hts (.fieldLink RM 54 "PacketStoreModel" "retrieves" "Z") (by decide +kernel)) (fun _ h9 => h9) rfl (by decide +kernel) rfl rfl (Nat.le_of_ble_eq_true rfl) dM_stop_12 (fun H locs hP hD hS => ?_)
  have hP : va_P (dC, dI) vwCl [(mM, .inr (2, [.int (nI 0), .int (nI R), .ref mX, .int (nI ts), .ref mO, .int (nI os), .int (nI ma), .ref mT, .ref mS, .ref mB, .int (nI us), .int (nI ca), .int (nI dr), .int (nI de), .int (nI 0), .int fr, .int to, .int (nI lk)]))] H := hP
  have hD : va_D A [(mM, .inr (2, [.int (nI 0), .int (nI R), .ref mX, .int (nI ts), .ref mO, .int (nI os), .int (nI ma), .ref mT, .ref mS, .ref mB, .int (nI us), .int (nI ca), .int (nI dr), .int (nI de), .int (nI 0), .int fr, .int to, .int (nI lk)]))] := hD
  refine lv_iload_n hx hb dM_stop_15 rfl (lv_at hl 0 rfl) ?_
  exact W.zret (v := (nI uw)) hx hb hr (by rcases (show uw = 0 ∨ uw = 1 by omega) with h | h <;> subst h <;> rfl) (fun t ht hW => ⟨⟨_, (), rfl, rfl, by rw [ht]; exact hP, va_K.moved hW.alike hK, hD⟩, hS.F ht⟩) hS.2.2 dM_stop_16
end
section
set_option maxHeartbeats 4000000 in
set_option maxRecDepth 100000 in
/-- model: next, none under way -/
theorem c_M_next_none (l : Launch) (dC : Nat → ClassId) (dI : Nat → Nat → Nat) (mM mX mO mT mS mB R ts os ma us ca dr de uw : Nat) (fr to : Int32) (lk : Nat) (most : Int32) (h0 : uw = 0) (hz : Nat) : Met l yM_next wsM_next ({ frames := 0, cells := 0, slots := 0, locals := 0 }) (va_Pc [.ref mM, .int most] (fun U => U.heap.size = hz ∧ va_P (dC, dI) vwCl [(mM, .inr (2, [.int (nI 0), .int (nI R), .ref mX, .int (nI ts), .ref mO, .int (nI os), .int (nI ma), .ref mT, .ref mS, .ref mB, .int (nI us), .int (nI ca), .int (nI dr), .int (nI de), .int (nI uw), .int fr, .int to, .int (nI lk)]))] U.heap ∧ va_K (dC, dI) vwCl [] U ∧ va_D (fun _ => True) [(mM, .inr (2, [.int (nI 0), .int (nI R), .ref mX, .int (nI ts), .ref mO, .int (nI os), .int (nI ma), .ref mT, .ref mS, .ref mB, .int (nI us), .int (nI ca), .int (nI dr), .int (nI de), .int (nI uw), .int fr, .int to, .int (nI lk)]))])) (va_Qi (fun (r : Int32) (u : Unit) => r = (-1)) (fun u t => va_P (dC, dI) vwCl [(mM, .inr (2, [.int (nI 0), .int (nI R), .ref mX, .int (nI ts), .ref mO, .int (nI os), .int (nI ma), .ref mT, .ref mS, .ref mB, .int (nI us), .int (nI ca), .int (nI dr), .int (nI de), .int (nI uw), .int fr, .int to, .int (nI lk)]))] t.heap ∧ va_K (dC, dI) vwCl [] t ∧ va_D (va_A [(mM, .inr (2, [.int (nI 0), .int (nI R), .ref mX, .int (nI ts), .ref mO, .int (nI os), .int (nI ma), .ref mT, .ref mS, .ref mB, .int (nI us), .int (nI ca), .int (nI dr), .int (nI de), .int (nI uw), .int fr, .int to, .int (nI lk)]))] hz) [(mM, .inr (2, [.int (nI 0), .int (nI R), .ref mX, .int (nI ts), .ref mO, .int (nI os), .int (nI ma), .ref mT, .ref mS, .ref mB, .int (nI us), .int (nI ca), .int (nI dr), .int (nI de), .int (nI uw), .int fr, .int to, .int (nI lk)]))]) (va_A [(mM, .inr (2, [.int (nI 0), .int (nI R), .ref mX, .int (nI ts), .ref mO, .int (nI os), .int (nI ma), .ref mT, .ref mS, .ref mB, .int (nI us), .int (nI ca), .int (nI dr), .int (nI de), .int (nI uw), .int fr, .int to, .int (nI lk)]))] hz)) 0 0 (va_A [(mM, .inr (2, [.int (nI 0), .int (nI R), .ref mX, .int (nI ts), .ref mO, .int (nI os), .int (nI ma), .ref mT, .ref mS, .ref mB, .int (nI us), .int (nI ca), .int (nI dr), .int (nI de), .int (nI uw), .int fr, .int to, .int (nI lk)]))] hz) := by
  refine Met.ofW (cc := cM_next) (maxL := 5) (ret := (some .int)) (by decide) rfl ?_
  intro p e s m args below meth c s₁ B hml hv
  obtain ⟨rfl, hsz, hP, hK, hD0⟩ := hv
  have hx := B.exec
  have hb := B.bytes
  have hr := B.returns
  have hts := atoms_spec (ws := wsM_next) B.pre
  have hown : s.vm.findClass RM = some m.cls := findClass_of_methodNamed B.named
  have hlocks := B.notSynchronized
  have hi_M : ∀ w ∈ u_ws RM TM 18, w ∈ wsM_next := by decide +kernel
  subst hsz
  have hD := hD0.self (sz := s.heap.size)
  generalize hAe : va_A [(mM, .inr (2, [.int (nI 0), .int (nI R), .ref mX, .int (nI ts), .ref mO, .int (nI os), .int (nI ma), .ref mT, .ref mS, .ref mB, .int (nI us), .int (nI ca), .int (nI dr), .int (nI de), .int (nI uw), .int fr, .int to, .int (nI lk)]))] s.heap.size = A at hD ⊢
  have hA : ∀ q : Nat, s.heap.size ≤ q → A q := fun q h => by rw [← hAe]; exact Or.inr h
  have hS : va_S A s.heap s.heap [] := va_S.rf
  have hP : va_P (dC, dI) vwCl [(mM, .inr (2, [.int (nI 0), .int (nI R), .ref mX, .int (nI ts), .ref mO, .int (nI os), .int (nI ma), .ref mT, .ref mS, .ref mB, .int (nI us), .int (nI ca), .int (nI dr), .int (nI de), .int (nI uw), .int fr, .int to, .int (nI lk)]))] s.heap := hP
  have hl := lv_entry ([.ref mM, .int most]) (n := 5) (Nat.le_of_ble_eq_true rfl)
  rw [lg_entry_eq]
  generalize (lg_sl ([.ref mM, .int most]) ++ List.replicate (5 - (lg_sl ([.ref mM, .int most])).length) Slot.unset).toArray = ls at hl ⊢
  have hl : lv_has ls 5 [(0, .ref mM), (1, .int most)] := hl
  refine lv_aload_n hx hb dM_next_0 rfl (lv_at hl 0 rfl) ?_
  refine lv_iconst (v := nI 0) hx hb dM_next_1 (by decide) ?_
  refine va_put (D := (dC, dI)) (ci := 2) (v := .int (nI 0)) (ty := .int) (C := RM) (T := TM) (N := 18) hx hb hts hi_M tyM tyM_ok nmM hown hK hP hD hS 0 rfl rfl 0 (by decide) (hts (.fieldLink RM 30 "PacketStoreModel" "thrown" "I") (by decide +kernel)) (fun _ h9 => h9) rfl (by decide +kernel) rfl rfl (Nat.le_of_ble_eq_true rfl) dM_next_2 (fun H locs hP hD hS => ?_)
  have hP : va_P (dC, dI) vwCl [(mM, .inr (2, [.int (nI 0), .int (nI R), .ref mX, .int (nI ts), .ref mO, .int (nI os), .int (nI ma), .ref mT, .ref mS, .ref mB, .int (nI us), .int (nI ca), .int (nI dr), .int (nI de), .int (nI uw), .int fr, .int to, .int (nI lk)]))] H := hP
  have hD : va_D A [(mM, .inr (2, [.int (nI 0), .int (nI R), .ref mX, .int (nI ts), .ref mO, .int (nI os), .int (nI ma), .ref mT, .ref mS, .ref mB, .int (nI us), .int (nI ca), .int (nI dr), .int (nI de), .int (nI uw), .int fr, .int to, .int (nI lk)]))] := hD
  refine lv_aload_n hx hb dM_next_5 rfl (lv_at hl 0 rfl) ?_
  refine va_get (D := (dC, dI)) (ci := 2) (v := .int (nI uw)) (C := RM) (T := TM) (N := 18) hx hb hts hi_M hown hK hP 0 rfl rfl 14 (by decide) (hts (.fieldLink RM 54 "PacketStoreModel" "retrieves" "Z") (by decide +kernel)) (fun _ h9 => h9) rfl dM_next_6 ?_
  refine zz_if_ne (a := uw) (tgt := 14) hx hb dM_next_9 (by decide) (by omega) (fun c9 => ?_) (fun c9 => ?_)
  · exact absurd h0 c9
  · refine lv_iconst (v := (-1)) hx hb dM_next_12 (by decide) ?_
    exact W.iret (v := ((-1))) hx hb hr (fun t ht hW => ⟨⟨_, (), rfl, rfl, by rw [ht]; exact hP, va_K.moved hW.alike hK, hD⟩, hS.F ht⟩) hS.2.2 dM_next_13
set_option maxHeartbeats 4000000 in
set_option maxRecDepth 100000 in
/-- model: next, a retrieval is under way -/
theorem c_M_next (l : Launch) (dC : Nat → ClassId) (dI : Nat → Nat → Nat) (mM mX mO mT mS mB R lo hi : Nat) (off : Nat → Nat) (ts os dr de : Nat) (fr to : Int32) (pa : Nat) (eO eT eS eB : ClassId) (Om Tm Sm Bm tm bz : Nat → Int32) (most : Int32) (hok : rg_ok R lo hi off) (hrm : rm_rep lo hi off tm bz Bm Sm Tm) (hpa : pa ≤ hi) (hhi : hi < 2 ^ 30) (h512 : ∀ i, lo ≤ i → i < hi → off (i + 1) - off i ≤ 512) (hz : Nat) : Met l yM_next wsM_next ({ frames := 1, cells := 0, slots := 0, locals := 23 }) (va_Pc [.ref mM, .int most] (fun U => U.heap.size = hz ∧ va_P (dC, dI) vwCl [(mM, .inr (2, [.int (nI 0), .int (nI R), .ref mX, .int (nI ts), .ref mO, .int (nI os), .int (nI (hi - lo)), .ref mT, .ref mS, .ref mB, .int (nI (off hi - off lo)), .int (nI hi), .int (nI dr), .int (nI de), .int (nI 1), .int fr, .int to, .int (nI pa)])), (mO, .inl (eO, 512, .inl Om)), (mT, .inl (eT, 16384, .inl Tm)), (mS, .inl (eS, 16384, .inl Sm)), (mB, .inl (eB, 16384, .inl Bm))] U.heap ∧ va_K (dC, dI) vwCl [(eO, .byte), (eT, .int), (eS, .int), (eB, .byte)] U ∧ va_D (fun _ => True) [(mM, .inr (2, [.int (nI 0), .int (nI R), .ref mX, .int (nI ts), .ref mO, .int (nI os), .int (nI (hi - lo)), .ref mT, .ref mS, .ref mB, .int (nI (off hi - off lo)), .int (nI hi), .int (nI dr), .int (nI de), .int (nI 1), .int fr, .int to, .int (nI pa)])), (mO, .inl (eO, 512, .inl Om)), (mT, .inl (eT, 16384, .inl Tm)), (mS, .inl (eS, 16384, .inl Sm)), (mB, .inl (eB, 16384, .inl Bm))])) (va_Qi (fun (r : Int32) (u : Nat × Nat × Nat × (Nat → Int32)) => ∃ w, pa - lo ≤ w ∧ w ≤ hi - lo ∧ (∀ t, pa - lo ≤ t → t < w → ¬ (fr ≤ tm (lo + t) ∧ tm (lo + t) ≤ to)) ∧ ((w = hi - lo ∧ r = (-1) ∧ u = (w, 0, os, Om)) ∨ (w < hi - lo ∧ (fr ≤ tm (lo + w) ∧ tm (lo + w) ≤ to) ∧ ((¬ nI (off (lo + w + 1) - off (lo + w)) ≤ most ∧ r = (-2) ∧ u = (w, 1, os, Om)) ∨ (nI (off (lo + w + 1) - off (lo + w)) ≤ most ∧ r = nI (off (lo + w + 1) - off (lo + w)) ∧ u.1 = w + 1 ∧ u.2.1 = 1 ∧ u.2.2.1 = off (lo + w + 1) - off (lo + w) ∧ ∀ t, t < off (lo + w + 1) - off (lo + w) → u.2.2.2 t = (bz (off (lo + w) + t)).toInt8.toInt32))))) (fun u t => va_P (dC, dI) vwCl [(mM, .inr (2, [.int (nI 0), .int (nI R), .ref mX, .int (nI ts), .ref mO, .int (nI u.2.2.1), .int (nI (hi - lo)), .ref mT, .ref mS, .ref mB, .int (nI (off hi - off lo)), .int (nI hi), .int (nI dr), .int (nI de), .int (nI u.2.1), .int fr, .int to, .int (nI (lo + u.1))])), (mO, .inl (eO, 512, .inl u.2.2.2)), (mT, .inl (eT, 16384, .inl Tm)), (mS, .inl (eS, 16384, .inl Sm)), (mB, .inl (eB, 16384, .inl Bm))] t.heap ∧ va_K (dC, dI) vwCl [(eO, .byte), (eT, .int), (eS, .int), (eB, .byte)] t ∧ va_D (va_A [(mM, .inr (2, [.int (nI 0), .int (nI R), .ref mX, .int (nI ts), .ref mO, .int (nI os), .int (nI (hi - lo)), .ref mT, .ref mS, .ref mB, .int (nI (off hi - off lo)), .int (nI hi), .int (nI dr), .int (nI de), .int (nI 1), .int fr, .int to, .int (nI pa)])), (mO, .inl (eO, 512, .inl Om)), (mT, .inl (eT, 16384, .inl Tm)), (mS, .inl (eS, 16384, .inl Sm)), (mB, .inl (eB, 16384, .inl Bm))] hz) [(mM, .inr (2, [.int (nI 0), .int (nI R), .ref mX, .int (nI ts), .ref mO, .int (nI u.2.2.1), .int (nI (hi - lo)), .ref mT, .ref mS, .ref mB, .int (nI (off hi - off lo)), .int (nI hi), .int (nI dr), .int (nI de), .int (nI u.2.1), .int fr, .int to, .int (nI (lo + u.1))])), (mO, .inl (eO, 512, .inl u.2.2.2)), (mT, .inl (eT, 16384, .inl Tm)), (mS, .inl (eS, 16384, .inl Sm)), (mB, .inl (eB, 16384, .inl Bm))]) (va_A [(mM, .inr (2, [.int (nI 0), .int (nI R), .ref mX, .int (nI ts), .ref mO, .int (nI os), .int (nI (hi - lo)), .ref mT, .ref mS, .ref mB, .int (nI (off hi - off lo)), .int (nI hi), .int (nI dr), .int (nI de), .int (nI 1), .int fr, .int to, .int (nI pa)])), (mO, .inl (eO, 512, .inl Om)), (mT, .inl (eT, 16384, .inl Tm)), (mS, .inl (eS, 16384, .inl Sm)), (mB, .inl (eB, 16384, .inl Bm))] hz)) 0 0 (va_A [(mM, .inr (2, [.int (nI 0), .int (nI R), .ref mX, .int (nI ts), .ref mO, .int (nI os), .int (nI (hi - lo)), .ref mT, .ref mS, .ref mB, .int (nI (off hi - off lo)), .int (nI hi), .int (nI dr), .int (nI de), .int (nI 1), .int fr, .int to, .int (nI pa)])), (mO, .inl (eO, 512, .inl Om)), (mT, .inl (eT, 16384, .inl Tm)), (mS, .inl (eS, 16384, .inl Sm)), (mB, .inl (eB, 16384, .inl Bm))] hz) := by
  refine Met.ofW (cc := cM_next) (maxL := 5) (ret := (some .int)) (by decide) rfl ?_
  intro p e s m args below meth c s₁ B hml hv
  obtain ⟨rfl, hsz, hP, hK, hD0⟩ := hv
  have hx := B.exec
  have hb := B.bytes
  have hr := B.returns
  have hts := atoms_spec (ws := wsM_next) B.pre
  have hown : s.vm.findClass RM = some m.cls := findClass_of_methodNamed B.named
  have hlocks := B.notSynchronized
  have hi_M : ∀ w ∈ u_ws RM TM 18, w ∈ wsM_next := by decide +kernel
  subst hsz
  have hD := hD0.self (sz := s.heap.size)
  generalize hAe : va_A [(mM, .inr (2, [.int (nI 0), .int (nI R), .ref mX, .int (nI ts), .ref mO, .int (nI os), .int (nI (hi - lo)), .ref mT, .ref mS, .ref mB, .int (nI (off hi - off lo)), .int (nI hi), .int (nI dr), .int (nI de), .int (nI 1), .int fr, .int to, .int (nI pa)])), (mO, .inl (eO, 512, .inl Om)), (mT, .inl (eT, 16384, .inl Tm)), (mS, .inl (eS, 16384, .inl Sm)), (mB, .inl (eB, 16384, .inl Bm))] s.heap.size = A at hD ⊢
  have hA : ∀ q : Nat, s.heap.size ≤ q → A q := fun q h => by rw [← hAe]; exact Or.inr h
  have hS : va_S A s.heap s.heap [] := va_S.rf
  have hP : va_P (dC, dI) vwCl [(mM, .inr (2, [.int (nI 0), .int (nI R), .ref mX, .int (nI ts), .ref mO, .int (nI os), .int (nI (hi - lo)), .ref mT, .ref mS, .ref mB, .int (nI (off hi - off lo)), .int (nI hi), .int (nI dr), .int (nI de), .int (nI 1), .int fr, .int to, .int (nI pa)])), (mO, .inl (eO, 512, .inl Om)), (mT, .inl (eT, 16384, .inl Tm)), (mS, .inl (eS, 16384, .inl Sm)), (mB, .inl (eB, 16384, .inl Bm))] s.heap := hP
  have hl := lv_entry ([.ref mM, .int most]) (n := 5) (Nat.le_of_ble_eq_true rfl)
  rw [lg_entry_eq]
  generalize (lg_sl ([.ref mM, .int most]) ++ List.replicate (5 - (lg_sl ([.ref mM, .int most])).length) Slot.unset).toArray = ls at hl ⊢
  have hl : lv_has ls 5 [(0, .ref mM), (1, .int most)] := hl
  have hRR := hok.1
  have hll := hok.2.1
  have hcap := hok.2.2.1
  have hgap := hok.gap (Nat.le_refl lo) hll (Nat.le_refl hi)
  refine lv_aload_n hx hb dM_next_0 rfl (lv_at hl 0 rfl) ?_
  refine lv_iconst (v := nI 0) hx hb dM_next_1 (by decide) ?_
  refine va_put (D := (dC, dI)) (ci := 2) (v := .int (nI 0)) (ty := .int) (C := RM) (T := TM) (N := 18) hx hb hts hi_M tyM tyM_ok nmM hown hK hP hD hS 0 rfl rfl 0 (by decide) (hts (.fieldLink RM 30 "PacketStoreModel" "thrown" "I") (by decide +kernel)) (fun _ h9 => h9) rfl (by decide +kernel) rfl rfl (Nat.le_of_ble_eq_true rfl) dM_next_2 (fun H locs hP hD hS => ?_)
  have hP : va_P (dC, dI) vwCl [(mM, .inr (2, [.int (nI 0), .int (nI R), .ref mX, .int (nI ts), .ref mO, .int (nI os), .int (nI (hi - lo)), .ref mT, .ref mS, .ref mB, .int (nI (off hi - off lo)), .int (nI hi), .int (nI dr), .int (nI de), .int (nI 1), .int fr, .int to, .int (nI pa)])), (mO, .inl (eO, 512, .inl Om)), (mT, .inl (eT, 16384, .inl Tm)), (mS, .inl (eS, 16384, .inl Sm)), (mB, .inl (eB, 16384, .inl Bm))] H := hP
  have hD : va_D A [(mM, .inr (2, [.int (nI 0), .int (nI R), .ref mX, .int (nI ts), .ref mO, .int (nI os), .int (nI (hi - lo)), .ref mT, .ref mS, .ref mB, .int (nI (off hi - off lo)), .int (nI hi), .int (nI dr), .int (nI de), .int (nI 1), .int fr, .int to, .int (nI pa)])), (mO, .inl (eO, 512, .inl Om)), (mT, .inl (eT, 16384, .inl Tm)), (mS, .inl (eS, 16384, .inl Sm)), (mB, .inl (eB, 16384, .inl Bm))] := hD
  refine lv_aload_n hx hb dM_next_5 rfl (lv_at hl 0 rfl) ?_
  refine va_get (D := (dC, dI)) (ci := 2) (v := .int (nI 1)) (C := RM) (T := TM) (N := 18) hx hb hts hi_M hown hK hP 0 rfl rfl 14 (by decide) (hts (.fieldLink RM 54 "PacketStoreModel" "retrieves" "Z") (by decide +kernel)) (fun _ h9 => h9) rfl dM_next_6 ?_
  refine zz_if_ne (a := 1) (tgt := 14) hx hb dM_next_9 (by decide) (by decide) (fun c9 => ?_) (fun c9 => ?_)
  · refine lv_aload_n hx hb dM_next_14 rfl (lv_at hl 0 rfl) ?_
    refine va_get (D := (dC, dI)) (ci := 2) (v := .int (nI pa)) (C := RM) (T := TM) (N := 18) hx hb hts hi_M hown hK hP 0 rfl rfl 17 (by decide) (hts (.fieldLink RM 64 "PacketStoreModel" "looks" "I") (by decide +kernel)) (fun _ h9 => h9) rfl dM_next_15 ?_
    refine lv_aload_n hx hb dM_next_18 rfl (lv_at hl 0 rfl) ?_
    refine va_get (D := (dC, dI)) (ci := 2) (v := .int (nI hi)) (C := RM) (T := TM) (N := 18) hx hb hts hi_M hown hK hP 0 rfl rfl 11 (by decide) (hts (.fieldLink RM 48 "PacketStoreModel" "came" "I") (by decide +kernel)) (fun _ h9 => h9) rfl dM_next_19 ?_
    refine lv_aload_n hx hb dM_next_22 rfl (lv_at hl 0 rfl) ?_
    refine va_get (D := (dC, dI)) (ci := 2) (v := .int (nI (hi - lo))) (C := RM) (T := TM) (N := 18) hx hb hts hi_M hown hK hP 0 rfl rfl 6 (by decide) (hts (.fieldLink RM 36 "PacketStoreModel" "many" "I") (by decide +kernel)) (fun _ h9 => h9) rfl dM_next_23 ?_
    refine lv_isub hx hb dM_next_26 ?_
    refine zz_as (nI (hi - (hi - lo))) (pk_sub (by omega)) ?_
    refine zz_as (nI lo) (congrArg nI (by omega)) ?_
    refine lv_isub hx hb dM_next_27 ?_
    refine lv_istore_n (lv' := [(2, .int (((nI pa)) - ((nI lo)))), (0, .ref mM), (1, .int most)]) hx hb dM_next_28 rfl hl (by decide) rfl (fun ls hl => ?_)
    refine lv_iload_n hx hb dM_next_29 rfl (lv_at hl 0 rfl) ?_
    refine lv_if_ge (tgt := 37) hx hb dM_next_30 (by decide) (fun c30 => ?_) (fun c30 => ?_)
    · refine lv_iload_n hx hb dM_next_37 rfl (lv_at hl 0 rfl) ?_
      refine zz_as (nI (pa - lo)) (pk_sub ((rg_ge0 (by omega) (by omega)).mp c30)) ?_
      refine lv_istore_n (lv' := [(2, .int (nI (pa - lo))), (0, .ref mM), (1, .int most)]) hx hb dM_next_38 rfl hl (by decide) rfl (fun ls hl => ?_)
      refine zz_loop (σ := Nat) (fun n v H locs ls => (n + v = hi - lo + 1 ∧ v ≤ hi - lo ∧ pa - lo ≤ v ∧ ∀ t, pa - lo ≤ t → t < v → ¬ (fr ≤ tm (lo + t) ∧ tm (lo + t) ≤ to)) ∧ va_P (dC, dI) vwCl [(mM, .inr (2, [.int (nI 0), .int (nI R), .ref mX, .int (nI ts), .ref mO, .int (nI os), .int (nI (hi - lo)), .ref mT, .ref mS, .ref mB, .int (nI (off hi - off lo)), .int (nI hi), .int (nI dr), .int (nI de), .int (nI 1), .int fr, .int to, .int (nI pa)])), (mO, .inl (eO, 512, .inl Om)), (mT, .inl (eT, 16384, .inl Tm)), (mS, .inl (eS, 16384, .inl Sm)), (mB, .inl (eB, 16384, .inl Bm))] H ∧ va_D A [(mM, .inr (2, [.int (nI 0), .int (nI R), .ref mX, .int (nI ts), .ref mO, .int (nI os), .int (nI (hi - lo)), .ref mT, .ref mS, .ref mB, .int (nI (off hi - off lo)), .int (nI hi), .int (nI dr), .int (nI de), .int (nI 1), .int fr, .int to, .int (nI pa)])), (mO, .inl (eO, 512, .inl Om)), (mT, .inl (eT, 16384, .inl Tm)), (mS, .inl (eS, 16384, .inl Sm)), (mB, .inl (eB, 16384, .inl Bm))] ∧ va_S A s.heap H locs ∧ lv_has ls 5 [(2, .int (nI v)), (0, .ref mM), (1, .int most)]) (fun v H locs ls h => ?_) (fun n v H locs ls h ih => ?_) (hi - lo + 1 - (pa - lo)) (pa - lo) _ _ _ ⟨⟨by omega, by omega, Nat.le_refl _, fun t h1 h2 => absurd h2 (Nat.not_lt.mpr h1)⟩, hP, hD, hS, lv_sub hl [0, 1, 2] rfl⟩
      · obtain ⟨⟨h1, h2, -⟩, -⟩ := h
        omega
      obtain ⟨⟨hj1, hj2, hj4, hj3⟩, hP, hD, hS, hl⟩ := h
      have hP : va_P (dC, dI) vwCl [(mM, .inr (2, [.int (nI 0), .int (nI R), .ref mX, .int (nI ts), .ref mO, .int (nI os), .int (nI (hi - lo)), .ref mT, .ref mS, .ref mB, .int (nI (off hi - off lo)), .int (nI hi), .int (nI dr), .int (nI de), .int (nI 1), .int fr, .int to, .int (nI pa)])), (mO, .inl (eO, 512, .inl Om)), (mT, .inl (eT, 16384, .inl Tm)), (mS, .inl (eS, 16384, .inl Sm)), (mB, .inl (eB, 16384, .inl Bm))] H := hP
      have hD : va_D A [(mM, .inr (2, [.int (nI 0), .int (nI R), .ref mX, .int (nI ts), .ref mO, .int (nI os), .int (nI (hi - lo)), .ref mT, .ref mS, .ref mB, .int (nI (off hi - off lo)), .int (nI hi), .int (nI dr), .int (nI de), .int (nI 1), .int fr, .int to, .int (nI pa)])), (mO, .inl (eO, 512, .inl Om)), (mT, .inl (eT, 16384, .inl Tm)), (mS, .inl (eS, 16384, .inl Sm)), (mB, .inl (eB, 16384, .inl Bm))] := hD
      have hl : lv_has ls 5 [(2, .int (nI v)), (0, .ref mM), (1, .int most)] := hl
      refine lv_iload_n hx hb dM_next_39 rfl (lv_at hl 0 rfl) ?_
      refine lv_aload_n hx hb dM_next_40 rfl (lv_at hl 1 rfl) ?_
      refine va_get (D := (dC, dI)) (ci := 2) (v := .int (nI (hi - lo))) (C := RM) (T := TM) (N := 18) hx hb hts hi_M hown hK hP 0 rfl rfl 6 (by decide) (hts (.fieldLink RM 36 "PacketStoreModel" "many" "I") (by decide +kernel)) (fun _ h9 => h9) rfl dM_next_41 ?_
      refine zz_icmp_ge (a := v) (b := hi - lo) (tgt := 79) hx hb dM_next_44 (by decide) (by omega) (by omega) (fun c44 => ?_) (fun c44 => ?_)
      · refine lv_aload_n hx hb dM_next_79 rfl (lv_at hl 1 rfl) ?_
        refine lv_aload_n hx hb dM_next_80 rfl (lv_at hl 1 rfl) ?_
        refine va_get (D := (dC, dI)) (ci := 2) (v := .int (nI hi)) (C := RM) (T := TM) (N := 18) hx hb hts hi_M hown hK hP 0 rfl rfl 11 (by decide) (hts (.fieldLink RM 48 "PacketStoreModel" "came" "I") (by decide +kernel)) (fun _ h9 => h9) rfl dM_next_81 ?_
        refine lv_aload_n hx hb dM_next_84 rfl (lv_at hl 1 rfl) ?_
        refine va_get (D := (dC, dI)) (ci := 2) (v := .int (nI (hi - lo))) (C := RM) (T := TM) (N := 18) hx hb hts hi_M hown hK hP 0 rfl rfl 6 (by decide) (hts (.fieldLink RM 36 "PacketStoreModel" "many" "I") (by decide +kernel)) (fun _ h9 => h9) rfl dM_next_85 ?_
        refine lv_isub hx hb dM_next_88 ?_
        refine zz_as (nI (hi - (hi - lo))) (pk_sub (by omega)) ?_
        refine lv_iload_n hx hb dM_next_89 rfl (lv_at hl 0 rfl) ?_
        refine lv_iadd hx hb dM_next_90 ?_
        refine zz_as (nI ((hi - (hi - lo)) + v)) (nI_add _ _) ?_
        refine zz_as (nI (lo + v)) (congrArg nI (by omega)) ?_
        refine va_put (D := (dC, dI)) (ci := 2) (v := .int (nI (lo + v))) (ty := .int) (C := RM) (T := TM) (N := 18) hx hb hts hi_M tyM tyM_ok nmM hown hK hP hD hS 0 rfl rfl 17 (by decide) (hts (.fieldLink RM 64 "PacketStoreModel" "looks" "I") (by decide +kernel)) (fun _ h9 => h9) rfl (by decide +kernel) rfl rfl (Nat.le_of_ble_eq_true rfl) dM_next_91 (fun H locs hP hD hS => ?_)
        have hP : va_P (dC, dI) vwCl [(mM, .inr (2, [.int (nI 0), .int (nI R), .ref mX, .int (nI ts), .ref mO, .int (nI os), .int (nI (hi - lo)), .ref mT, .ref mS, .ref mB, .int (nI (off hi - off lo)), .int (nI hi), .int (nI dr), .int (nI de), .int (nI 1), .int fr, .int to, .int (nI (lo + v))])), (mO, .inl (eO, 512, .inl Om)), (mT, .inl (eT, 16384, .inl Tm)), (mS, .inl (eS, 16384, .inl Sm)), (mB, .inl (eB, 16384, .inl Bm))] H := hP
        have hD : va_D A [(mM, .inr (2, [.int (nI 0), .int (nI R), .ref mX, .int (nI ts), .ref mO, .int (nI os), .int (nI (hi - lo)), .ref mT, .ref mS, .ref mB, .int (nI (off hi - off lo)), .int (nI hi), .int (nI dr), .int (nI de), .int (nI 1), .int fr, .int to, .int (nI (lo + v))])), (mO, .inl (eO, 512, .inl Om)), (mT, .inl (eT, 16384, .inl Tm)), (mS, .inl (eS, 16384, .inl Sm)), (mB, .inl (eB, 16384, .inl Bm))] := hD
        refine lv_iload_n hx hb dM_next_94 rfl (lv_at hl 0 rfl) ?_
        refine lv_aload_n hx hb dM_next_95 rfl (lv_at hl 1 rfl) ?_
        refine va_get (D := (dC, dI)) (ci := 2) (v := .int (nI (hi - lo))) (C := RM) (T := TM) (N := 18) hx hb hts hi_M hown hK hP 0 rfl rfl 6 (by decide) (hts (.fieldLink RM 36 "PacketStoreModel" "many" "I") (by decide +kernel)) (fun _ h9 => h9) rfl dM_next_96 ?_
        refine zz_icmp_ne (a := v) (b := hi - lo) (tgt := 109) hx hb dM_next_99 (by decide) (by omega) (by omega) (fun c99 => ?_) (fun c99 => ?_)
        · exact absurd (show v = hi - lo by omega) c99
        · refine lv_aload_n hx hb dM_next_102 rfl (lv_at hl 1 rfl) ?_
          refine lv_iconst (v := nI 0) hx hb dM_next_103 (by decide) ?_
          refine va_put (D := (dC, dI)) (ci := 2) (v := .int (nI 0)) (ty := .boolean) (C := RM) (T := TM) (N := 18) hx hb hts hi_M tyM tyM_ok nmM hown hK hP hD hS 0 rfl rfl 14 (by decide) (hts (.fieldLink RM 54 "PacketStoreModel" "retrieves" "Z") (by decide +kernel)) (fun _ h9 => h9) rfl (by decide +kernel) rfl rfl (Nat.le_of_ble_eq_true rfl) dM_next_104 (fun H locs hP hD hS => ?_)
          have hP : va_P (dC, dI) vwCl [(mM, .inr (2, [.int (nI 0), .int (nI R), .ref mX, .int (nI ts), .ref mO, .int (nI os), .int (nI (hi - lo)), .ref mT, .ref mS, .ref mB, .int (nI (off hi - off lo)), .int (nI hi), .int (nI dr), .int (nI de), .int (nI 0), .int fr, .int to, .int (nI (lo + v))])), (mO, .inl (eO, 512, .inl Om)), (mT, .inl (eT, 16384, .inl Tm)), (mS, .inl (eS, 16384, .inl Sm)), (mB, .inl (eB, 16384, .inl Bm))] H := hP
          have hD : va_D A [(mM, .inr (2, [.int (nI 0), .int (nI R), .ref mX, .int (nI ts), .ref mO, .int (nI os), .int (nI (hi - lo)), .ref mT, .ref mS, .ref mB, .int (nI (off hi - off lo)), .int (nI hi), .int (nI dr), .int (nI de), .int (nI 0), .int fr, .int to, .int (nI (lo + v))])), (mO, .inl (eO, 512, .inl Om)), (mT, .inl (eT, 16384, .inl Tm)), (mS, .inl (eS, 16384, .inl Sm)), (mB, .inl (eB, 16384, .inl Bm))] := hD
          refine lv_iconst (v := (-1)) hx hb dM_next_107 (by decide) ?_
          exact W.iret (v := ((-1))) hx hb hr (fun t ht hW => ⟨⟨_, (v, 0, os, Om), rfl, ⟨v, hj4, hj2, hj3, Or.inl ⟨c99, rfl, rfl⟩⟩, by rw [ht]; exact hP, va_K.moved hW.alike hK, hD⟩, hS.F ht⟩) hS.2.2 dM_next_108
      · refine lv_aload_n hx hb dM_next_47 rfl (lv_at hl 1 rfl) ?_
        refine va_get (D := (dC, dI)) (ci := 2) (v := .ref mT) (C := RM) (T := TM) (N := 18) hx hb hts hi_M hown hK hP 0 rfl rfl 7 (by decide) (hts (.fieldLink RM 16 "PacketStoreModel" "time" "[I") (by decide +kernel)) (fun _ h9 => h9) rfl dM_next_48 ?_
        refine lv_iload_n hx hb dM_next_51 rfl (lv_at hl 0 rfl) ?_
        refine zz_iald hx hb hK hP 2 1 rfl rfl (j := v) (by omega) (by omega) dM_next_52 ?_
        refine zz_as (tm (lo + v)) (hrm.1 v (by omega)) ?_
        refine lv_aload_n hx hb dM_next_53 rfl (lv_at hl 1 rfl) ?_
        refine va_get (D := (dC, dI)) (ci := 2) (v := .int fr) (C := RM) (T := TM) (N := 18) hx hb hts hi_M hown hK hP 0 rfl rfl 15 (by decide) (hts (.fieldLink RM 58 "PacketStoreModel" "from" "I") (by decide +kernel)) (fun _ h9 => h9) rfl dM_next_54 ?_
        refine lv_icmp_lt (tgt := 73) hx hb dM_next_57 (by decide) (fun c57 => ?_) (fun c57 => ?_)
        · refine lv_iinc (v := nI (v + 1)) (lv' := [(2, .int (nI (v + 1))), (0, .ref mM), (1, .int most)]) hx hb dM_next_73 hl (k := 0) rfl (show nI v + 1 = nI (v + 1) from nI_1 _) (by decide) rfl (fun ls hl => ?_)
          refine lv_goto (tgt := 39) hx hb dM_next_76 (by decide) ?_
          exact ih (v + 1) _ _ _ ⟨⟨by omega, by omega, by omega, fun t h1 h2 => (Nat.lt_or_ge t v).elim (fun q => hj3 t h1 q) (fun q => by rw [show t = v by omega]; exact fun h => zz_nlt h.1 c57)⟩, hP, hD, hS, lv_sub hl [0, 1, 2] rfl⟩
        · refine lv_aload_n hx hb dM_next_60 rfl (lv_at hl 1 rfl) ?_
          refine va_get (D := (dC, dI)) (ci := 2) (v := .ref mT) (C := RM) (T := TM) (N := 18) hx hb hts hi_M hown hK hP 0 rfl rfl 7 (by decide) (hts (.fieldLink RM 16 "PacketStoreModel" "time" "[I") (by decide +kernel)) (fun _ h9 => h9) rfl dM_next_61 ?_
          refine lv_iload_n hx hb dM_next_64 rfl (lv_at hl 0 rfl) ?_
          refine zz_iald hx hb hK hP 2 1 rfl rfl (j := v) (by omega) (by omega) dM_next_65 ?_
          refine zz_as (tm (lo + v)) (hrm.1 v (by omega)) ?_
          refine lv_aload_n hx hb dM_next_66 rfl (lv_at hl 1 rfl) ?_
          refine va_get (D := (dC, dI)) (ci := 2) (v := .int to) (C := RM) (T := TM) (N := 18) hx hb hts hi_M hown hK hP 0 rfl rfl 16 (by decide) (hts (.fieldLink RM 61 "PacketStoreModel" "to" "I") (by decide +kernel)) (fun _ h9 => h9) rfl dM_next_67 ?_
          refine lv_icmp_le (tgt := 79) hx hb dM_next_70 (by decide) (fun c70 => ?_) (fun c70 => ?_)
          · refine lv_aload_n hx hb dM_next_79 rfl (lv_at hl 1 rfl) ?_
            refine lv_aload_n hx hb dM_next_80 rfl (lv_at hl 1 rfl) ?_
            refine va_get (D := (dC, dI)) (ci := 2) (v := .int (nI hi)) (C := RM) (T := TM) (N := 18) hx hb hts hi_M hown hK hP 0 rfl rfl 11 (by decide) (hts (.fieldLink RM 48 "PacketStoreModel" "came" "I") (by decide +kernel)) (fun _ h9 => h9) rfl dM_next_81 ?_
            refine lv_aload_n hx hb dM_next_84 rfl (lv_at hl 1 rfl) ?_
            refine va_get (D := (dC, dI)) (ci := 2) (v := .int (nI (hi - lo))) (C := RM) (T := TM) (N := 18) hx hb hts hi_M hown hK hP 0 rfl rfl 6 (by decide) (hts (.fieldLink RM 36 "PacketStoreModel" "many" "I") (by decide +kernel)) (fun _ h9 => h9) rfl dM_next_85 ?_
            refine lv_isub hx hb dM_next_88 ?_
            refine zz_as (nI (hi - (hi - lo))) (pk_sub (by omega)) ?_
            refine lv_iload_n hx hb dM_next_89 rfl (lv_at hl 0 rfl) ?_
            refine lv_iadd hx hb dM_next_90 ?_
            refine zz_as (nI ((hi - (hi - lo)) + v)) (nI_add _ _) ?_
            refine zz_as (nI (lo + v)) (congrArg nI (by omega)) ?_
            refine va_put (D := (dC, dI)) (ci := 2) (v := .int (nI (lo + v))) (ty := .int) (C := RM) (T := TM) (N := 18) hx hb hts hi_M tyM tyM_ok nmM hown hK hP hD hS 0 rfl rfl 17 (by decide) (hts (.fieldLink RM 64 "PacketStoreModel" "looks" "I") (by decide +kernel)) (fun _ h9 => h9) rfl (by decide +kernel) rfl rfl (Nat.le_of_ble_eq_true rfl) dM_next_91 (fun H locs hP hD hS => ?_)
            have hP : va_P (dC, dI) vwCl [(mM, .inr (2, [.int (nI 0), .int (nI R), .ref mX, .int (nI ts), .ref mO, .int (nI os), .int (nI (hi - lo)), .ref mT, .ref mS, .ref mB, .int (nI (off hi - off lo)), .int (nI hi), .int (nI dr), .int (nI de), .int (nI 1), .int fr, .int to, .int (nI (lo + v))])), (mO, .inl (eO, 512, .inl Om)), (mT, .inl (eT, 16384, .inl Tm)), (mS, .inl (eS, 16384, .inl Sm)), (mB, .inl (eB, 16384, .inl Bm))] H := hP
            have hD : va_D A [(mM, .inr (2, [.int (nI 0), .int (nI R), .ref mX, .int (nI ts), .ref mO, .int (nI os), .int (nI (hi - lo)), .ref mT, .ref mS, .ref mB, .int (nI (off hi - off lo)), .int (nI hi), .int (nI dr), .int (nI de), .int (nI 1), .int fr, .int to, .int (nI (lo + v))])), (mO, .inl (eO, 512, .inl Om)), (mT, .inl (eT, 16384, .inl Tm)), (mS, .inl (eS, 16384, .inl Sm)), (mB, .inl (eB, 16384, .inl Bm))] := hD
            refine lv_iload_n hx hb dM_next_94 rfl (lv_at hl 0 rfl) ?_
            refine lv_aload_n hx hb dM_next_95 rfl (lv_at hl 1 rfl) ?_
            refine va_get (D := (dC, dI)) (ci := 2) (v := .int (nI (hi - lo))) (C := RM) (T := TM) (N := 18) hx hb hts hi_M hown hK hP 0 rfl rfl 6 (by decide) (hts (.fieldLink RM 36 "PacketStoreModel" "many" "I") (by decide +kernel)) (fun _ h9 => h9) rfl dM_next_96 ?_
            refine zz_icmp_ne (a := v) (b := hi - lo) (tgt := 109) hx hb dM_next_99 (by decide) (by omega) (by omega) (fun c99 => ?_) (fun c99 => ?_)
            · have hk : lo + v < hi := by omega
              have hwant : fr ≤ tm (lo + v) ∧ tm (lo + v) ≤ to := ⟨zz_lnt c57, c70⟩
              have hk1 : off (lo + v) < off (lo + v + 1) := hok.2.2.2 (lo + v) (by omega) hk
              have hk2 : off lo + (lo + v - lo) ≤ off (lo + v) := hok.gap (Nat.le_refl lo) (by omega) (by omega)
              have hk3 : off (lo + v + 1) + (hi - (lo + v + 1)) ≤ off hi := hok.gap (by omega) (by omega) (Nat.le_refl hi)
              have hk4 := h512 (lo + v) (by omega) hk
              refine lv_aload_n hx hb dM_next_109 rfl (lv_at hl 1 rfl) ?_
              refine va_get (D := (dC, dI)) (ci := 2) (v := .ref mS) (C := RM) (T := TM) (N := 18) hx hb hts hi_M hown hK hP 0 rfl rfl 8 (by decide) (hts (.fieldLink RM 20 "PacketStoreModel" "size" "[I") (by decide +kernel)) (fun _ h9 => h9) rfl dM_next_110 ?_
              refine lv_iload_n hx hb dM_next_113 rfl (lv_at hl 0 rfl) ?_
              refine zz_iald hx hb hK hP 3 2 rfl rfl (j := v) (by omega) (by omega) dM_next_114 ?_
              refine zz_as (nI (off (lo + v + 1) - off (lo + v))) (hrm.2.1 v (by omega)) ?_
              refine lv_iload_n hx hb dM_next_115 rfl (lv_at hl 2 rfl) ?_
              refine lv_icmp_le (tgt := 122) hx hb dM_next_116 (by decide) (fun c116 => ?_) (fun c116 => ?_)
              · refine lv_aload_n hx hb dM_next_122 rfl (lv_at hl 1 rfl) ?_
                refine lv_iload_n hx hb dM_next_123 rfl (lv_at hl 0 rfl) ?_
                refine zz_callR (As := [.int (nI v)]) (rest := []) ⟨hx, hb, hml, hown, hts⟩ (c_M_start l dC dI mM mX mO mT mS mB R lo hi off ts os dr de 1 fr to ((lo + v)) eS Sm v hok hrm.2.1 (by omega)) (cwV 1 hts gM_next_start rfl rfl rfl (by decide +kernel) ⟨Nat.le_of_ble_eq_true rfl, Nat.le_of_ble_eq_true rfl⟩) (hP.sub [0, 3] rfl) (hK.sub [2] rfl) 0 rfl rfl rfl rfl hl.1 rfl (Nat.le_of_ble_eq_true rfl) dM_next_124 ⟨Nat.zero_le _, Nat.zero_le _⟩ (fun r124 e124 => ?_)
                subst e124
                refine lv_istore_n (lv' := [(3, .int (nI (off (lo + v) - off lo))), (2, .int (nI v)), (0, .ref mM), (1, .int most)]) hx hb dM_next_127 rfl hl (by decide) rfl (fun ls hl => ?_)
                refine lv_iconst (v := nI 0) hx hb dM_next_128 (by decide) ?_
                refine lv_istore (lv' := [(4, .int (nI 0)), (3, .int (nI (off (lo + v) - off lo))), (2, .int (nI v)), (0, .ref mM), (1, .int most)]) hx hb dM_next_129 hl (by decide) rfl (fun ls hl => ?_)
                obtain ⟨v0, ev0⟩ : ∃ v0, v0 = v := ⟨_, rfl⟩
                subst ev0
                refine zz_loop (σ := Nat × (Nat → Int32)) (fun n v H locs ls => (n + v.1 = (off (lo + v0 + 1) - off (lo + v0)) + 1 ∧ v.1 ≤ off (lo + v0 + 1) - off (lo + v0) ∧ ∀ t, t < v.1 → v.2 t = (bz (off (lo + v0) + t)).toInt8.toInt32) ∧ va_P (dC, dI) vwCl [(mM, .inr (2, [.int (nI 0), .int (nI R), .ref mX, .int (nI ts), .ref mO, .int (nI os), .int (nI (hi - lo)), .ref mT, .ref mS, .ref mB, .int (nI (off hi - off lo)), .int (nI hi), .int (nI dr), .int (nI de), .int (nI 1), .int fr, .int to, .int (nI (lo + v0))])), (mO, .inl (eO, 512, .inl v.2)), (mT, .inl (eT, 16384, .inl Tm)), (mS, .inl (eS, 16384, .inl Sm)), (mB, .inl (eB, 16384, .inl Bm))] H ∧ va_D A [(mM, .inr (2, [.int (nI 0), .int (nI R), .ref mX, .int (nI ts), .ref mO, .int (nI os), .int (nI (hi - lo)), .ref mT, .ref mS, .ref mB, .int (nI (off hi - off lo)), .int (nI hi), .int (nI dr), .int (nI de), .int (nI 1), .int fr, .int to, .int (nI (lo + v0))])), (mO, .inl (eO, 512, .inl v.2)), (mT, .inl (eT, 16384, .inl Tm)), (mS, .inl (eS, 16384, .inl Sm)), (mB, .inl (eB, 16384, .inl Bm))] ∧ va_S A s.heap H locs ∧ lv_has ls 5 [(4, .int (nI v.1)), (3, .int (nI (off (lo + v0) - off lo))), (2, .int (nI v0)), (0, .ref mM), (1, .int most)]) (fun v H locs ls h => ?_) (fun n v H locs ls h ih => ?_) (off (lo + v0 + 1) - off (lo + v0) + 1) (0, Om) _ _ _ ⟨⟨rfl, Nat.zero_le _, fun t h => absurd h (Nat.not_lt_zero t)⟩, hP, hD, hS, lv_sub hl [0, 1, 2, 3, 4] rfl⟩
                · obtain ⟨⟨h1, h2, -⟩, -⟩ := h
                  omega
                obtain ⟨j, Og⟩ := v
                obtain ⟨⟨hi1, hi2, hO⟩, hP, hD, hS, hl⟩ := h
                dsimp only at hi1 hi2 hO
                have hP : va_P (dC, dI) vwCl [(mM, .inr (2, [.int (nI 0), .int (nI R), .ref mX, .int (nI ts), .ref mO, .int (nI os), .int (nI (hi - lo)), .ref mT, .ref mS, .ref mB, .int (nI (off hi - off lo)), .int (nI hi), .int (nI dr), .int (nI de), .int (nI 1), .int fr, .int to, .int (nI (lo + v0))])), (mO, .inl (eO, 512, .inl Og)), (mT, .inl (eT, 16384, .inl Tm)), (mS, .inl (eS, 16384, .inl Sm)), (mB, .inl (eB, 16384, .inl Bm))] H := hP
                have hD : va_D A [(mM, .inr (2, [.int (nI 0), .int (nI R), .ref mX, .int (nI ts), .ref mO, .int (nI os), .int (nI (hi - lo)), .ref mT, .ref mS, .ref mB, .int (nI (off hi - off lo)), .int (nI hi), .int (nI dr), .int (nI de), .int (nI 1), .int fr, .int to, .int (nI (lo + v0))])), (mO, .inl (eO, 512, .inl Og)), (mT, .inl (eT, 16384, .inl Tm)), (mS, .inl (eS, 16384, .inl Sm)), (mB, .inl (eB, 16384, .inl Bm))] := hD
                have hl : lv_has ls 5 [(4, .int (nI j)), (3, .int (nI (off (lo + v0) - off lo))), (2, .int (nI v0)), (0, .ref mM), (1, .int most)] := hl
                refine lv_iload hx hb dM_next_131 (lv_at hl 0 rfl) ?_
                refine lv_aload_n hx hb dM_next_133 rfl (lv_at hl 3 rfl) ?_
                refine va_get (D := (dC, dI)) (ci := 2) (v := .ref mS) (C := RM) (T := TM) (N := 18) hx hb hts hi_M hown hK hP 0 rfl rfl 8 (by decide) (hts (.fieldLink RM 20 "PacketStoreModel" "size" "[I") (by decide +kernel)) (fun _ h9 => h9) rfl dM_next_134 ?_
                refine lv_iload_n hx hb dM_next_137 rfl (lv_at hl 2 rfl) ?_
                refine zz_iald hx hb hK hP 3 2 rfl rfl (j := v0) (by omega) (by omega) dM_next_138 ?_
                refine zz_as (nI (off (lo + v0 + 1) - off (lo + v0))) (hrm.2.1 v0 (by omega)) ?_
                refine zz_icmp_ge (a := j) (b := off (lo + v0 + 1) - off (lo + v0)) (tgt := 164) hx hb dM_next_139 (by decide) (by omega) (by omega) (fun c139 => ?_) (fun c139 => ?_)
                · refine lv_aload_n hx hb dM_next_164 rfl (lv_at hl 3 rfl) ?_
                  refine lv_aload_n hx hb dM_next_165 rfl (lv_at hl 3 rfl) ?_
                  refine va_get (D := (dC, dI)) (ci := 2) (v := .ref mS) (C := RM) (T := TM) (N := 18) hx hb hts hi_M hown hK hP 0 rfl rfl 8 (by decide) (hts (.fieldLink RM 20 "PacketStoreModel" "size" "[I") (by decide +kernel)) (fun _ h9 => h9) rfl dM_next_166 ?_
                  refine lv_iload_n hx hb dM_next_169 rfl (lv_at hl 2 rfl) ?_
                  refine zz_iald hx hb hK hP 3 2 rfl rfl (j := v0) (by omega) (by omega) dM_next_170 ?_
                  refine zz_as (nI (off (lo + v0 + 1) - off (lo + v0))) (hrm.2.1 v0 (by omega)) ?_
                  refine va_put (D := (dC, dI)) (ci := 2) (v := .int (nI (off (lo + v0 + 1) - off (lo + v0)))) (ty := .int) (C := RM) (T := TM) (N := 18) hx hb hts hi_M tyM tyM_ok nmM hown hK hP hD hS 0 rfl rfl 5 (by decide) (hts (.fieldLink RM 71 "PacketStoreModel" "outSize" "I") (by decide +kernel)) (fun _ h9 => h9) rfl (by decide +kernel) rfl rfl (Nat.le_of_ble_eq_true rfl) dM_next_171 (fun H locs hP hD hS => ?_)
                  have hP : va_P (dC, dI) vwCl [(mM, .inr (2, [.int (nI 0), .int (nI R), .ref mX, .int (nI ts), .ref mO, .int (nI (off (lo + v0 + 1) - off (lo + v0))), .int (nI (hi - lo)), .ref mT, .ref mS, .ref mB, .int (nI (off hi - off lo)), .int (nI hi), .int (nI dr), .int (nI de), .int (nI 1), .int fr, .int to, .int (nI (lo + v0))])), (mO, .inl (eO, 512, .inl Og)), (mT, .inl (eT, 16384, .inl Tm)), (mS, .inl (eS, 16384, .inl Sm)), (mB, .inl (eB, 16384, .inl Bm))] H := hP
                  have hD : va_D A [(mM, .inr (2, [.int (nI 0), .int (nI R), .ref mX, .int (nI ts), .ref mO, .int (nI (off (lo + v0 + 1) - off (lo + v0))), .int (nI (hi - lo)), .ref mT, .ref mS, .ref mB, .int (nI (off hi - off lo)), .int (nI hi), .int (nI dr), .int (nI de), .int (nI 1), .int fr, .int to, .int (nI (lo + v0))])), (mO, .inl (eO, 512, .inl Og)), (mT, .inl (eT, 16384, .inl Tm)), (mS, .inl (eS, 16384, .inl Sm)), (mB, .inl (eB, 16384, .inl Bm))] := hD
                  refine lv_aload_n hx hb dM_next_174 rfl (lv_at hl 3 rfl) ?_
                  refine lv_dup hx hb dM_next_175 rfl ?_
                  refine va_get (D := (dC, dI)) (ci := 2) (v := .int (nI (lo + v0))) (C := RM) (T := TM) (N := 18) hx hb hts hi_M hown hK hP 0 rfl rfl 17 (by decide) (hts (.fieldLink RM 64 "PacketStoreModel" "looks" "I") (by decide +kernel)) (fun _ h9 => h9) rfl dM_next_176 ?_
                  refine lv_iconst (v := nI 1) hx hb dM_next_179 (by decide) ?_
                  refine lv_iadd hx hb dM_next_180 ?_
                  refine zz_as (nI ((lo + v0) + 1)) (nI_add _ _) ?_
                  refine va_put (D := (dC, dI)) (ci := 2) (v := .int (nI ((lo + v0) + 1))) (ty := .int) (C := RM) (T := TM) (N := 18) hx hb hts hi_M tyM tyM_ok nmM hown hK hP hD hS 0 rfl rfl 17 (by decide) (hts (.fieldLink RM 64 "PacketStoreModel" "looks" "I") (by decide +kernel)) (fun _ h9 => h9) rfl (by decide +kernel) rfl rfl (Nat.le_of_ble_eq_true rfl) dM_next_181 (fun H locs hP hD hS => ?_)
                  have hP : va_P (dC, dI) vwCl [(mM, .inr (2, [.int (nI 0), .int (nI R), .ref mX, .int (nI ts), .ref mO, .int (nI (off (lo + v0 + 1) - off (lo + v0))), .int (nI (hi - lo)), .ref mT, .ref mS, .ref mB, .int (nI (off hi - off lo)), .int (nI hi), .int (nI dr), .int (nI de), .int (nI 1), .int fr, .int to, .int (nI ((lo + v0) + 1))])), (mO, .inl (eO, 512, .inl Og)), (mT, .inl (eT, 16384, .inl Tm)), (mS, .inl (eS, 16384, .inl Sm)), (mB, .inl (eB, 16384, .inl Bm))] H := hP
                  have hD : va_D A [(mM, .inr (2, [.int (nI 0), .int (nI R), .ref mX, .int (nI ts), .ref mO, .int (nI (off (lo + v0 + 1) - off (lo + v0))), .int (nI (hi - lo)), .ref mT, .ref mS, .ref mB, .int (nI (off hi - off lo)), .int (nI hi), .int (nI dr), .int (nI de), .int (nI 1), .int fr, .int to, .int (nI ((lo + v0) + 1))])), (mO, .inl (eO, 512, .inl Og)), (mT, .inl (eT, 16384, .inl Tm)), (mS, .inl (eS, 16384, .inl Sm)), (mB, .inl (eB, 16384, .inl Bm))] := hD
                  refine lv_aload_n hx hb dM_next_184 rfl (lv_at hl 3 rfl) ?_
                  refine va_get (D := (dC, dI)) (ci := 2) (v := .int (nI (off (lo + v0 + 1) - off (lo + v0)))) (C := RM) (T := TM) (N := 18) hx hb hts hi_M hown hK hP 0 rfl rfl 5 (by decide) (hts (.fieldLink RM 71 "PacketStoreModel" "outSize" "I") (by decide +kernel)) (fun _ h9 => h9) rfl dM_next_185 ?_
                  exact W.iret (v := (nI (off (lo + v0 + 1) - off (lo + v0)))) hx hb hr (fun t ht hW => ⟨⟨_, (v0 + 1, 1, off (lo + v0 + 1) - off (lo + v0), Og), rfl, ⟨v0, hj4, hj2, hj3, Or.inr ⟨by omega, hwant, Or.inr ⟨c116, rfl, rfl, rfl, rfl, fun t h => hO t (by omega)⟩⟩⟩, by rw [ht]; exact hP, va_K.moved hW.alike hK, hD⟩, hS.F ht⟩) hS.2.2 dM_next_188
                · refine lv_aload_n hx hb dM_next_142 rfl (lv_at hl 3 rfl) ?_
                  refine va_get (D := (dC, dI)) (ci := 2) (v := .ref mO) (C := RM) (T := TM) (N := 18) hx hb hts hi_M hown hK hP 0 rfl rfl 4 (by decide) (hts (.fieldLink RM 13 "PacketStoreModel" "out" "[B") (by decide +kernel)) (fun _ h9 => h9) rfl dM_next_143 ?_
                  refine lv_iload hx hb dM_next_146 (lv_at hl 0 rfl) ?_
                  refine lv_aload_n hx hb dM_next_148 rfl (lv_at hl 3 rfl) ?_
                  refine va_get (D := (dC, dI)) (ci := 2) (v := .ref mB) (C := RM) (T := TM) (N := 18) hx hb hts hi_M hown hK hP 0 rfl rfl 9 (by decide) (hts (.fieldLink RM 23 "PacketStoreModel" "bytes" "[B") (by decide +kernel)) (fun _ h9 => h9) rfl dM_next_149 ?_
                  refine lv_iload_n hx hb dM_next_152 rfl (lv_at hl 1 rfl) ?_
                  refine lv_iload hx hb dM_next_153 (lv_at hl 0 rfl) ?_
                  refine lv_iadd hx hb dM_next_155 ?_
                  refine zz_as (nI ((off (lo + v0) - off lo) + j)) (nI_add _ _) ?_
                  refine zz_bald hx hb hK hP 4 3 rfl rfl (j := (off (lo + v0) - off lo) + j) (by omega) (by omega) dM_next_156 ?_
                  refine zz_as ((bz (off (lo + v0) + j)).toInt8.toInt32) (by rw [hrm.2.2 _ (by omega), show off lo + (off (lo + v0) - off lo + j) = off (lo + v0) + j by omega]) ?_
                  refine zz_bast hx hb hK hP hD hS 1 0 rfl rfl (j := j) (x := (((bz (off (lo + v0) + j)).toInt8.toInt32))) (by omega) (by omega) dM_next_157 (fun H locs hP hD hS => ?_)
                  have hP : va_P (dC, dI) vwCl [(mM, .inr (2, [.int (nI 0), .int (nI R), .ref mX, .int (nI ts), .ref mO, .int (nI os), .int (nI (hi - lo)), .ref mT, .ref mS, .ref mB, .int (nI (off hi - off lo)), .int (nI hi), .int (nI dr), .int (nI de), .int (nI 1), .int fr, .int to, .int (nI (lo + v0))])), (mO, .inl (eO, 512, .inl (upd Og j ((((bz (off (lo + v0) + j)).toInt8.toInt32)).toInt8.toInt32)))), (mT, .inl (eT, 16384, .inl Tm)), (mS, .inl (eS, 16384, .inl Sm)), (mB, .inl (eB, 16384, .inl Bm))] H := hP
                  have hD : va_D A [(mM, .inr (2, [.int (nI 0), .int (nI R), .ref mX, .int (nI ts), .ref mO, .int (nI os), .int (nI (hi - lo)), .ref mT, .ref mS, .ref mB, .int (nI (off hi - off lo)), .int (nI hi), .int (nI dr), .int (nI de), .int (nI 1), .int fr, .int to, .int (nI (lo + v0))])), (mO, .inl (eO, 512, .inl (upd Og j ((((bz (off (lo + v0) + j)).toInt8.toInt32)).toInt8.toInt32)))), (mT, .inl (eT, 16384, .inl Tm)), (mS, .inl (eS, 16384, .inl Sm)), (mB, .inl (eB, 16384, .inl Bm))] := hD
                  refine lv_iinc (v := nI (j + 1)) (lv' := [(4, .int (nI (j + 1))), (3, .int (nI (off (lo + v0) - off lo))), (2, .int (nI v0)), (0, .ref mM), (1, .int most)]) hx hb dM_next_158 hl (k := 0) rfl (show nI j + 1 = nI (j + 1) from nI_1 _) (by decide) rfl (fun ls hl => ?_)
                  refine lv_goto (tgt := 131) hx hb dM_next_161 (by decide) ?_
                  exact ih (j + 1, upd Og j ((((bz (off (lo + v0) + j)).toInt8.toInt32)).toInt8.toInt32)) _ _ _ ⟨⟨by show _ + (j + 1) = (off (lo + v0 + 1) - off (lo + v0)) + 1; omega, by show j + 1 ≤ off (lo + v0 + 1) - off (lo + v0); omega, zz_updlt (g := fun t => (bz (off (lo + v0) + t)).toInt8.toInt32) hO (zz_i8 _)⟩, hP, hD, hS, lv_sub hl [0, 1, 2, 3, 4] rfl⟩
              · refine lv_bipush (v := (-2)) hx hb dM_next_119 (by decide) ?_
                exact W.iret (v := ((-2))) hx hb hr (fun t ht hW => ⟨⟨_, (v, 1, os, Om), rfl, ⟨v, hj4, hj2, hj3, Or.inr ⟨by omega, hwant, Or.inl ⟨c116, rfl, rfl⟩⟩⟩, by rw [ht]; exact hP, va_K.moved hW.alike hK, hD⟩, hS.F ht⟩) hS.2.2 dM_next_121
            · exact absurd c99 (by omega)
          · refine lv_iinc (v := nI (v + 1)) (lv' := [(2, .int (nI (v + 1))), (0, .ref mM), (1, .int most)]) hx hb dM_next_73 hl (k := 0) rfl (show nI v + 1 = nI (v + 1) from nI_1 _) (by decide) rfl (fun ls hl => ?_)
            refine lv_goto (tgt := 39) hx hb dM_next_76 (by decide) ?_
            exact ih (v + 1) _ _ _ ⟨⟨by omega, by omega, by omega, fun t h1 h2 => (Nat.lt_or_ge t v).elim (fun q => hj3 t h1 q) (fun q => by rw [show t = v by omega]; exact fun h => c70 h.2)⟩, hP, hD, hS, lv_sub hl [0, 1, 2] rfl⟩
    · refine lv_iconst (v := nI 0) hx hb dM_next_33 (by decide) ?_
      refine lv_goto (tgt := 38) hx hb dM_next_34 (by decide) ?_
      refine zz_as (nI (pa - lo)) (congrArg nI (by have h9 := mt (rg_ge0 (a := pa) (b := lo) (by omega) (by omega)).mpr c30; omega)) ?_
      refine lv_istore_n (lv' := [(2, .int (nI (pa - lo))), (0, .ref mM), (1, .int most)]) hx hb dM_next_38 rfl hl (by decide) rfl (fun ls hl => ?_)
      refine zz_loop (σ := Nat) (fun n v H locs ls => (n + v = hi - lo + 1 ∧ v ≤ hi - lo ∧ pa - lo ≤ v ∧ ∀ t, pa - lo ≤ t → t < v → ¬ (fr ≤ tm (lo + t) ∧ tm (lo + t) ≤ to)) ∧ va_P (dC, dI) vwCl [(mM, .inr (2, [.int (nI 0), .int (nI R), .ref mX, .int (nI ts), .ref mO, .int (nI os), .int (nI (hi - lo)), .ref mT, .ref mS, .ref mB, .int (nI (off hi - off lo)), .int (nI hi), .int (nI dr), .int (nI de), .int (nI 1), .int fr, .int to, .int (nI pa)])), (mO, .inl (eO, 512, .inl Om)), (mT, .inl (eT, 16384, .inl Tm)), (mS, .inl (eS, 16384, .inl Sm)), (mB, .inl (eB, 16384, .inl Bm))] H ∧ va_D A [(mM, .inr (2, [.int (nI 0), .int (nI R), .ref mX, .int (nI ts), .ref mO, .int (nI os), .int (nI (hi - lo)), .ref mT, .ref mS, .ref mB, .int (nI (off hi - off lo)), .int (nI hi), .int (nI dr), .int (nI de), .int (nI 1), .int fr, .int to, .int (nI pa)])), (mO, .inl (eO, 512, .inl Om)), (mT, .inl (eT, 16384, .inl Tm)), (mS, .inl (eS, 16384, .inl Sm)), (mB, .inl (eB, 16384, .inl Bm))] ∧ va_S A s.heap H locs ∧ lv_has ls 5 [(2, .int (nI v)), (0, .ref mM), (1, .int most)]) (fun v H locs ls h => ?_) (fun n v H locs ls h ih => ?_) (hi - lo + 1 - (pa - lo)) (pa - lo) _ _ _ ⟨⟨by omega, by omega, Nat.le_refl _, fun t h1 h2 => absurd h2 (Nat.not_lt.mpr h1)⟩, hP, hD, hS, lv_sub hl [0, 1, 2] rfl⟩
      · obtain ⟨⟨h1, h2, -⟩, -⟩ := h
        omega
      obtain ⟨⟨hj1, hj2, hj4, hj3⟩, hP, hD, hS, hl⟩ := h
      have hP : va_P (dC, dI) vwCl [(mM, .inr (2, [.int (nI 0), .int (nI R), .ref mX, .int (nI ts), .ref mO, .int (nI os), .int (nI (hi - lo)), .ref mT, .ref mS, .ref mB, .int (nI (off hi - off lo)), .int (nI hi), .int (nI dr), .int (nI de), .int (nI 1), .int fr, .int to, .int (nI pa)])), (mO, .inl (eO, 512, .inl Om)), (mT, .inl (eT, 16384, .inl Tm)), (mS, .inl (eS, 16384, .inl Sm)), (mB, .inl (eB, 16384, .inl Bm))] H := hP
      have hD : va_D A [(mM, .inr (2, [.int (nI 0), .int (nI R), .ref mX, .int (nI ts), .ref mO, .int (nI os), .int (nI (hi - lo)), .ref mT, .ref mS, .ref mB, .int (nI (off hi - off lo)), .int (nI hi), .int (nI dr), .int (nI de), .int (nI 1), .int fr, .int to, .int (nI pa)])), (mO, .inl (eO, 512, .inl Om)), (mT, .inl (eT, 16384, .inl Tm)), (mS, .inl (eS, 16384, .inl Sm)), (mB, .inl (eB, 16384, .inl Bm))] := hD
      have hl : lv_has ls 5 [(2, .int (nI v)), (0, .ref mM), (1, .int most)] := hl
      refine lv_iload_n hx hb dM_next_39 rfl (lv_at hl 0 rfl) ?_
      refine lv_aload_n hx hb dM_next_40 rfl (lv_at hl 1 rfl) ?_
      refine va_get (D := (dC, dI)) (ci := 2) (v := .int (nI (hi - lo))) (C := RM) (T := TM) (N := 18) hx hb hts hi_M hown hK hP 0 rfl rfl 6 (by decide) (hts (.fieldLink RM 36 "PacketStoreModel" "many" "I") (by decide +kernel)) (fun _ h9 => h9) rfl dM_next_41 ?_
      refine zz_icmp_ge (a := v) (b := hi - lo) (tgt := 79) hx hb dM_next_44 (by decide) (by omega) (by omega) (fun c44 => ?_) (fun c44 => ?_)
      · refine lv_aload_n hx hb dM_next_79 rfl (lv_at hl 1 rfl) ?_
        refine lv_aload_n hx hb dM_next_80 rfl (lv_at hl 1 rfl) ?_
        refine va_get (D := (dC, dI)) (ci := 2) (v := .int (nI hi)) (C := RM) (T := TM) (N := 18) hx hb hts hi_M hown hK hP 0 rfl rfl 11 (by decide) (hts (.fieldLink RM 48 "PacketStoreModel" "came" "I") (by decide +kernel)) (fun _ h9 => h9) rfl dM_next_81 ?_
        refine lv_aload_n hx hb dM_next_84 rfl (lv_at hl 1 rfl) ?_
        refine va_get (D := (dC, dI)) (ci := 2) (v := .int (nI (hi - lo))) (C := RM) (T := TM) (N := 18) hx hb hts hi_M hown hK hP 0 rfl rfl 6 (by decide) (hts (.fieldLink RM 36 "PacketStoreModel" "many" "I") (by decide +kernel)) (fun _ h9 => h9) rfl dM_next_85 ?_
        refine lv_isub hx hb dM_next_88 ?_
        refine zz_as (nI (hi - (hi - lo))) (pk_sub (by omega)) ?_
        refine lv_iload_n hx hb dM_next_89 rfl (lv_at hl 0 rfl) ?_
        refine lv_iadd hx hb dM_next_90 ?_
        refine zz_as (nI ((hi - (hi - lo)) + v)) (nI_add _ _) ?_
        refine zz_as (nI (lo + v)) (congrArg nI (by omega)) ?_
        refine va_put (D := (dC, dI)) (ci := 2) (v := .int (nI (lo + v))) (ty := .int) (C := RM) (T := TM) (N := 18) hx hb hts hi_M tyM tyM_ok nmM hown hK hP hD hS 0 rfl rfl 17 (by decide) (hts (.fieldLink RM 64 "PacketStoreModel" "looks" "I") (by decide +kernel)) (fun _ h9 => h9) rfl (by decide +kernel) rfl rfl (Nat.le_of_ble_eq_true rfl) dM_next_91 (fun H locs hP hD hS => ?_)
        have hP : va_P (dC, dI) vwCl [(mM, .inr (2, [.int (nI 0), .int (nI R), .ref mX, .int (nI ts), .ref mO, .int (nI os), .int (nI (hi - lo)), .ref mT, .ref mS, .ref mB, .int (nI (off hi - off lo)), .int (nI hi), .int (nI dr), .int (nI de), .int (nI 1), .int fr, .int to, .int (nI (lo + v))])), (mO, .inl (eO, 512, .inl Om)), (mT, .inl (eT, 16384, .inl Tm)), (mS, .inl (eS, 16384, .inl Sm)), (mB, .inl (eB, 16384, .inl Bm))] H := hP
        have hD : va_D A [(mM, .inr (2, [.int (nI 0), .int (nI R), .ref mX, .int (nI ts), .ref mO, .int (nI os), .int (nI (hi - lo)), .ref mT, .ref mS, .ref mB, .int (nI (off hi - off lo)), .int (nI hi), .int (nI dr), .int (nI de), .int (nI 1), .int fr, .int to, .int (nI (lo + v))])), (mO, .inl (eO, 512, .inl Om)), (mT, .inl (eT, 16384, .inl Tm)), (mS, .inl (eS, 16384, .inl Sm)), (mB, .inl (eB, 16384, .inl Bm))] := hD
        refine lv_iload_n hx hb dM_next_94 rfl (lv_at hl 0 rfl) ?_
        refine lv_aload_n hx hb dM_next_95 rfl (lv_at hl 1 rfl) ?_
        refine va_get (D := (dC, dI)) (ci := 2) (v := .int (nI (hi - lo))) (C := RM) (T := TM) (N := 18) hx hb hts hi_M hown hK hP 0 rfl rfl 6 (by decide) (hts (.fieldLink RM 36 "PacketStoreModel" "many" "I") (by decide +kernel)) (fun _ h9 => h9) rfl dM_next_96 ?_
        refine zz_icmp_ne (a := v) (b := hi - lo) (tgt := 109) hx hb dM_next_99 (by decide) (by omega) (by omega) (fun c99 => ?_) (fun c99 => ?_)
        · exact absurd (show v = hi - lo by omega) c99
        · refine lv_aload_n hx hb dM_next_102 rfl (lv_at hl 1 rfl) ?_
          refine lv_iconst (v := nI 0) hx hb dM_next_103 (by decide) ?_
          refine va_put (D := (dC, dI)) (ci := 2) (v := .int (nI 0)) (ty := .boolean) (C := RM) (T := TM) (N := 18) hx hb hts hi_M tyM tyM_ok nmM hown hK hP hD hS 0 rfl rfl 14 (by decide) (hts (.fieldLink RM 54 "PacketStoreModel" "retrieves" "Z") (by decide +kernel)) (fun _ h9 => h9) rfl (by decide +kernel) rfl rfl (Nat.le_of_ble_eq_true rfl) dM_next_104 (fun H locs hP hD hS => ?_)
          have hP : va_P (dC, dI) vwCl [(mM, .inr (2, [.int (nI 0), .int (nI R), .ref mX, .int (nI ts), .ref mO, .int (nI os), .int (nI (hi - lo)), .ref mT, .ref mS, .ref mB, .int (nI (off hi - off lo)), .int (nI hi), .int (nI dr), .int (nI de), .int (nI 0), .int fr, .int to, .int (nI (lo + v))])), (mO, .inl (eO, 512, .inl Om)), (mT, .inl (eT, 16384, .inl Tm)), (mS, .inl (eS, 16384, .inl Sm)), (mB, .inl (eB, 16384, .inl Bm))] H := hP
          have hD : va_D A [(mM, .inr (2, [.int (nI 0), .int (nI R), .ref mX, .int (nI ts), .ref mO, .int (nI os), .int (nI (hi - lo)), .ref mT, .ref mS, .ref mB, .int (nI (off hi - off lo)), .int (nI hi), .int (nI dr), .int (nI de), .int (nI 0), .int fr, .int to, .int (nI (lo + v))])), (mO, .inl (eO, 512, .inl Om)), (mT, .inl (eT, 16384, .inl Tm)), (mS, .inl (eS, 16384, .inl Sm)), (mB, .inl (eB, 16384, .inl Bm))] := hD
          refine lv_iconst (v := (-1)) hx hb dM_next_107 (by decide) ?_
          exact W.iret (v := ((-1))) hx hb hr (fun t ht hW => ⟨⟨_, (v, 0, os, Om), rfl, ⟨v, hj4, hj2, hj3, Or.inl ⟨c99, rfl, rfl⟩⟩, by rw [ht]; exact hP, va_K.moved hW.alike hK, hD⟩, hS.F ht⟩) hS.2.2 dM_next_108
      · refine lv_aload_n hx hb dM_next_47 rfl (lv_at hl 1 rfl) ?_
        refine va_get (D := (dC, dI)) (ci := 2) (v := .ref mT) (C := RM) (T := TM) (N := 18) hx hb hts hi_M hown hK hP 0 rfl rfl 7 (by decide) (hts (.fieldLink RM 16 "PacketStoreModel" "time" "[I") (by decide +kernel)) (fun _ h9 => h9) rfl dM_next_48 ?_
        refine lv_iload_n hx hb dM_next_51 rfl (lv_at hl 0 rfl) ?_
        refine zz_iald hx hb hK hP 2 1 rfl rfl (j := v) (by omega) (by omega) dM_next_52 ?_
        refine zz_as (tm (lo + v)) (hrm.1 v (by omega)) ?_
        refine lv_aload_n hx hb dM_next_53 rfl (lv_at hl 1 rfl) ?_
        refine va_get (D := (dC, dI)) (ci := 2) (v := .int fr) (C := RM) (T := TM) (N := 18) hx hb hts hi_M hown hK hP 0 rfl rfl 15 (by decide) (hts (.fieldLink RM 58 "PacketStoreModel" "from" "I") (by decide +kernel)) (fun _ h9 => h9) rfl dM_next_54 ?_
        refine lv_icmp_lt (tgt := 73) hx hb dM_next_57 (by decide) (fun c57 => ?_) (fun c57 => ?_)
        · refine lv_iinc (v := nI (v + 1)) (lv' := [(2, .int (nI (v + 1))), (0, .ref mM), (1, .int most)]) hx hb dM_next_73 hl (k := 0) rfl (show nI v + 1 = nI (v + 1) from nI_1 _) (by decide) rfl (fun ls hl => ?_)
          refine lv_goto (tgt := 39) hx hb dM_next_76 (by decide) ?_
          exact ih (v + 1) _ _ _ ⟨⟨by omega, by omega, by omega, fun t h1 h2 => (Nat.lt_or_ge t v).elim (fun q => hj3 t h1 q) (fun q => by rw [show t = v by omega]; exact fun h => zz_nlt h.1 c57)⟩, hP, hD, hS, lv_sub hl [0, 1, 2] rfl⟩
        · refine lv_aload_n hx hb dM_next_60 rfl (lv_at hl 1 rfl) ?_
          refine va_get (D := (dC, dI)) (ci := 2) (v := .ref mT) (C := RM) (T := TM) (N := 18) hx hb hts hi_M hown hK hP 0 rfl rfl 7 (by decide) (hts (.fieldLink RM 16 "PacketStoreModel" "time" "[I") (by decide +kernel)) (fun _ h9 => h9) rfl dM_next_61 ?_
          refine lv_iload_n hx hb dM_next_64 rfl (lv_at hl 0 rfl) ?_
          refine zz_iald hx hb hK hP 2 1 rfl rfl (j := v) (by omega) (by omega) dM_next_65 ?_
          refine zz_as (tm (lo + v)) (hrm.1 v (by omega)) ?_
          refine lv_aload_n hx hb dM_next_66 rfl (lv_at hl 1 rfl) ?_
          refine va_get (D := (dC, dI)) (ci := 2) (v := .int to) (C := RM) (T := TM) (N := 18) hx hb hts hi_M hown hK hP 0 rfl rfl 16 (by decide) (hts (.fieldLink RM 61 "PacketStoreModel" "to" "I") (by decide +kernel)) (fun _ h9 => h9) rfl dM_next_67 ?_
          refine lv_icmp_le (tgt := 79) hx hb dM_next_70 (by decide) (fun c70 => ?_) (fun c70 => ?_)
          · refine lv_aload_n hx hb dM_next_79 rfl (lv_at hl 1 rfl) ?_
            refine lv_aload_n hx hb dM_next_80 rfl (lv_at hl 1 rfl) ?_
            refine va_get (D := (dC, dI)) (ci := 2) (v := .int (nI hi)) (C := RM) (T := TM) (N := 18) hx hb hts hi_M hown hK hP 0 rfl rfl 11 (by decide) (hts (.fieldLink RM 48 "PacketStoreModel" "came" "I") (by decide +kernel)) (fun _ h9 => h9) rfl dM_next_81 ?_
            refine lv_aload_n hx hb dM_next_84 rfl (lv_at hl 1 rfl) ?_
            refine va_get (D := (dC, dI)) (ci := 2) (v := .int (nI (hi - lo))) (C := RM) (T := TM) (N := 18) hx hb hts hi_M hown hK hP 0 rfl rfl 6 (by decide) (hts (.fieldLink RM 36 "PacketStoreModel" "many" "I") (by decide +kernel)) (fun _ h9 => h9) rfl dM_next_85 ?_
            refine lv_isub hx hb dM_next_88 ?_
            refine zz_as (nI (hi - (hi - lo))) (pk_sub (by omega)) ?_
            refine lv_iload_n hx hb dM_next_89 rfl (lv_at hl 0 rfl) ?_
            refine lv_iadd hx hb dM_next_90 ?_
            refine zz_as (nI ((hi - (hi - lo)) + v)) (nI_add _ _) ?_
            refine zz_as (nI (lo + v)) (congrArg nI (by omega)) ?_
            refine va_put (D := (dC, dI)) (ci := 2) (v := .int (nI (lo + v))) (ty := .int) (C := RM) (T := TM) (N := 18) hx hb hts hi_M tyM tyM_ok nmM hown hK hP hD hS 0 rfl rfl 17 (by decide) (hts (.fieldLink RM 64 "PacketStoreModel" "looks" "I") (by decide +kernel)) (fun _ h9 => h9) rfl (by decide +kernel) rfl rfl (Nat.le_of_ble_eq_true rfl) dM_next_91 (fun H locs hP hD hS => ?_)
            have hP : va_P (dC, dI) vwCl [(mM, .inr (2, [.int (nI 0), .int (nI R), .ref mX, .int (nI ts), .ref mO, .int (nI os), .int (nI (hi - lo)), .ref mT, .ref mS, .ref mB, .int (nI (off hi - off lo)), .int (nI hi), .int (nI dr), .int (nI de), .int (nI 1), .int fr, .int to, .int (nI (lo + v))])), (mO, .inl (eO, 512, .inl Om)), (mT, .inl (eT, 16384, .inl Tm)), (mS, .inl (eS, 16384, .inl Sm)), (mB, .inl (eB, 16384, .inl Bm))] H := hP
            have hD : va_D A [(mM, .inr (2, [.int (nI 0), .int (nI R), .ref mX, .int (nI ts), .ref mO, .int (nI os), .int (nI (hi - lo)), .ref mT, .ref mS, .ref mB, .int (nI (off hi - off lo)), .int (nI hi), .int (nI dr), .int (nI de), .int (nI 1), .int fr, .int to, .int (nI (lo + v))])), (mO, .inl (eO, 512, .inl Om)), (mT, .inl (eT, 16384, .inl Tm)), (mS, .inl (eS, 16384, .inl Sm)), (mB, .inl (eB, 16384, .inl Bm))] := hD
            refine lv_iload_n hx hb dM_next_94 rfl (lv_at hl 0 rfl) ?_
            refine lv_aload_n hx hb dM_next_95 rfl (lv_at hl 1 rfl) ?_
            refine va_get (D := (dC, dI)) (ci := 2) (v := .int (nI (hi - lo))) (C := RM) (T := TM) (N := 18) hx hb hts hi_M hown hK hP 0 rfl rfl 6 (by decide) (hts (.fieldLink RM 36 "PacketStoreModel" "many" "I") (by decide +kernel)) (fun _ h9 => h9) rfl dM_next_96 ?_
            refine zz_icmp_ne (a := v) (b := hi - lo) (tgt := 109) hx hb dM_next_99 (by decide) (by omega) (by omega) (fun c99 => ?_) (fun c99 => ?_)
            · have hk : lo + v < hi := by omega
              have hwant : fr ≤ tm (lo + v) ∧ tm (lo + v) ≤ to := ⟨zz_lnt c57, c70⟩
              have hk1 : off (lo + v) < off (lo + v + 1) := hok.2.2.2 (lo + v) (by omega) hk
              have hk2 : off lo + (lo + v - lo) ≤ off (lo + v) := hok.gap (Nat.le_refl lo) (by omega) (by omega)
              have hk3 : off (lo + v + 1) + (hi - (lo + v + 1)) ≤ off hi := hok.gap (by omega) (by omega) (Nat.le_refl hi)
              have hk4 := h512 (lo + v) (by omega) hk
              refine lv_aload_n hx hb dM_next_109 rfl (lv_at hl 1 rfl) ?_
              refine va_get (D := (dC, dI)) (ci := 2) (v := .ref mS) (C := RM) (T := TM) (N := 18) hx hb hts hi_M hown hK hP 0 rfl rfl 8 (by decide) (hts (.fieldLink RM 20 "PacketStoreModel" "size" "[I") (by decide +kernel)) (fun _ h9 => h9) rfl dM_next_110 ?_
              refine lv_iload_n hx hb dM_next_113 rfl (lv_at hl 0 rfl) ?_
              refine zz_iald hx hb hK hP 3 2 rfl rfl (j := v) (by omega) (by omega) dM_next_114 ?_
              refine zz_as (nI (off (lo + v + 1) - off (lo + v))) (hrm.2.1 v (by omega)) ?_
              refine lv_iload_n hx hb dM_next_115 rfl (lv_at hl 2 rfl) ?_
              refine lv_icmp_le (tgt := 122) hx hb dM_next_116 (by decide) (fun c116 => ?_) (fun c116 => ?_)
              · refine lv_aload_n hx hb dM_next_122 rfl (lv_at hl 1 rfl) ?_
                refine lv_iload_n hx hb dM_next_123 rfl (lv_at hl 0 rfl) ?_
                refine zz_callR (As := [.int (nI v)]) (rest := []) ⟨hx, hb, hml, hown, hts⟩ (c_M_start l dC dI mM mX mO mT mS mB R lo hi off ts os dr de 1 fr to ((lo + v)) eS Sm v hok hrm.2.1 (by omega)) (cwV 1 hts gM_next_start rfl rfl rfl (by decide +kernel) ⟨Nat.le_of_ble_eq_true rfl, Nat.le_of_ble_eq_true rfl⟩) (hP.sub [0, 3] rfl) (hK.sub [2] rfl) 0 rfl rfl rfl rfl hl.1 rfl (Nat.le_of_ble_eq_true rfl) dM_next_124 ⟨Nat.zero_le _, Nat.zero_le _⟩ (fun r124 e124 => ?_)
                subst e124
                refine lv_istore_n (lv' := [(3, .int (nI (off (lo + v) - off lo))), (2, .int (nI v)), (0, .ref mM), (1, .int most)]) hx hb dM_next_127 rfl hl (by decide) rfl (fun ls hl => ?_)
                refine lv_iconst (v := nI 0) hx hb dM_next_128 (by decide) ?_
                refine lv_istore (lv' := [(4, .int (nI 0)), (3, .int (nI (off (lo + v) - off lo))), (2, .int (nI v)), (0, .ref mM), (1, .int most)]) hx hb dM_next_129 hl (by decide) rfl (fun ls hl => ?_)
                obtain ⟨v0, ev0⟩ : ∃ v0, v0 = v := ⟨_, rfl⟩
                subst ev0
                refine zz_loop (σ := Nat × (Nat → Int32)) (fun n v H locs ls => (n + v.1 = (off (lo + v0 + 1) - off (lo + v0)) + 1 ∧ v.1 ≤ off (lo + v0 + 1) - off (lo + v0) ∧ ∀ t, t < v.1 → v.2 t = (bz (off (lo + v0) + t)).toInt8.toInt32) ∧ va_P (dC, dI) vwCl [(mM, .inr (2, [.int (nI 0), .int (nI R), .ref mX, .int (nI ts), .ref mO, .int (nI os), .int (nI (hi - lo)), .ref mT, .ref mS, .ref mB, .int (nI (off hi - off lo)), .int (nI hi), .int (nI dr), .int (nI de), .int (nI 1), .int fr, .int to, .int (nI (lo + v0))])), (mO, .inl (eO, 512, .inl v.2)), (mT, .inl (eT, 16384, .inl Tm)), (mS, .inl (eS, 16384, .inl Sm)), (mB, .inl (eB, 16384, .inl Bm))] H ∧ va_D A [(mM, .inr (2, [.int (nI 0), .int (nI R), .ref mX, .int (nI ts), .ref mO, .int (nI os), .int (nI (hi - lo)), .ref mT, .ref mS, .ref mB, .int (nI (off hi - off lo)), .int (nI hi), .int (nI dr), .int (nI de), .int (nI 1), .int fr, .int to, .int (nI (lo + v0))])), (mO, .inl (eO, 512, .inl v.2)), (mT, .inl (eT, 16384, .inl Tm)), (mS, .inl (eS, 16384, .inl Sm)), (mB, .inl (eB, 16384, .inl Bm))] ∧ va_S A s.heap H locs ∧ lv_has ls 5 [(4, .int (nI v.1)), (3, .int (nI (off (lo + v0) - off lo))), (2, .int (nI v0)), (0, .ref mM), (1, .int most)]) (fun v H locs ls h => ?_) (fun n v H locs ls h ih => ?_) (off (lo + v0 + 1) - off (lo + v0) + 1) (0, Om) _ _ _ ⟨⟨rfl, Nat.zero_le _, fun t h => absurd h (Nat.not_lt_zero t)⟩, hP, hD, hS, lv_sub hl [0, 1, 2, 3, 4] rfl⟩
                · obtain ⟨⟨h1, h2, -⟩, -⟩ := h
                  omega
                obtain ⟨j, Og⟩ := v
                obtain ⟨⟨hi1, hi2, hO⟩, hP, hD, hS, hl⟩ := h
                dsimp only at hi1 hi2 hO
                have hP : va_P (dC, dI) vwCl [(mM, .inr (2, [.int (nI 0), .int (nI R), .ref mX, .int (nI ts), .ref mO, .int (nI os), .int (nI (hi - lo)), .ref mT, .ref mS, .ref mB, .int (nI (off hi - off lo)), .int (nI hi), .int (nI dr), .int (nI de), .int (nI 1), .int fr, .int to, .int (nI (lo + v0))])), (mO, .inl (eO, 512, .inl Og)), (mT, .inl (eT, 16384, .inl Tm)), (mS, .inl (eS, 16384, .inl Sm)), (mB, .inl (eB, 16384, .inl Bm))] H := hP
                have hD : va_D A [(mM, .inr (2, [.int (nI 0), .int (nI R), .ref mX, .int (nI ts), .ref mO, .int (nI os), .int (nI (hi - lo)), .ref mT, .ref mS, .ref mB, .int (nI (off hi - off lo)), .int (nI hi), .int (nI dr), .int (nI de), .int (nI 1), .int fr, .int to, .int (nI (lo + v0))])), (mO, .inl (eO, 512, .inl Og)), (mT, .inl (eT, 16384, .inl Tm)), (mS, .inl (eS, 16384, .inl Sm)), (mB, .inl (eB, 16384, .inl Bm))] := hD
                have hl : lv_has ls 5 [(4, .int (nI j)), (3, .int (nI (off (lo + v0) - off lo))), (2, .int (nI v0)), (0, .ref mM), (1, .int most)] := hl
                refine lv_iload hx hb dM_next_131 (lv_at hl 0 rfl) ?_
                refine lv_aload_n hx hb dM_next_133 rfl (lv_at hl 3 rfl) ?_
                refine va_get (D := (dC, dI)) (ci := 2) (v := .ref mS) (C := RM) (T := TM) (N := 18) hx hb hts hi_M hown hK hP 0 rfl rfl 8 (by decide) (hts (.fieldLink RM 20 "PacketStoreModel" "size" "[I") (by decide +kernel)) (fun _ h9 => h9) rfl dM_next_134 ?_
                refine lv_iload_n hx hb dM_next_137 rfl (lv_at hl 2 rfl) ?_
                refine zz_iald hx hb hK hP 3 2 rfl rfl (j := v0) (by omega) (by omega) dM_next_138 ?_
                refine zz_as (nI (off (lo + v0 + 1) - off (lo + v0))) (hrm.2.1 v0 (by omega)) ?_
                refine zz_icmp_ge (a := j) (b := off (lo + v0 + 1) - off (lo + v0)) (tgt := 164) hx hb dM_next_139 (by decide) (by omega) (by omega) (fun c139 => ?_) (fun c139 => ?_)
                · refine lv_aload_n hx hb dM_next_164 rfl (lv_at hl 3 rfl) ?_
                  refine lv_aload_n hx hb dM_next_165 rfl (lv_at hl 3 rfl) ?_
                  refine va_get (D := (dC, dI)) (ci := 2) (v := .ref mS) (C := RM) (T := TM) (N := 18) hx hb hts hi_M hown hK hP 0 rfl rfl 8 (by decide) (hts (.fieldLink RM 20 "PacketStoreModel" "size" "[I") (by decide +kernel)) (fun _ h9 => h9) rfl dM_next_166 ?_
                  refine lv_iload_n hx hb dM_next_169 rfl (lv_at hl 2 rfl) ?_
                  refine zz_iald hx hb hK hP 3 2 rfl rfl (j := v0) (by omega) (by omega) dM_next_170 ?_
                  refine zz_as (nI (off (lo + v0 + 1) - off (lo + v0))) (hrm.2.1 v0 (by omega)) ?_
                  refine va_put (D := (dC, dI)) (ci := 2) (v := .int (nI (off (lo + v0 + 1) - off (lo + v0)))) (ty := .int) (C := RM) (T := TM) (N := 18) hx hb hts hi_M tyM tyM_ok nmM hown hK hP hD hS 0 rfl rfl 5 (by decide) (hts (.fieldLink RM 71 "PacketStoreModel" "outSize" "I") (by decide +kernel)) (fun _ h9 => h9) rfl (by decide +kernel) rfl rfl (Nat.le_of_ble_eq_true rfl) dM_next_171 (fun H locs hP hD hS => ?_)
                  have hP : va_P (dC, dI) vwCl [(mM, .inr (2, [.int (nI 0), .int (nI R), .ref mX, .int (nI ts), .ref mO, .int (nI (off (lo + v0 + 1) - off (lo + v0))), .int (nI (hi - lo)), .ref mT, .ref mS, .ref mB, .int (nI (off hi - off lo)), .int (nI hi), .int (nI dr), .int (nI de), .int (nI 1), .int fr, .int to, .int (nI (lo + v0))])), (mO, .inl (eO, 512, .inl Og)), (mT, .inl (eT, 16384, .inl Tm)), (mS, .inl (eS, 16384, .inl Sm)), (mB, .inl (eB, 16384, .inl Bm))] H := hP
                  have hD : va_D A [(mM, .inr (2, [.int (nI 0), .int (nI R), .ref mX, .int (nI ts), .ref mO, .int (nI (off (lo + v0 + 1) - off (lo + v0))), .int (nI (hi - lo)), .ref mT, .ref mS, .ref mB, .int (nI (off hi - off lo)), .int (nI hi), .int (nI dr), .int (nI de), .int (nI 1), .int fr, .int to, .int (nI (lo + v0))])), (mO, .inl (eO, 512, .inl Og)), (mT, .inl (eT, 16384, .inl Tm)), (mS, .inl (eS, 16384, .inl Sm)), (mB, .inl (eB, 16384, .inl Bm))] := hD
                  refine lv_aload_n hx hb dM_next_174 rfl (lv_at hl 3 rfl) ?_
                  refine lv_dup hx hb dM_next_175 rfl ?_
                  refine va_get (D := (dC, dI)) (ci := 2) (v := .int (nI (lo + v0))) (C := RM) (T := TM) (N := 18) hx hb hts hi_M hown hK hP 0 rfl rfl 17 (by decide) (hts (.fieldLink RM 64 "PacketStoreModel" "looks" "I") (by decide +kernel)) (fun _ h9 => h9) rfl dM_next_176 ?_
                  refine lv_iconst (v := nI 1) hx hb dM_next_179 (by decide) ?_
                  refine lv_iadd hx hb dM_next_180 ?_
                  refine zz_as (nI ((lo + v0) + 1)) (nI_add _ _) ?_
                  refine va_put (D := (dC, dI)) (ci := 2) (v := .int (nI ((lo + v0) + 1))) (ty := .int) (C := RM) (T := TM) (N := 18) hx hb hts hi_M tyM tyM_ok nmM hown hK hP hD hS 0 rfl rfl 17 (by decide) (hts (.fieldLink RM 64 "PacketStoreModel" "looks" "I") (by decide +kernel)) (fun _ h9 => h9) rfl (by decide +kernel) rfl rfl (Nat.le_of_ble_eq_true rfl) dM_next_181 (fun H locs hP hD hS => ?_)
                  have hP : va_P (dC, dI) vwCl [(mM, .inr (2, [.int (nI 0), .int (nI R), .ref mX, .int (nI ts), .ref mO, .int (nI (off (lo + v0 + 1) - off (lo + v0))), .int (nI (hi - lo)), .ref mT, .ref mS, .ref mB, .int (nI (off hi - off lo)), .int (nI hi), .int (nI dr), .int (nI de), .int (nI 1), .int fr, .int to, .int (nI ((lo + v0) + 1))])), (mO, .inl (eO, 512, .inl Og)), (mT, .inl (eT, 16384, .inl Tm)), (mS, .inl (eS, 16384, .inl Sm)), (mB, .inl (eB, 16384, .inl Bm))] H := hP
                  have hD : va_D A [(mM, .inr (2, [.int (nI 0), .int (nI R), .ref mX, .int (nI ts), .ref mO, .int (nI (off (lo + v0 + 1) - off (lo + v0))), .int (nI (hi - lo)), .ref mT, .ref mS, .ref mB, .int (nI (off hi - off lo)), .int (nI hi), .int (nI dr), .int (nI de), .int (nI 1), .int fr, .int to, .int (nI ((lo + v0) + 1))])), (mO, .inl (eO, 512, .inl Og)), (mT, .inl (eT, 16384, .inl Tm)), (mS, .inl (eS, 16384, .inl Sm)), (mB, .inl (eB, 16384, .inl Bm))] := hD
                  refine lv_aload_n hx hb dM_next_184 rfl (lv_at hl 3 rfl) ?_
                  refine va_get (D := (dC, dI)) (ci := 2) (v := .int (nI (off (lo + v0 + 1) - off (lo + v0)))) (C := RM) (T := TM) (N := 18) hx hb hts hi_M hown hK hP 0 rfl rfl 5 (by decide) (hts (.fieldLink RM 71 "PacketStoreModel" "outSize" "I") (by decide +kernel)) (fun _ h9 => h9) rfl dM_next_185 ?_
                  exact W.iret (v := (nI (off (lo + v0 + 1) - off (lo + v0)))) hx hb hr (fun t ht hW => ⟨⟨_, (v0 + 1, 1, off (lo + v0 + 1) - off (lo + v0), Og), rfl, ⟨v0, hj4, hj2, hj3, Or.inr ⟨by omega, hwant, Or.inr ⟨c116, rfl, rfl, rfl, rfl, fun t h => hO t (by omega)⟩⟩⟩, by rw [ht]; exact hP, va_K.moved hW.alike hK, hD⟩, hS.F ht⟩) hS.2.2 dM_next_188
                · refine lv_aload_n hx hb dM_next_142 rfl (lv_at hl 3 rfl) ?_
                  refine va_get (D := (dC, dI)) (ci := 2) (v := .ref mO) (C := RM) (T := TM) (N := 18) hx hb hts hi_M hown hK hP 0 rfl rfl 4 (by decide) (hts (.fieldLink RM 13 "PacketStoreModel" "out" "[B") (by decide +kernel)) (fun _ h9 => h9) rfl dM_next_143 ?_
                  refine lv_iload hx hb dM_next_146 (lv_at hl 0 rfl) ?_
                  refine lv_aload_n hx hb dM_next_148 rfl (lv_at hl 3 rfl) ?_
                  refine va_get (D := (dC, dI)) (ci := 2) (v := .ref mB) (C := RM) (T := TM) (N := 18) hx hb hts hi_M hown hK hP 0 rfl rfl 9 (by decide) (hts (.fieldLink RM 23 "PacketStoreModel" "bytes" "[B") (by decide +kernel)) (fun _ h9 => h9) rfl dM_next_149 ?_
                  refine lv_iload_n hx hb dM_next_152 rfl (lv_at hl 1 rfl) ?_
                  refine lv_iload hx hb dM_next_153 (lv_at hl 0 rfl) ?_
                  refine lv_iadd hx hb dM_next_155 ?_
                  refine zz_as (nI ((off (lo + v0) - off lo) + j)) (nI_add _ _) ?_
                  refine zz_bald hx hb hK hP 4 3 rfl rfl (j := (off (lo + v0) - off lo) + j) (by omega) (by omega) dM_next_156 ?_
                  refine zz_as ((bz (off (lo + v0) + j)).toInt8.toInt32) (by rw [hrm.2.2 _ (by omega), show off lo + (off (lo + v0) - off lo + j) = off (lo + v0) + j by omega]) ?_
                  refine zz_bast hx hb hK hP hD hS 1 0 rfl rfl (j := j) (x := (((bz (off (lo + v0) + j)).toInt8.toInt32))) (by omega) (by omega) dM_next_157 (fun H locs hP hD hS => ?_)
                  have hP : va_P (dC, dI) vwCl [(mM, .inr (2, [.int (nI 0), .int (nI R), .ref mX, .int (nI ts), .ref mO, .int (nI os), .int (nI (hi - lo)), .ref mT, .ref mS, .ref mB, .int (nI (off hi - off lo)), .int (nI hi), .int (nI dr), .int (nI de), .int (nI 1), .int fr, .int to, .int (nI (lo + v0))])), (mO, .inl (eO, 512, .inl (upd Og j ((((bz (off (lo + v0) + j)).toInt8.toInt32)).toInt8.toInt32)))), (mT, .inl (eT, 16384, .inl Tm)), (mS, .inl (eS, 16384, .inl Sm)), (mB, .inl (eB, 16384, .inl Bm))] H := hP
                  have hD : va_D A [(mM, .inr (2, [.int (nI 0), .int (nI R), .ref mX, .int (nI ts), .ref mO, .int (nI os), .int (nI (hi - lo)), .ref mT, .ref mS, .ref mB, .int (nI (off hi - off lo)), .int (nI hi), .int (nI dr), .int (nI de), .int (nI 1), .int fr, .int to, .int (nI (lo + v0))])), (mO, .inl (eO, 512, .inl (upd Og j ((((bz (off (lo + v0) + j)).toInt8.toInt32)).toInt8.toInt32)))), (mT, .inl (eT, 16384, .inl Tm)), (mS, .inl (eS, 16384, .inl Sm)), (mB, .inl (eB, 16384, .inl Bm))] := hD
                  refine lv_iinc (v := nI (j + 1)) (lv' := [(4, .int (nI (j + 1))), (3, .int (nI (off (lo + v0) - off lo))), (2, .int (nI v0)), (0, .ref mM), (1, .int most)]) hx hb dM_next_158 hl (k := 0) rfl (show nI j + 1 = nI (j + 1) from nI_1 _) (by decide) rfl (fun ls hl => ?_)
                  refine lv_goto (tgt := 131) hx hb dM_next_161 (by decide) ?_
                  exact ih (j + 1, upd Og j ((((bz (off (lo + v0) + j)).toInt8.toInt32)).toInt8.toInt32)) _ _ _ ⟨⟨by show _ + (j + 1) = (off (lo + v0 + 1) - off (lo + v0)) + 1; omega, by show j + 1 ≤ off (lo + v0 + 1) - off (lo + v0); omega, zz_updlt (g := fun t => (bz (off (lo + v0) + t)).toInt8.toInt32) hO (zz_i8 _)⟩, hP, hD, hS, lv_sub hl [0, 1, 2, 3, 4] rfl⟩
              · refine lv_bipush (v := (-2)) hx hb dM_next_119 (by decide) ?_
                exact W.iret (v := ((-2))) hx hb hr (fun t ht hW => ⟨⟨_, (v, 1, os, Om), rfl, ⟨v, hj4, hj2, hj3, Or.inr ⟨by omega, hwant, Or.inl ⟨c116, rfl, rfl⟩⟩⟩, by rw [ht]; exact hP, va_K.moved hW.alike hK, hD⟩, hS.F ht⟩) hS.2.2 dM_next_121
            · exact absurd c99 (by omega)
          · refine lv_iinc (v := nI (v + 1)) (lv' := [(2, .int (nI (v + 1))), (0, .ref mM), (1, .int most)]) hx hb dM_next_73 hl (k := 0) rfl (show nI v + 1 = nI (v + 1) from nI_1 _) (by decide) rfl (fun ls hl => ?_)
            refine lv_goto (tgt := 39) hx hb dM_next_76 (by decide) ?_
            exact ih (v + 1) _ _ _ ⟨⟨by omega, by omega, by omega, fun t h1 h2 => (Nat.lt_or_ge t v).elim (fun q => hj3 t h1 q) (fun q => by rw [show t = v by omega]; exact fun h => c70 h.2)⟩, hP, hD, hS, lv_sub hl [0, 1, 2] rfl⟩
  · exact absurd c9 (by decide)
set_option maxHeartbeats 4000000 in
set_option maxRecDepth 100000 in
/-- model: out -/
theorem c_M_out (l : Launch) (dC : Nat → ClassId) (dI : Nat → Nat → Nat) (mM mX mO mT mS mB R ts os ma us ca dr de uw : Nat) (fr to : Int32) (lk : Nat) (eO : ClassId) (Om oz : Nat → Int32) (j : Int32) (hos : os ≤ 512) (hO : ∀ t, t < os → Om t = (oz t).toInt8.toInt32) (hz : Nat) : Met l yM_out wsM_out ({ frames := 0, cells := 0, slots := 0, locals := 0 }) (va_Pc [.ref mM, .int j] (fun U => U.heap.size = hz ∧ va_P (dC, dI) vwCl [(mM, .inr (2, [.int (nI 0), .int (nI R), .ref mX, .int (nI ts), .ref mO, .int (nI os), .int (nI ma), .ref mT, .ref mS, .ref mB, .int (nI us), .int (nI ca), .int (nI dr), .int (nI de), .int (nI uw), .int fr, .int to, .int (nI lk)])), (mO, .inl (eO, 512, .inl Om))] U.heap ∧ va_K (dC, dI) vwCl [(eO, .byte)] U ∧ va_D (fun _ => True) [(mM, .inr (2, [.int (nI 0), .int (nI R), .ref mX, .int (nI ts), .ref mO, .int (nI os), .int (nI ma), .ref mT, .ref mS, .ref mB, .int (nI us), .int (nI ca), .int (nI dr), .int (nI de), .int (nI uw), .int fr, .int to, .int (nI lk)])), (mO, .inl (eO, 512, .inl Om))])) (va_Qi (fun (r : Int32) (u : Unit) => r = md_out os oz j) (fun u t => va_P (dC, dI) vwCl [(mM, .inr (2, [.int (nI 0), .int (nI R), .ref mX, .int (nI ts), .ref mO, .int (nI os), .int (nI ma), .ref mT, .ref mS, .ref mB, .int (nI us), .int (nI ca), .int (nI dr), .int (nI de), .int (nI uw), .int fr, .int to, .int (nI lk)])), (mO, .inl (eO, 512, .inl Om))] t.heap ∧ va_K (dC, dI) vwCl [(eO, .byte)] t ∧ va_D (va_A [(mM, .inr (2, [.int (nI 0), .int (nI R), .ref mX, .int (nI ts), .ref mO, .int (nI os), .int (nI ma), .ref mT, .ref mS, .ref mB, .int (nI us), .int (nI ca), .int (nI dr), .int (nI de), .int (nI uw), .int fr, .int to, .int (nI lk)])), (mO, .inl (eO, 512, .inl Om))] hz) [(mM, .inr (2, [.int (nI 0), .int (nI R), .ref mX, .int (nI ts), .ref mO, .int (nI os), .int (nI ma), .ref mT, .ref mS, .ref mB, .int (nI us), .int (nI ca), .int (nI dr), .int (nI de), .int (nI uw), .int fr, .int to, .int (nI lk)])), (mO, .inl (eO, 512, .inl Om))]) (va_A [(mM, .inr (2, [.int (nI 0), .int (nI R), .ref mX, .int (nI ts), .ref mO, .int (nI os), .int (nI ma), .ref mT, .ref mS, .ref mB, .int (nI us), .int (nI ca), .int (nI dr), .int (nI de), .int (nI uw), .int fr, .int to, .int (nI lk)])), (mO, .inl (eO, 512, .inl Om))] hz)) 0 0 (va_A [(mM, .inr (2, [.int (nI 0), .int (nI R), .ref mX, .int (nI ts), .ref mO, .int (nI os), .int (nI ma), .ref mT, .ref mS, .ref mB, .int (nI us), .int (nI ca), .int (nI dr), .int (nI de), .int (nI uw), .int fr, .int to, .int (nI lk)])), (mO, .inl (eO, 512, .inl Om))] hz) := by
  refine Met.ofW (cc := cM_out) (maxL := 2) (ret := (some .int)) (by decide) rfl ?_
  intro p e s m args below meth c s₁ B hml hv
  obtain ⟨rfl, hsz, hP, hK, hD0⟩ := hv
  have hx := B.exec
  have hb := B.bytes
  have hr := B.returns
  have hts := atoms_spec (ws := wsM_out) B.pre
  have hown : s.vm.findClass RM = some m.cls := findClass_of_methodNamed B.named
  have hlocks := B.notSynchronized
  have hi_M : ∀ w ∈ u_ws RM TM 18, w ∈ wsM_out := by decide +kernel
  subst hsz
  have hD := hD0.self (sz := s.heap.size)
  generalize hAe : va_A [(mM, .inr (2, [.int (nI 0), .int (nI R), .ref mX, .int (nI ts), .ref mO, .int (nI os), .int (nI ma), .ref mT, .ref mS, .ref mB, .int (nI us), .int (nI ca), .int (nI dr), .int (nI de), .int (nI uw), .int fr, .int to, .int (nI lk)])), (mO, .inl (eO, 512, .inl Om))] s.heap.size = A at hD ⊢
  have hA : ∀ q : Nat, s.heap.size ≤ q → A q := fun q h => by rw [← hAe]; exact Or.inr h
  have hS : va_S A s.heap s.heap [] := va_S.rf
  have hP : va_P (dC, dI) vwCl [(mM, .inr (2, [.int (nI 0), .int (nI R), .ref mX, .int (nI ts), .ref mO, .int (nI os), .int (nI ma), .ref mT, .ref mS, .ref mB, .int (nI us), .int (nI ca), .int (nI dr), .int (nI de), .int (nI uw), .int fr, .int to, .int (nI lk)])), (mO, .inl (eO, 512, .inl Om))] s.heap := hP
  have hl := lv_entry ([.ref mM, .int j]) (n := 2) (Nat.le_of_ble_eq_true rfl)
  rw [lg_entry_eq]
  generalize (lg_sl ([.ref mM, .int j]) ++ List.replicate (2 - (lg_sl ([.ref mM, .int j])).length) Slot.unset).toArray = ls at hl ⊢
  have hl : lv_has ls 2 [(0, .ref mM), (1, .int j)] := hl
  refine lv_aload_n hx hb dM_out_0 rfl (lv_at hl 0 rfl) ?_
  refine lv_iconst (v := nI 0) hx hb dM_out_1 (by decide) ?_
  refine va_put (D := (dC, dI)) (ci := 2) (v := .int (nI 0)) (ty := .int) (C := RM) (T := TM) (N := 18) hx hb hts hi_M tyM tyM_ok nmM hown hK hP hD hS 0 rfl rfl 0 (by decide) (hts (.fieldLink RM 30 "PacketStoreModel" "thrown" "I") (by decide +kernel)) (fun _ h9 => h9) rfl (by decide +kernel) rfl rfl (Nat.le_of_ble_eq_true rfl) dM_out_2 (fun H locs hP hD hS => ?_)
  have hP : va_P (dC, dI) vwCl [(mM, .inr (2, [.int (nI 0), .int (nI R), .ref mX, .int (nI ts), .ref mO, .int (nI os), .int (nI ma), .ref mT, .ref mS, .ref mB, .int (nI us), .int (nI ca), .int (nI dr), .int (nI de), .int (nI uw), .int fr, .int to, .int (nI lk)])), (mO, .inl (eO, 512, .inl Om))] H := hP
  have hD : va_D A [(mM, .inr (2, [.int (nI 0), .int (nI R), .ref mX, .int (nI ts), .ref mO, .int (nI os), .int (nI ma), .ref mT, .ref mS, .ref mB, .int (nI us), .int (nI ca), .int (nI dr), .int (nI de), .int (nI uw), .int fr, .int to, .int (nI lk)])), (mO, .inl (eO, 512, .inl Om))] := hD
  refine lv_iload_n hx hb dM_out_5 rfl (lv_at hl 1 rfl) ?_
  refine lv_if_lt (tgt := 17) hx hb dM_out_6 (by decide) (fun c6 => ?_) (fun c6 => ?_)
  · refine lv_iconst (v := (-1)) hx hb dM_out_17 (by decide) ?_
    refine lv_goto (tgt := 31) hx hb dM_out_18 (by decide) ?_
    exact W.iret (v := ((-1))) hx hb hr (fun t ht hW => ⟨⟨_, (), rfl, by unfold md_out; rw [md_ix_none (fun ⟨q, h1, h2⟩ => nI_pos (n := q) (by omega) (h2 ▸ c6)) (by omega)], by rw [ht]; exact hP, va_K.moved hW.alike hK, hD⟩, hS.F ht⟩) hS.2.2 dM_out_31
  · refine lv_iload_n hx hb dM_out_9 rfl (lv_at hl 1 rfl) ?_
    refine lv_aload_n hx hb dM_out_10 rfl (lv_at hl 0 rfl) ?_
    refine va_get (D := (dC, dI)) (ci := 2) (v := .int (nI os)) (C := RM) (T := TM) (N := 18) hx hb hts hi_M hown hK hP 0 rfl rfl 5 (by decide) (hts (.fieldLink RM 71 "PacketStoreModel" "outSize" "I") (by decide +kernel)) (fun _ h9 => h9) rfl dM_out_11 ?_
    refine lv_icmp_lt (tgt := 21) hx hb dM_out_14 (by decide) (fun c14 => ?_) (fun c14 => ?_)
    · obtain ⟨g, hg, eg⟩ := (pk_ix j (show os < 2 ^ 31 by omega)).elim (fun h => absurd h c6) (fun h => h.elim (fun h => absurd c14 (Int32.not_lt.mpr h)) id)
      subst eg
      refine lv_aload_n hx hb dM_out_21 rfl (lv_at hl 0 rfl) ?_
      refine va_get (D := (dC, dI)) (ci := 2) (v := .ref mO) (C := RM) (T := TM) (N := 18) hx hb hts hi_M hown hK hP 0 rfl rfl 4 (by decide) (hts (.fieldLink RM 13 "PacketStoreModel" "out" "[B") (by decide +kernel)) (fun _ h9 => h9) rfl dM_out_22 ?_
      refine lv_iload_n hx hb dM_out_25 rfl (lv_at hl 1 rfl) ?_
      refine zz_bald hx hb hK hP 1 0 rfl rfl (j := g) (by omega) (by omega) dM_out_26 ?_
      refine lv_sipush (v := nI 255) hx hb dM_out_27 (by decide) ?_
      refine lv_iand hx hb dM_out_30 ?_
      exact W.iret (v := (((Om g)) &&& ((nI 255)))) hx hb hr (fun t ht hW => ⟨⟨_, (), rfl, by unfold md_out; rw [md_ix_some hg (by omega), hO g hg]; exact zz_255 _, by rw [ht]; exact hP, va_K.moved hW.alike hK, hD⟩, hS.F ht⟩) hS.2.2 dM_out_31
    · refine lv_iconst (v := (-1)) hx hb dM_out_17 (by decide) ?_
      refine lv_goto (tgt := 31) hx hb dM_out_18 (by decide) ?_
      exact W.iret (v := ((-1))) hx hb hr (fun t ht hW => ⟨⟨_, (), rfl, by unfold md_out; rw [md_ix_none (fun ⟨q, h1, h2⟩ => c14 (h2 ▸ nI_lt h1 (by omega))) (by omega)], by rw [ht]; exact hP, va_K.moved hW.alike hK, hD⟩, hS.F ht⟩) hS.2.2 dM_out_31
set_option maxHeartbeats 4000000 in
set_option maxRecDepth 100000 in
/-- model: count -/
theorem c_M_count (l : Launch) (dC : Nat → ClassId) (dI : Nat → Nat → Nat) (mM mX mO mT mS mB R ts os ma us ca dr de uw : Nat) (fr to : Int32) (lk : Nat) (what : Int32) (huw : uw ≤ 1) (hz : Nat) : Met l yM_count wsM_count ({ frames := 0, cells := 0, slots := 0, locals := 0 }) (va_Pc [.ref mM, .int what] (fun U => U.heap.size = hz ∧ va_P (dC, dI) vwCl [(mM, .inr (2, [.int (nI 0), .int (nI R), .ref mX, .int (nI ts), .ref mO, .int (nI os), .int (nI ma), .ref mT, .ref mS, .ref mB, .int (nI us), .int (nI ca), .int (nI dr), .int (nI de), .int (nI uw), .int fr, .int to, .int (nI lk)]))] U.heap ∧ va_K (dC, dI) vwCl [] U ∧ va_D (fun _ => True) [(mM, .inr (2, [.int (nI 0), .int (nI R), .ref mX, .int (nI ts), .ref mO, .int (nI os), .int (nI ma), .ref mT, .ref mS, .ref mB, .int (nI us), .int (nI ca), .int (nI dr), .int (nI de), .int (nI uw), .int fr, .int to, .int (nI lk)]))])) (va_Qi (fun (r : Int32) (u : Unit) => r = md_count what ma us ca dr de uw os R) (fun u t => va_P (dC, dI) vwCl [(mM, .inr (2, [.int (nI 0), .int (nI R), .ref mX, .int (nI ts), .ref mO, .int (nI os), .int (nI ma), .ref mT, .ref mS, .ref mB, .int (nI us), .int (nI ca), .int (nI dr), .int (nI de), .int (nI uw), .int fr, .int to, .int (nI lk)]))] t.heap ∧ va_K (dC, dI) vwCl [] t ∧ va_D (va_A [(mM, .inr (2, [.int (nI 0), .int (nI R), .ref mX, .int (nI ts), .ref mO, .int (nI os), .int (nI ma), .ref mT, .ref mS, .ref mB, .int (nI us), .int (nI ca), .int (nI dr), .int (nI de), .int (nI uw), .int fr, .int to, .int (nI lk)]))] hz) [(mM, .inr (2, [.int (nI 0), .int (nI R), .ref mX, .int (nI ts), .ref mO, .int (nI os), .int (nI ma), .ref mT, .ref mS, .ref mB, .int (nI us), .int (nI ca), .int (nI dr), .int (nI de), .int (nI uw), .int fr, .int to, .int (nI lk)]))]) (va_A [(mM, .inr (2, [.int (nI 0), .int (nI R), .ref mX, .int (nI ts), .ref mO, .int (nI os), .int (nI ma), .ref mT, .ref mS, .ref mB, .int (nI us), .int (nI ca), .int (nI dr), .int (nI de), .int (nI uw), .int fr, .int to, .int (nI lk)]))] hz)) 0 0 (va_A [(mM, .inr (2, [.int (nI 0), .int (nI R), .ref mX, .int (nI ts), .ref mO, .int (nI os), .int (nI ma), .ref mT, .ref mS, .ref mB, .int (nI us), .int (nI ca), .int (nI dr), .int (nI de), .int (nI uw), .int fr, .int to, .int (nI lk)]))] hz) := by
  refine Met.ofW (cc := cM_count) (maxL := 2) (ret := (some .int)) (by decide) rfl ?_
  intro p e s m args below meth c s₁ B hml hv
  obtain ⟨rfl, hsz, hP, hK, hD0⟩ := hv
  have hx := B.exec
  have hb := B.bytes
  have hr := B.returns
  have hts := atoms_spec (ws := wsM_count) B.pre
  have hown : s.vm.findClass RM = some m.cls := findClass_of_methodNamed B.named
  have hlocks := B.notSynchronized
  have hi_M : ∀ w ∈ u_ws RM TM 18, w ∈ wsM_count := by decide +kernel
  subst hsz
  have hD := hD0.self (sz := s.heap.size)
  generalize hAe : va_A [(mM, .inr (2, [.int (nI 0), .int (nI R), .ref mX, .int (nI ts), .ref mO, .int (nI os), .int (nI ma), .ref mT, .ref mS, .ref mB, .int (nI us), .int (nI ca), .int (nI dr), .int (nI de), .int (nI uw), .int fr, .int to, .int (nI lk)]))] s.heap.size = A at hD ⊢
  have hA : ∀ q : Nat, s.heap.size ≤ q → A q := fun q h => by rw [← hAe]; exact Or.inr h
  have hS : va_S A s.heap s.heap [] := va_S.rf
  have hP : va_P (dC, dI) vwCl [(mM, .inr (2, [.int (nI 0), .int (nI R), .ref mX, .int (nI ts), .ref mO, .int (nI os), .int (nI ma), .ref mT, .ref mS, .ref mB, .int (nI us), .int (nI ca), .int (nI dr), .int (nI de), .int (nI uw), .int fr, .int to, .int (nI lk)]))] s.heap := hP
  have hl := lv_entry ([.ref mM, .int what]) (n := 2) (Nat.le_of_ble_eq_true rfl)
  rw [lg_entry_eq]
  generalize (lg_sl ([.ref mM, .int what]) ++ List.replicate (2 - (lg_sl ([.ref mM, .int what])).length) Slot.unset).toArray = ls at hl ⊢
  have hl : lv_has ls 2 [(0, .ref mM), (1, .int what)] := hl
  refine lv_aload_n hx hb dM_count_0 rfl (lv_at hl 0 rfl) ?_
  refine lv_iconst (v := nI 0) hx hb dM_count_1 (by decide) ?_
  refine va_put (D := (dC, dI)) (ci := 2) (v := .int (nI 0)) (ty := .int) (C := RM) (T := TM) (N := 18) hx hb hts hi_M tyM tyM_ok nmM hown hK hP hD hS 0 rfl rfl 0 (by decide) (hts (.fieldLink RM 30 "PacketStoreModel" "thrown" "I") (by decide +kernel)) (fun _ h9 => h9) rfl (by decide +kernel) rfl rfl (Nat.le_of_ble_eq_true rfl) dM_count_2 (fun H locs hP hD hS => ?_)
  have hP : va_P (dC, dI) vwCl [(mM, .inr (2, [.int (nI 0), .int (nI R), .ref mX, .int (nI ts), .ref mO, .int (nI os), .int (nI ma), .ref mT, .ref mS, .ref mB, .int (nI us), .int (nI ca), .int (nI dr), .int (nI de), .int (nI uw), .int fr, .int to, .int (nI lk)]))] H := hP
  have hD : va_D A [(mM, .inr (2, [.int (nI 0), .int (nI R), .ref mX, .int (nI ts), .ref mO, .int (nI os), .int (nI ma), .ref mT, .ref mS, .ref mB, .int (nI us), .int (nI ca), .int (nI dr), .int (nI de), .int (nI uw), .int fr, .int to, .int (nI lk)]))] := hD
  refine lv_iload_n hx hb dM_count_5 rfl (lv_at hl 1 rfl) ?_
  rcases zz_sw what 8 (by decide) with ⟨k9, hk9, e9⟩ | h9
  · rcases (show k9 = 0 ∨ k9 = 1 ∨ k9 = 2 ∨ k9 = 3 ∨ k9 = 4 ∨ k9 = 5 ∨ k9 = 6 ∨ k9 = 7 by omega) with rfl | rfl | rfl | rfl | rfl | rfl | rfl | rfl <;> subst e9
    · refine lv_tableIn (off := 46) (tgt := 52) hx hb dM_count_6 (by decide) (by decide) (by decide) (by decide) ?_
      refine lv_aload_n hx hb dM_count_52 rfl (lv_at hl 0 rfl) ?_
      refine va_get (D := (dC, dI)) (ci := 2) (v := .int (nI ma)) (C := RM) (T := TM) (N := 18) hx hb hts hi_M hown hK hP 0 rfl rfl 6 (by decide) (hts (.fieldLink RM 36 "PacketStoreModel" "many" "I") (by decide +kernel)) (fun _ h9 => h9) rfl dM_count_53 ?_
      exact W.iret (v := (nI ma)) hx hb hr (fun t ht hW => ⟨⟨_, (), rfl, by unfold md_count; rw [if_pos rfl], by rw [ht]; exact hP, va_K.moved hW.alike hK, hD⟩, hS.F ht⟩) hS.2.2 dM_count_56
    · refine lv_tableIn (off := 51) (tgt := 57) hx hb dM_count_6 (by decide) (by decide) (by decide) (by decide) ?_
      refine lv_aload_n hx hb dM_count_57 rfl (lv_at hl 0 rfl) ?_
      refine va_get (D := (dC, dI)) (ci := 2) (v := .int (nI us)) (C := RM) (T := TM) (N := 18) hx hb hts hi_M hown hK hP 0 rfl rfl 10 (by decide) (hts (.fieldLink RM 33 "PacketStoreModel" "used" "I") (by decide +kernel)) (fun _ h9 => h9) rfl dM_count_58 ?_
      exact W.iret (v := (nI us)) hx hb hr (fun t ht hW => ⟨⟨_, (), rfl, by unfold md_count; rw [if_neg (by decide), if_pos rfl], by rw [ht]; exact hP, va_K.moved hW.alike hK, hD⟩, hS.F ht⟩) hS.2.2 dM_count_61
    · refine lv_tableIn (off := 56) (tgt := 62) hx hb dM_count_6 (by decide) (by decide) (by decide) (by decide) ?_
      refine lv_aload_n hx hb dM_count_62 rfl (lv_at hl 0 rfl) ?_
      refine va_get (D := (dC, dI)) (ci := 2) (v := .int (nI ca)) (C := RM) (T := TM) (N := 18) hx hb hts hi_M hown hK hP 0 rfl rfl 11 (by decide) (hts (.fieldLink RM 48 "PacketStoreModel" "came" "I") (by decide +kernel)) (fun _ h9 => h9) rfl dM_count_63 ?_
      exact W.iret (v := (nI ca)) hx hb hr (fun t ht hW => ⟨⟨_, (), rfl, by unfold md_count; rw [if_neg (by decide), if_neg (by decide), if_pos rfl], by rw [ht]; exact hP, va_K.moved hW.alike hK, hD⟩, hS.F ht⟩) hS.2.2 dM_count_66
    · refine lv_tableIn (off := 61) (tgt := 67) hx hb dM_count_6 (by decide) (by decide) (by decide) (by decide) ?_
      refine lv_aload_n hx hb dM_count_67 rfl (lv_at hl 0 rfl) ?_
      refine va_get (D := (dC, dI)) (ci := 2) (v := .int (nI dr)) (C := RM) (T := TM) (N := 18) hx hb hts hi_M hown hK hP 0 rfl rfl 12 (by decide) (hts (.fieldLink RM 45 "PacketStoreModel" "driven" "I") (by decide +kernel)) (fun _ h9 => h9) rfl dM_count_68 ?_
      exact W.iret (v := (nI dr)) hx hb hr (fun t ht hW => ⟨⟨_, (), rfl, by unfold md_count; rw [if_neg (by decide), if_neg (by decide), if_neg (by decide), if_pos rfl], by rw [ht]; exact hP, va_K.moved hW.alike hK, hD⟩, hS.F ht⟩) hS.2.2 dM_count_71
    · refine lv_tableIn (off := 66) (tgt := 72) hx hb dM_count_6 (by decide) (by decide) (by decide) (by decide) ?_
      refine lv_aload_n hx hb dM_count_72 rfl (lv_at hl 0 rfl) ?_
      refine va_get (D := (dC, dI)) (ci := 2) (v := .int (nI de)) (C := RM) (T := TM) (N := 18) hx hb hts hi_M hown hK hP 0 rfl rfl 13 (by decide) (hts (.fieldLink RM 51 "PacketStoreModel" "deleted" "I") (by decide +kernel)) (fun _ h9 => h9) rfl dM_count_73 ?_
      exact W.iret (v := (nI de)) hx hb hr (fun t ht hW => ⟨⟨_, (), rfl, by unfold md_count; rw [if_neg (by decide), if_neg (by decide), if_neg (by decide), if_neg (by decide), if_pos rfl], by rw [ht]; exact hP, va_K.moved hW.alike hK, hD⟩, hS.F ht⟩) hS.2.2 dM_count_76
    · refine lv_tableIn (off := 71) (tgt := 77) hx hb dM_count_6 (by decide) (by decide) (by decide) (by decide) ?_
      refine lv_aload_n hx hb dM_count_77 rfl (lv_at hl 0 rfl) ?_
      refine va_get (D := (dC, dI)) (ci := 2) (v := .int (nI uw)) (C := RM) (T := TM) (N := 18) hx hb hts hi_M hown hK hP 0 rfl rfl 14 (by decide) (hts (.fieldLink RM 54 "PacketStoreModel" "retrieves" "Z") (by decide +kernel)) (fun _ h9 => h9) rfl dM_count_78 ?_
      refine zz_if_eq (a := uw) (tgt := 88) hx hb dM_count_81 (by decide) (by omega) (fun c81 => ?_) (fun c81 => ?_)
      · refine lv_iconst (v := nI 0) hx hb dM_count_88 (by decide) ?_
        exact W.iret (v := (nI 0)) hx hb hr (fun t ht hW => ⟨⟨_, (), rfl, by unfold md_count; rw [if_neg (by decide), if_neg (by decide), if_neg (by decide), if_neg (by decide), if_neg (by decide), if_pos rfl, c81], by rw [ht]; exact hP, va_K.moved hW.alike hK, hD⟩, hS.F ht⟩) hS.2.2 dM_count_89
      · refine lv_iconst (v := nI 1) hx hb dM_count_84 (by decide) ?_
        refine lv_goto (tgt := 89) hx hb dM_count_85 (by decide) ?_
        exact W.iret (v := (nI 1)) hx hb hr (fun t ht hW => ⟨⟨_, (), rfl, by unfold md_count; rw [if_neg (by decide), if_neg (by decide), if_neg (by decide), if_neg (by decide), if_neg (by decide), if_pos rfl, show uw = 1 by omega], by rw [ht]; exact hP, va_K.moved hW.alike hK, hD⟩, hS.F ht⟩) hS.2.2 dM_count_89
    · refine lv_tableIn (off := 84) (tgt := 90) hx hb dM_count_6 (by decide) (by decide) (by decide) (by decide) ?_
      refine lv_aload_n hx hb dM_count_90 rfl (lv_at hl 0 rfl) ?_
      refine va_get (D := (dC, dI)) (ci := 2) (v := .int (nI os)) (C := RM) (T := TM) (N := 18) hx hb hts hi_M hown hK hP 0 rfl rfl 5 (by decide) (hts (.fieldLink RM 71 "PacketStoreModel" "outSize" "I") (by decide +kernel)) (fun _ h9 => h9) rfl dM_count_91 ?_
      exact W.iret (v := (nI os)) hx hb hr (fun t ht hW => ⟨⟨_, (), rfl, by unfold md_count; rw [if_neg (by decide), if_neg (by decide), if_neg (by decide), if_neg (by decide), if_neg (by decide), if_neg (by decide), if_pos rfl], by rw [ht]; exact hP, va_K.moved hW.alike hK, hD⟩, hS.F ht⟩) hS.2.2 dM_count_94
    · refine lv_tableIn (off := 89) (tgt := 95) hx hb dM_count_6 (by decide) (by decide) (by decide) (by decide) ?_
      refine lv_aload_n hx hb dM_count_95 rfl (lv_at hl 0 rfl) ?_
      refine va_get (D := (dC, dI)) (ci := 2) (v := .int (nI R)) (C := RM) (T := TM) (N := 18) hx hb hts hi_M hown hK hP 0 rfl rfl 1 (by decide) (hts (.fieldLink RM 26 "PacketStoreModel" "room" "I") (by decide +kernel)) (fun _ h9 => h9) rfl dM_count_96 ?_
      exact W.iret (v := (nI R)) hx hb hr (fun t ht hW => ⟨⟨_, (), rfl, by unfold md_count; rw [if_neg (by decide), if_neg (by decide), if_neg (by decide), if_neg (by decide), if_neg (by decide), if_neg (by decide), if_neg (by decide), if_pos rfl], by rw [ht]; exact hP, va_K.moved hW.alike hK, hD⟩, hS.F ht⟩) hS.2.2 dM_count_99
  · refine lv_tableOut (tgt := 100) hx hb dM_count_6 (h9.elim Or.inl (fun h => Or.inr (by omega))) (by decide) ?_
    refine lv_iconst (v := (-1)) hx hb dM_count_100 (by decide) ?_
    exact W.iret (v := ((-1))) hx hb hr (fun t ht hW => ⟨⟨_, (), rfl, by unfold md_count; rw [if_neg (zz_swne h9 (k := 0) (by decide) (by decide)), if_neg (zz_swne h9 (k := 1) (by decide) (by decide)), if_neg (zz_swne h9 (k := 2) (by decide) (by decide)), if_neg (zz_swne h9 (k := 3) (by decide) (by decide)), if_neg (zz_swne h9 (k := 4) (by decide) (by decide)), if_neg (zz_swne h9 (k := 5) (by decide) (by decide)), if_neg (zz_swne h9 (k := 6) (by decide) (by decide)), if_neg (zz_swne h9 (k := 7) (by decide) (by decide))], by rw [ht]; exact hP, va_K.moved hW.alike hK, hD⟩, hS.F ht⟩) hS.2.2 dM_count_101
set_option maxHeartbeats 4000000 in
set_option maxRecDepth 100000 in
/-- model: about -/
theorem c_M_about (l : Launch) (dC : Nat → ClassId) (dI : Nat → Nat → Nat) (mM mX mO mT mS mB R lo hi : Nat) (off : Nat → Nat) (ts os dr de uw : Nat) (fr to : Int32) (pa : Nat) (eT eS eB : ClassId) (Tm Sm Bm tm bz : Nat → Int32) (k what : Int32) (hok : rg_ok R lo hi off) (hrm : rm_rep lo hi off tm bz Bm Sm Tm) (hz : Nat) : Met l yM_about wsM_about ({ frames := 0, cells := 0, slots := 0, locals := 0 }) (va_Pc [.ref mM, .int k, .int what] (fun U => U.heap.size = hz ∧ va_P (dC, dI) vwCl [(mM, .inr (2, [.int (nI 0), .int (nI R), .ref mX, .int (nI ts), .ref mO, .int (nI os), .int (nI (hi - lo)), .ref mT, .ref mS, .ref mB, .int (nI (off hi - off lo)), .int (nI hi), .int (nI dr), .int (nI de), .int (nI uw), .int fr, .int to, .int (nI pa)])), (mT, .inl (eT, 16384, .inl Tm)), (mS, .inl (eS, 16384, .inl Sm))] U.heap ∧ va_K (dC, dI) vwCl [(eT, .int), (eS, .int)] U ∧ va_D (fun _ => True) [(mM, .inr (2, [.int (nI 0), .int (nI R), .ref mX, .int (nI ts), .ref mO, .int (nI os), .int (nI (hi - lo)), .ref mT, .ref mS, .ref mB, .int (nI (off hi - off lo)), .int (nI hi), .int (nI dr), .int (nI de), .int (nI uw), .int fr, .int to, .int (nI pa)])), (mT, .inl (eT, 16384, .inl Tm)), (mS, .inl (eS, 16384, .inl Sm))])) (va_Qi (fun (r : Int32) (u : Unit) => r = md_about (hi - lo) (fun j => tm (lo + j)) (fun j => off (lo + j + 1) - off (lo + j)) k what) (fun u t => va_P (dC, dI) vwCl [(mM, .inr (2, [.int (nI 0), .int (nI R), .ref mX, .int (nI ts), .ref mO, .int (nI os), .int (nI (hi - lo)), .ref mT, .ref mS, .ref mB, .int (nI (off hi - off lo)), .int (nI hi), .int (nI dr), .int (nI de), .int (nI uw), .int fr, .int to, .int (nI pa)])), (mT, .inl (eT, 16384, .inl Tm)), (mS, .inl (eS, 16384, .inl Sm))] t.heap ∧ va_K (dC, dI) vwCl [(eT, .int), (eS, .int)] t ∧ va_D (va_A [(mM, .inr (2, [.int (nI 0), .int (nI R), .ref mX, .int (nI ts), .ref mO, .int (nI os), .int (nI (hi - lo)), .ref mT, .ref mS, .ref mB, .int (nI (off hi - off lo)), .int (nI hi), .int (nI dr), .int (nI de), .int (nI uw), .int fr, .int to, .int (nI pa)])), (mT, .inl (eT, 16384, .inl Tm)), (mS, .inl (eS, 16384, .inl Sm))] hz) [(mM, .inr (2, [.int (nI 0), .int (nI R), .ref mX, .int (nI ts), .ref mO, .int (nI os), .int (nI (hi - lo)), .ref mT, .ref mS, .ref mB, .int (nI (off hi - off lo)), .int (nI hi), .int (nI dr), .int (nI de), .int (nI uw), .int fr, .int to, .int (nI pa)])), (mT, .inl (eT, 16384, .inl Tm)), (mS, .inl (eS, 16384, .inl Sm))]) (va_A [(mM, .inr (2, [.int (nI 0), .int (nI R), .ref mX, .int (nI ts), .ref mO, .int (nI os), .int (nI (hi - lo)), .ref mT, .ref mS, .ref mB, .int (nI (off hi - off lo)), .int (nI hi), .int (nI dr), .int (nI de), .int (nI uw), .int fr, .int to, .int (nI pa)])), (mT, .inl (eT, 16384, .inl Tm)), (mS, .inl (eS, 16384, .inl Sm))] hz)) 0 0 (va_A [(mM, .inr (2, [.int (nI 0), .int (nI R), .ref mX, .int (nI ts), .ref mO, .int (nI os), .int (nI (hi - lo)), .ref mT, .ref mS, .ref mB, .int (nI (off hi - off lo)), .int (nI hi), .int (nI dr), .int (nI de), .int (nI uw), .int fr, .int to, .int (nI pa)])), (mT, .inl (eT, 16384, .inl Tm)), (mS, .inl (eS, 16384, .inl Sm))] hz) := by
  refine Met.ofW (cc := cM_about) (maxL := 3) (ret := (some .int)) (by decide) rfl ?_
  intro p e s m args below meth c s₁ B hml hv
  obtain ⟨rfl, hsz, hP, hK, hD0⟩ := hv
  have hx := B.exec
  have hb := B.bytes
  have hr := B.returns
  have hts := atoms_spec (ws := wsM_about) B.pre
  have hown : s.vm.findClass RM = some m.cls := findClass_of_methodNamed B.named
  have hlocks := B.notSynchronized
  have hi_M : ∀ w ∈ u_ws RM TM 18, w ∈ wsM_about := by decide +kernel
  subst hsz
  have hD := hD0.self (sz := s.heap.size)
  generalize hAe : va_A [(mM, .inr (2, [.int (nI 0), .int (nI R), .ref mX, .int (nI ts), .ref mO, .int (nI os), .int (nI (hi - lo)), .ref mT, .ref mS, .ref mB, .int (nI (off hi - off lo)), .int (nI hi), .int (nI dr), .int (nI de), .int (nI uw), .int fr, .int to, .int (nI pa)])), (mT, .inl (eT, 16384, .inl Tm)), (mS, .inl (eS, 16384, .inl Sm))] s.heap.size = A at hD ⊢
  have hA : ∀ q : Nat, s.heap.size ≤ q → A q := fun q h => by rw [← hAe]; exact Or.inr h
  have hS : va_S A s.heap s.heap [] := va_S.rf
  have hP : va_P (dC, dI) vwCl [(mM, .inr (2, [.int (nI 0), .int (nI R), .ref mX, .int (nI ts), .ref mO, .int (nI os), .int (nI (hi - lo)), .ref mT, .ref mS, .ref mB, .int (nI (off hi - off lo)), .int (nI hi), .int (nI dr), .int (nI de), .int (nI uw), .int fr, .int to, .int (nI pa)])), (mT, .inl (eT, 16384, .inl Tm)), (mS, .inl (eS, 16384, .inl Sm))] s.heap := hP
  have hl := lv_entry ([.ref mM, .int k, .int what]) (n := 3) (Nat.le_of_ble_eq_true rfl)
  rw [lg_entry_eq]
  generalize (lg_sl ([.ref mM, .int k, .int what]) ++ List.replicate (3 - (lg_sl ([.ref mM, .int k, .int what])).length) Slot.unset).toArray = ls at hl ⊢
  have hl : lv_has ls 3 [(0, .ref mM), (1, .int k), (2, .int what)] := hl
  have hRR := hok.1
  have hll := hok.2.1
  have hcap := hok.2.2.1
  have hgap := hok.gap (Nat.le_refl lo) hll (Nat.le_refl hi)
  refine lv_aload_n hx hb dM_about_0 rfl (lv_at hl 0 rfl) ?_
  refine lv_iconst (v := nI 0) hx hb dM_about_1 (by decide) ?_
  refine va_put (D := (dC, dI)) (ci := 2) (v := .int (nI 0)) (ty := .int) (C := RM) (T := TM) (N := 18) hx hb hts hi_M tyM tyM_ok nmM hown hK hP hD hS 0 rfl rfl 0 (by decide) (hts (.fieldLink RM 30 "PacketStoreModel" "thrown" "I") (by decide +kernel)) (fun _ h9 => h9) rfl (by decide +kernel) rfl rfl (Nat.le_of_ble_eq_true rfl) dM_about_2 (fun H locs hP hD hS => ?_)
  have hP : va_P (dC, dI) vwCl [(mM, .inr (2, [.int (nI 0), .int (nI R), .ref mX, .int (nI ts), .ref mO, .int (nI os), .int (nI (hi - lo)), .ref mT, .ref mS, .ref mB, .int (nI (off hi - off lo)), .int (nI hi), .int (nI dr), .int (nI de), .int (nI uw), .int fr, .int to, .int (nI pa)])), (mT, .inl (eT, 16384, .inl Tm)), (mS, .inl (eS, 16384, .inl Sm))] H := hP
  have hD : va_D A [(mM, .inr (2, [.int (nI 0), .int (nI R), .ref mX, .int (nI ts), .ref mO, .int (nI os), .int (nI (hi - lo)), .ref mT, .ref mS, .ref mB, .int (nI (off hi - off lo)), .int (nI hi), .int (nI dr), .int (nI de), .int (nI uw), .int fr, .int to, .int (nI pa)])), (mT, .inl (eT, 16384, .inl Tm)), (mS, .inl (eS, 16384, .inl Sm))] := hD
  refine lv_iload_n hx hb dM_about_5 rfl (lv_at hl 1 rfl) ?_
  refine lv_if_lt (tgt := 17) hx hb dM_about_6 (by decide) (fun c6 => ?_) (fun c6 => ?_)
  · refine lv_iconst (v := (-1)) hx hb dM_about_17 (by decide) ?_
    refine lv_goto (tgt := 49) hx hb dM_about_18 (by decide) ?_
    exact W.iret (v := ((-1))) hx hb hr (fun t ht hW => ⟨⟨_, (), rfl, by unfold md_about; rw [md_ix_none (fun ⟨q, h1, h2⟩ => nI_pos (n := q) (by omega) (h2 ▸ c6)) (by omega)], by rw [ht]; exact hP, va_K.moved hW.alike hK, hD⟩, hS.F ht⟩) hS.2.2 dM_about_49
  · refine lv_iload_n hx hb dM_about_9 rfl (lv_at hl 1 rfl) ?_
    refine lv_aload_n hx hb dM_about_10 rfl (lv_at hl 0 rfl) ?_
    refine va_get (D := (dC, dI)) (ci := 2) (v := .int (nI (hi - lo))) (C := RM) (T := TM) (N := 18) hx hb hts hi_M hown hK hP 0 rfl rfl 6 (by decide) (hts (.fieldLink RM 36 "PacketStoreModel" "many" "I") (by decide +kernel)) (fun _ h9 => h9) rfl dM_about_11 ?_
    refine lv_icmp_lt (tgt := 21) hx hb dM_about_14 (by decide) (fun c14 => ?_) (fun c14 => ?_)
    · obtain ⟨i, hi9, ei⟩ := (pk_ix k (show hi - lo < 2 ^ 31 by omega)).elim (fun h => absurd h c6) (fun h => h.elim (fun h => absurd c14 (Int32.not_lt.mpr h)) id)
      subst ei
      refine lv_iload_n hx hb dM_about_21 rfl (lv_at hl 2 rfl) ?_
      refine lv_if_ne (tgt := 34) hx hb dM_about_22 (by decide) (fun c22 => ?_) (fun c22 => ?_)
      · refine lv_iload_n hx hb dM_about_34 rfl (lv_at hl 2 rfl) ?_
        refine lv_iconst (v := nI 1) hx hb dM_about_35 (by decide) ?_
        refine lv_icmp_ne (tgt := 48) hx hb dM_about_36 (by decide) (fun c36 => ?_) (fun c36 => ?_)
        · refine lv_iconst (v := (-1)) hx hb dM_about_48 (by decide) ?_
          exact W.iret (v := ((-1))) hx hb hr (fun t ht hW => ⟨⟨_, (), rfl, by unfold md_about; rw [md_ix_some hi9 (by omega)]; exact ((if_neg c22).trans (if_neg c36)).symm, by rw [ht]; exact hP, va_K.moved hW.alike hK, hD⟩, hS.F ht⟩) hS.2.2 dM_about_49
        · refine lv_aload_n hx hb dM_about_39 rfl (lv_at hl 0 rfl) ?_
          refine va_get (D := (dC, dI)) (ci := 2) (v := .ref mS) (C := RM) (T := TM) (N := 18) hx hb hts hi_M hown hK hP 0 rfl rfl 8 (by decide) (hts (.fieldLink RM 20 "PacketStoreModel" "size" "[I") (by decide +kernel)) (fun _ h9 => h9) rfl dM_about_40 ?_
          refine lv_iload_n hx hb dM_about_43 rfl (lv_at hl 1 rfl) ?_
          refine zz_iald hx hb hK hP 2 1 rfl rfl (j := i) (by omega) (by omega) dM_about_44 ?_
          refine lv_goto (tgt := 49) hx hb dM_about_45 (by decide) ?_
          exact W.iret (v := (Sm i)) hx hb hr (fun t ht hW => ⟨⟨_, (), rfl, by unfold md_about; rw [md_ix_some hi9 (by omega)]; exact (hrm.2.1 i hi9).trans ((if_neg c22).trans (if_pos c36)).symm, by rw [ht]; exact hP, va_K.moved hW.alike hK, hD⟩, hS.F ht⟩) hS.2.2 dM_about_49
      · refine lv_aload_n hx hb dM_about_25 rfl (lv_at hl 0 rfl) ?_
        refine va_get (D := (dC, dI)) (ci := 2) (v := .ref mT) (C := RM) (T := TM) (N := 18) hx hb hts hi_M hown hK hP 0 rfl rfl 7 (by decide) (hts (.fieldLink RM 16 "PacketStoreModel" "time" "[I") (by decide +kernel)) (fun _ h9 => h9) rfl dM_about_26 ?_
        refine lv_iload_n hx hb dM_about_29 rfl (lv_at hl 1 rfl) ?_
        refine zz_iald hx hb hK hP 1 0 rfl rfl (j := i) (by omega) (by omega) dM_about_30 ?_
        refine lv_goto (tgt := 49) hx hb dM_about_31 (by decide) ?_
        exact W.iret (v := (Tm i)) hx hb hr (fun t ht hW => ⟨⟨_, (), rfl, by unfold md_about; rw [md_ix_some hi9 (by omega)]; exact (hrm.1 i hi9).trans (if_pos c22).symm, by rw [ht]; exact hP, va_K.moved hW.alike hK, hD⟩, hS.F ht⟩) hS.2.2 dM_about_49
    · refine lv_iconst (v := (-1)) hx hb dM_about_17 (by decide) ?_
      refine lv_goto (tgt := 49) hx hb dM_about_18 (by decide) ?_
      exact W.iret (v := ((-1))) hx hb hr (fun t ht hW => ⟨⟨_, (), rfl, by unfold md_about; rw [md_ix_none (fun ⟨q, h1, h2⟩ => c14 (h2 ▸ nI_lt h1 (by omega))) (by omega)], by rw [ht]; exact hP, va_K.moved hW.alike hK, hD⟩, hS.F ht⟩) hS.2.2 dM_about_49
set_option maxHeartbeats 4000000 in
set_option maxRecDepth 100000 in
/-- model: byteAt -/
theorem c_M_byteAt (l : Launch) (dC : Nat → ClassId) (dI : Nat → Nat → Nat) (mM mX mO mT mS mB R lo hi : Nat) (off : Nat → Nat) (ts os dr de uw : Nat) (fr to : Int32) (pa : Nat) (eS eB : ClassId) (Tm Sm Bm tm bz : Nat → Int32) (k j : Int32) (hok : rg_ok R lo hi off) (hrm : rm_rep lo hi off tm bz Bm Sm Tm) (hz : Nat) : Met l yM_byteAt wsM_byteAt ({ frames := 1, cells := 0, slots := 0, locals := 23 }) (va_Pc [.ref mM, .int k, .int j] (fun U => U.heap.size = hz ∧ va_P (dC, dI) vwCl [(mM, .inr (2, [.int (nI 0), .int (nI R), .ref mX, .int (nI ts), .ref mO, .int (nI os), .int (nI (hi - lo)), .ref mT, .ref mS, .ref mB, .int (nI (off hi - off lo)), .int (nI hi), .int (nI dr), .int (nI de), .int (nI uw), .int fr, .int to, .int (nI pa)])), (mS, .inl (eS, 16384, .inl Sm)), (mB, .inl (eB, 16384, .inl Bm))] U.heap ∧ va_K (dC, dI) vwCl [(eS, .int), (eB, .byte)] U ∧ va_D (fun _ => True) [(mM, .inr (2, [.int (nI 0), .int (nI R), .ref mX, .int (nI ts), .ref mO, .int (nI os), .int (nI (hi - lo)), .ref mT, .ref mS, .ref mB, .int (nI (off hi - off lo)), .int (nI hi), .int (nI dr), .int (nI de), .int (nI uw), .int fr, .int to, .int (nI pa)])), (mS, .inl (eS, 16384, .inl Sm)), (mB, .inl (eB, 16384, .inl Bm))])) (va_Qi (fun (r : Int32) (u : Unit) => r = md_byteAt (hi - lo) (fun q => off (lo + q + 1) - off (lo + q)) (fun q t => bz (off (lo + q) + t)) k j) (fun u t => va_P (dC, dI) vwCl [(mM, .inr (2, [.int (nI 0), .int (nI R), .ref mX, .int (nI ts), .ref mO, .int (nI os), .int (nI (hi - lo)), .ref mT, .ref mS, .ref mB, .int (nI (off hi - off lo)), .int (nI hi), .int (nI dr), .int (nI de), .int (nI uw), .int fr, .int to, .int (nI pa)])), (mS, .inl (eS, 16384, .inl Sm)), (mB, .inl (eB, 16384, .inl Bm))] t.heap ∧ va_K (dC, dI) vwCl [(eS, .int), (eB, .byte)] t ∧ va_D (va_A [(mM, .inr (2, [.int (nI 0), .int (nI R), .ref mX, .int (nI ts), .ref mO, .int (nI os), .int (nI (hi - lo)), .ref mT, .ref mS, .ref mB, .int (nI (off hi - off lo)), .int (nI hi), .int (nI dr), .int (nI de), .int (nI uw), .int fr, .int to, .int (nI pa)])), (mS, .inl (eS, 16384, .inl Sm)), (mB, .inl (eB, 16384, .inl Bm))] hz) [(mM, .inr (2, [.int (nI 0), .int (nI R), .ref mX, .int (nI ts), .ref mO, .int (nI os), .int (nI (hi - lo)), .ref mT, .ref mS, .ref mB, .int (nI (off hi - off lo)), .int (nI hi), .int (nI dr), .int (nI de), .int (nI uw), .int fr, .int to, .int (nI pa)])), (mS, .inl (eS, 16384, .inl Sm)), (mB, .inl (eB, 16384, .inl Bm))]) (va_A [(mM, .inr (2, [.int (nI 0), .int (nI R), .ref mX, .int (nI ts), .ref mO, .int (nI os), .int (nI (hi - lo)), .ref mT, .ref mS, .ref mB, .int (nI (off hi - off lo)), .int (nI hi), .int (nI dr), .int (nI de), .int (nI uw), .int fr, .int to, .int (nI pa)])), (mS, .inl (eS, 16384, .inl Sm)), (mB, .inl (eB, 16384, .inl Bm))] hz)) 0 0 (va_A [(mM, .inr (2, [.int (nI 0), .int (nI R), .ref mX, .int (nI ts), .ref mO, .int (nI os), .int (nI (hi - lo)), .ref mT, .ref mS, .ref mB, .int (nI (off hi - off lo)), .int (nI hi), .int (nI dr), .int (nI de), .int (nI uw), .int fr, .int to, .int (nI pa)])), (mS, .inl (eS, 16384, .inl Sm)), (mB, .inl (eB, 16384, .inl Bm))] hz) := by
  refine Met.ofW (cc := cM_byteAt) (maxL := 3) (ret := (some .int)) (by decide) rfl ?_
  intro p e s m args below meth c s₁ B hml hv
  obtain ⟨rfl, hsz, hP, hK, hD0⟩ := hv
  have hx := B.exec
  have hb := B.bytes
  have hr := B.returns
  have hts := atoms_spec (ws := wsM_byteAt) B.pre
  have hown : s.vm.findClass RM = some m.cls := findClass_of_methodNamed B.named
  have hlocks := B.notSynchronized
  have hi_M : ∀ w ∈ u_ws RM TM 18, w ∈ wsM_byteAt := by decide +kernel
  subst hsz
  have hD := hD0.self (sz := s.heap.size)
  generalize hAe : va_A [(mM, .inr (2, [.int (nI 0), .int (nI R), .ref mX, .int (nI ts), .ref mO, .int (nI os), .int (nI (hi - lo)), .ref mT, .ref mS, .ref mB, .int (nI (off hi - off lo)), .int (nI hi), .int (nI dr), .int (nI de), .int (nI uw), .int fr, .int to, .int (nI pa)])), (mS, .inl (eS, 16384, .inl Sm)), (mB, .inl (eB, 16384, .inl Bm))] s.heap.size = A at hD ⊢
  have hA : ∀ q : Nat, s.heap.size ≤ q → A q := fun q h => by rw [← hAe]; exact Or.inr h
  have hS : va_S A s.heap s.heap [] := va_S.rf
  have hP : va_P (dC, dI) vwCl [(mM, .inr (2, [.int (nI 0), .int (nI R), .ref mX, .int (nI ts), .ref mO, .int (nI os), .int (nI (hi - lo)), .ref mT, .ref mS, .ref mB, .int (nI (off hi - off lo)), .int (nI hi), .int (nI dr), .int (nI de), .int (nI uw), .int fr, .int to, .int (nI pa)])), (mS, .inl (eS, 16384, .inl Sm)), (mB, .inl (eB, 16384, .inl Bm))] s.heap := hP
  have hl := lv_entry ([.ref mM, .int k, .int j]) (n := 3) (Nat.le_of_ble_eq_true rfl)
  rw [lg_entry_eq]
  generalize (lg_sl ([.ref mM, .int k, .int j]) ++ List.replicate (3 - (lg_sl ([.ref mM, .int k, .int j])).length) Slot.unset).toArray = ls at hl ⊢
  have hl : lv_has ls 3 [(0, .ref mM), (1, .int k), (2, .int j)] := hl
  have hRR := hok.1
  have hll := hok.2.1
  have hcap := hok.2.2.1
  have hgap := hok.gap (Nat.le_refl lo) hll (Nat.le_refl hi)
  refine lv_aload_n hx hb dM_byteAt_0 rfl (lv_at hl 0 rfl) ?_
  refine lv_iconst (v := nI 0) hx hb dM_byteAt_1 (by decide) ?_
  refine va_put (D := (dC, dI)) (ci := 2) (v := .int (nI 0)) (ty := .int) (C := RM) (T := TM) (N := 18) hx hb hts hi_M tyM tyM_ok nmM hown hK hP hD hS 0 rfl rfl 0 (by decide) (hts (.fieldLink RM 30 "PacketStoreModel" "thrown" "I") (by decide +kernel)) (fun _ h9 => h9) rfl (by decide +kernel) rfl rfl (Nat.le_of_ble_eq_true rfl) dM_byteAt_2 (fun H locs hP hD hS => ?_)
  have hP : va_P (dC, dI) vwCl [(mM, .inr (2, [.int (nI 0), .int (nI R), .ref mX, .int (nI ts), .ref mO, .int (nI os), .int (nI (hi - lo)), .ref mT, .ref mS, .ref mB, .int (nI (off hi - off lo)), .int (nI hi), .int (nI dr), .int (nI de), .int (nI uw), .int fr, .int to, .int (nI pa)])), (mS, .inl (eS, 16384, .inl Sm)), (mB, .inl (eB, 16384, .inl Bm))] H := hP
  have hD : va_D A [(mM, .inr (2, [.int (nI 0), .int (nI R), .ref mX, .int (nI ts), .ref mO, .int (nI os), .int (nI (hi - lo)), .ref mT, .ref mS, .ref mB, .int (nI (off hi - off lo)), .int (nI hi), .int (nI dr), .int (nI de), .int (nI uw), .int fr, .int to, .int (nI pa)])), (mS, .inl (eS, 16384, .inl Sm)), (mB, .inl (eB, 16384, .inl Bm))] := hD
  refine lv_iload_n hx hb dM_byteAt_5 rfl (lv_at hl 1 rfl) ?_
  refine lv_if_lt (tgt := 31) hx hb dM_byteAt_6 (by decide) (fun c6 => ?_) (fun c6 => ?_)
  · refine lv_iconst (v := (-1)) hx hb dM_byteAt_31 (by decide) ?_
    refine lv_goto (tgt := 51) hx hb dM_byteAt_32 (by decide) ?_
    exact W.iret (v := ((-1))) hx hb hr (fun t ht hW => ⟨⟨_, (), rfl, by unfold md_byteAt; rw [md_ix_none (fun ⟨q, h1, h2⟩ => nI_pos (n := q) (by omega) (h2 ▸ c6)) (by omega)], by rw [ht]; exact hP, va_K.moved hW.alike hK, hD⟩, hS.F ht⟩) hS.2.2 dM_byteAt_51
  · refine lv_iload_n hx hb dM_byteAt_9 rfl (lv_at hl 1 rfl) ?_
    refine lv_aload_n hx hb dM_byteAt_10 rfl (lv_at hl 0 rfl) ?_
    refine va_get (D := (dC, dI)) (ci := 2) (v := .int (nI (hi - lo))) (C := RM) (T := TM) (N := 18) hx hb hts hi_M hown hK hP 0 rfl rfl 6 (by decide) (hts (.fieldLink RM 36 "PacketStoreModel" "many" "I") (by decide +kernel)) (fun _ h9 => h9) rfl dM_byteAt_11 ?_
    refine lv_icmp_ge (tgt := 31) hx hb dM_byteAt_14 (by decide) (fun c14 => ?_) (fun c14 => ?_)
    · refine lv_iconst (v := (-1)) hx hb dM_byteAt_31 (by decide) ?_
      refine lv_goto (tgt := 51) hx hb dM_byteAt_32 (by decide) ?_
      exact W.iret (v := ((-1))) hx hb hr (fun t ht hW => ⟨⟨_, (), rfl, by unfold md_byteAt; rw [md_ix_none (fun ⟨q, h1, h2⟩ => nI_ge h1 (by omega) (h2 ▸ c14)) (by omega)], by rw [ht]; exact hP, va_K.moved hW.alike hK, hD⟩, hS.F ht⟩) hS.2.2 dM_byteAt_51
    · obtain ⟨i, hi9, ei⟩ := (pk_ix k (show hi - lo < 2 ^ 31 by omega)).elim (fun h => absurd h c6) (fun h => h.elim (fun h => absurd h c14) id)
      subst ei
      have hk1 : off (lo + i) < off (lo + i + 1) := hok.2.2.2 (lo + i) (by omega) (by omega)
      have hk2 : off lo + (lo + i - lo) ≤ off (lo + i) := hok.gap (Nat.le_refl lo) (by omega) (by omega)
      have hk3 : off (lo + i + 1) + (hi - (lo + i + 1)) ≤ off hi := hok.gap (by omega) (by omega) (Nat.le_refl hi)
      refine lv_iload_n hx hb dM_byteAt_17 rfl (lv_at hl 2 rfl) ?_
      refine lv_if_lt (tgt := 31) hx hb dM_byteAt_18 (by decide) (fun c18 => ?_) (fun c18 => ?_)
      · refine lv_iconst (v := (-1)) hx hb dM_byteAt_31 (by decide) ?_
        refine lv_goto (tgt := 51) hx hb dM_byteAt_32 (by decide) ?_
        exact W.iret (v := ((-1))) hx hb hr (fun t ht hW => ⟨⟨_, (), rfl, by unfold md_byteAt; rw [md_ix_some hi9 (by omega)]; show _ = match md_ix (off (lo + i + 1) - off (lo + i)) j with | none => (-1 : Int32) | some t => bz (off (lo + i) + t) &&& 255; rw [md_ix_none (fun ⟨q, h1, h2⟩ => nI_pos (n := q) (by omega) (h2 ▸ c18)) (by omega)], by rw [ht]; exact hP, va_K.moved hW.alike hK, hD⟩, hS.F ht⟩) hS.2.2 dM_byteAt_51
      · refine lv_iload_n hx hb dM_byteAt_21 rfl (lv_at hl 2 rfl) ?_
        refine lv_aload_n hx hb dM_byteAt_22 rfl (lv_at hl 0 rfl) ?_
        refine va_get (D := (dC, dI)) (ci := 2) (v := .ref mS) (C := RM) (T := TM) (N := 18) hx hb hts hi_M hown hK hP 0 rfl rfl 8 (by decide) (hts (.fieldLink RM 20 "PacketStoreModel" "size" "[I") (by decide +kernel)) (fun _ h9 => h9) rfl dM_byteAt_23 ?_
        refine lv_iload_n hx hb dM_byteAt_26 rfl (lv_at hl 1 rfl) ?_
        refine zz_iald hx hb hK hP 1 0 rfl rfl (j := i) (by omega) (by omega) dM_byteAt_27 ?_
        refine zz_as (nI (off (lo + i + 1) - off (lo + i))) (hrm.2.1 i hi9) ?_
        refine lv_icmp_lt (tgt := 35) hx hb dM_byteAt_28 (by decide) (fun c28 => ?_) (fun c28 => ?_)
        · obtain ⟨g, hg, eg⟩ := (pk_ix j (show off (lo + i + 1) - off (lo + i) < 2 ^ 31 by omega)).elim (fun h => absurd h c18) (fun h => h.elim (fun h => absurd c28 (Int32.not_lt.mpr h)) id)
          subst eg
          refine lv_aload_n hx hb dM_byteAt_35 rfl (lv_at hl 0 rfl) ?_
          refine va_get (D := (dC, dI)) (ci := 2) (v := .ref mB) (C := RM) (T := TM) (N := 18) hx hb hts hi_M hown hK hP 0 rfl rfl 9 (by decide) (hts (.fieldLink RM 23 "PacketStoreModel" "bytes" "[B") (by decide +kernel)) (fun _ h9 => h9) rfl dM_byteAt_36 ?_
          refine lv_aload_n hx hb dM_byteAt_39 rfl (lv_at hl 0 rfl) ?_
          refine lv_iload_n hx hb dM_byteAt_40 rfl (lv_at hl 1 rfl) ?_
          refine zz_callR (As := [.int (nI i)]) (rest := [.ref mB]) ⟨hx, hb, hml, hown, hts⟩ (c_M_start l dC dI mM mX mO mT mS mB R lo hi off ts os dr de uw fr to pa eS Sm i hok hrm.2.1 (by omega)) (cwV 1 hts gM_byteAt_start rfl rfl rfl (by decide +kernel) ⟨Nat.le_of_ble_eq_true rfl, Nat.le_of_ble_eq_true rfl⟩) (hP.sub [0, 1] rfl) (hK.sub [0] rfl) 0 rfl rfl rfl rfl hl.1 rfl (Nat.le_of_ble_eq_true rfl) dM_byteAt_41 ⟨Nat.zero_le _, Nat.zero_le _⟩ (fun r41 e41 => ?_)
          subst e41
          refine lv_iload_n hx hb dM_byteAt_44 rfl (lv_at hl 2 rfl) ?_
          refine lv_iadd hx hb dM_byteAt_45 ?_
          refine zz_as (nI ((off (lo + i) - off lo) + g)) (nI_add _ _) ?_
          refine zz_bald hx hb hK hP 2 1 rfl rfl (j := (off (lo + i) - off lo) + g) (by omega) (by omega) dM_byteAt_46 ?_
          refine zz_as ((bz (off (lo + i) + g)).toInt8.toInt32) (by rw [hrm.2.2 _ (by omega), show off lo + (off (lo + i) - off lo + g) = off (lo + i) + g by omega]) ?_
          refine lv_sipush (v := nI 255) hx hb dM_byteAt_47 (by decide) ?_
          refine lv_iand hx hb dM_byteAt_50 ?_
          exact W.iret (v := ((((bz (off (lo + i) + g)).toInt8.toInt32)) &&& ((nI 255)))) hx hb hr (fun t ht hW => ⟨⟨_, (), rfl, by unfold md_byteAt; rw [md_ix_some hi9 (by omega)]; show _ = match md_ix (off (lo + i + 1) - off (lo + i)) (nI g) with | none => (-1 : Int32) | some t => bz (off (lo + i) + t) &&& 255; rw [md_ix_some hg (by omega)]; exact zz_255 _, by rw [ht]; exact hP, va_K.moved hW.alike hK, hD⟩, hS.F ht⟩) hS.2.2 dM_byteAt_51
        · refine lv_iconst (v := (-1)) hx hb dM_byteAt_31 (by decide) ?_
          refine lv_goto (tgt := 51) hx hb dM_byteAt_32 (by decide) ?_
          exact W.iret (v := ((-1))) hx hb hr (fun t ht hW => ⟨⟨_, (), rfl, by unfold md_byteAt; rw [md_ix_some hi9 (by omega)]; show _ = match md_ix (off (lo + i + 1) - off (lo + i)) j with | none => (-1 : Int32) | some t => bz (off (lo + i) + t) &&& 255; rw [md_ix_none (fun ⟨q, h1, h2⟩ => c28 (h2 ▸ nI_lt h1 (by omega))) (by omega)], by rw [ht]; exact hP, va_K.moved hW.alike hK, hD⟩, hS.F ht⟩) hS.2.2 dM_byteAt_51
theorem md_room_mid {room : Int32} (h1 : nI 64 ≤ room) (h2 : room ≤ nI 16384) : room = nI (md_room room) := by
  unfold md_room
  rw [if_neg (Int32.not_lt.mpr h1), if_neg (Int32.not_lt.mpr h2)]
  have h4 : ¬ room < 0 := by
    rw [Int32.le_iff_toInt_le, nI_toInt (by omega)] at h1
    rw [Int32.lt_iff_toInt_lt]
    have h0 : (0 : Int32).toInt = 0 := by decide
    omega
  obtain ⟨j, hj, e⟩ := nI_of h4
  subst e
  rw [nI_clamp hj]
set_option maxHeartbeats 4000000 in
set_option maxRecDepth 100000 in
/-- PacketStoreModel: a new one -/
theorem c_M_init (l : Launch) (dC : Nat → ClassId) (dI : Nat → Nat → Nat) (mM : Nat) (room : Int32)  (hz : Nat) : Met l yM_init wsM_init ({ frames := 1, cells := 5, slots := 50176, locals := 16 }) (va_Pc [.ref mM, .int room] (fun U => U.heap.size = hz ∧ va_P (dC, dI) vwCl [(mM, .inr (2, [.int 0, .int 0, .null, .int 0, .null, .int 0, .int 0, .null, .null, .null, .int 0, .int 0, .int 0, .int 0, .int 0, .int 0, .int 0, .int 0]))] U.heap ∧ va_K (dC, dI) vwCl [] U ∧ va_D (fun _ => True) [(mM, .inr (2, [.int 0, .int 0, .null, .int 0, .null, .int 0, .int 0, .null, .null, .null, .int 0, .int 0, .int 0, .int 0, .int 0, .int 0, .int 0, .int 0]))])) (va_Qv (fun (u : Unit) => True) (fun u t => ∃ (mX mO mT mS mB : Nat) (eX eO eT eS eB : ClassId), va_P (dC, dI) vwCl [(mM, .inr (2, [.int 0, .int (nI (md_room room)), .ref mX, .int 0, .ref mO, .int 0, .int 0, .ref mT, .ref mS, .ref mB, .int 0, .int 0, .int 0, .int 0, .int 0, .int 0, .int 0, .int 0])), (mX, .inl (eX, 512, .inl (fun _ => 0))), (mO, .inl (eO, 512, .inl (fun _ => 0))), (mT, .inl (eT, 16384, .inl (fun _ => 0))), (mS, .inl (eS, 16384, .inl (fun _ => 0))), (mB, .inl (eB, 16384, .inl (fun _ => 0)))] t.heap ∧ va_K (dC, dI) vwCl [(eX, .byte), (eO, .byte), (eT, .int), (eS, .int), (eB, .byte)] t ∧ va_D (va_A [(mM, .inr (2, [.int 0, .int 0, .null, .int 0, .null, .int 0, .int 0, .null, .null, .null, .int 0, .int 0, .int 0, .int 0, .int 0, .int 0, .int 0, .int 0]))] hz) [(mM, .inr (2, [.int 0, .int (nI (md_room room)), .ref mX, .int 0, .ref mO, .int 0, .int 0, .ref mT, .ref mS, .ref mB, .int 0, .int 0, .int 0, .int 0, .int 0, .int 0, .int 0, .int 0])), (mX, .inl (eX, 512, .inl (fun _ => 0))), (mO, .inl (eO, 512, .inl (fun _ => 0))), (mT, .inl (eT, 16384, .inl (fun _ => 0))), (mS, .inl (eS, 16384, .inl (fun _ => 0))), (mB, .inl (eB, 16384, .inl (fun _ => 0)))]) (va_A [(mM, .inr (2, [.int 0, .int 0, .null, .int 0, .null, .int 0, .int 0, .null, .null, .null, .int 0, .int 0, .int 0, .int 0, .int 0, .int 0, .int 0, .int 0]))] hz)) 5 50176 (va_A [(mM, .inr (2, [.int 0, .int 0, .null, .int 0, .null, .int 0, .int 0, .null, .null, .null, .int 0, .int 0, .int 0, .int 0, .int 0, .int 0, .int 0, .int 0]))] hz) := by
  refine Met.ofW (cc := cM_init) (maxL := 2) (ret := none) (by decide) rfl ?_
  intro p e s m args below meth c s₁ B hml hv
  obtain ⟨rfl, hsz, hP, hK, hD0⟩ := hv
  have hx := B.exec
  have hb := B.bytes
  have hr := B.returns
  have hts := atoms_spec (ws := wsM_init) B.pre
  have hown : s.vm.findClass RM = some m.cls := findClass_of_methodNamed B.named
  have hlocks := B.notSynchronized
  have hin : meth.name = "<init>" := (name_of_methodNamed B.named B.method).1
  have hi_M : ∀ w ∈ u_ws RM TM 18, w ∈ wsM_init := by decide +kernel
  subst hsz
  have hD := hD0.self (sz := s.heap.size)
  generalize hAe : va_A [(mM, .inr (2, [.int 0, .int 0, .null, .int 0, .null, .int 0, .int 0, .null, .null, .null, .int 0, .int 0, .int 0, .int 0, .int 0, .int 0, .int 0, .int 0]))] s.heap.size = A at hD ⊢
  have hA : ∀ q : Nat, s.heap.size ≤ q → A q := fun q h => by rw [← hAe]; exact Or.inr h
  have hS : va_S A s.heap s.heap [] := va_S.rf
  have hP : va_P (dC, dI) vwCl [(mM, .inr (2, [.int 0, .int 0, .null, .int 0, .null, .int 0, .int 0, .null, .null, .null, .int 0, .int 0, .int 0, .int 0, .int 0, .int 0, .int 0, .int 0]))] s.heap := hP
  have hl := lv_entry ([.ref mM, .int room]) (n := 2) (Nat.le_of_ble_eq_true rfl)
  rw [lg_entry_eq]
  generalize (lg_sl ([.ref mM, .int room]) ++ List.replicate (2 - (lg_sl ([.ref mM, .int room])).length) Slot.unset).toArray = ls at hl ⊢
  have hl : lv_has ls 2 [(0, .ref mM), (1, .int room)] := hl
  refine lv_aload_n hx hb dM_init_0 rfl (lv_at hl 0 rfl) ?_
  refine W.objInit hx hb hown (hts (.methodLink RM 1 objectInit) (by decide +kernel)) (hts (.instanceMethod objectInit) (by decide +kernel)) (hts (.code objectInit ⟨#[0xb1]⟩ 1 none) (by decide +kernel)) rfl (by rw [hml]; exact hl.1) rfl dM_init_1 (Nat.le_of_ble_eq_true rfl) (Nat.le_of_ble_eq_true rfl) ?_
  refine W.eq (g2 := F0 m 4 ls []) rfl ?_
  refine lv_aload_n hx hb dM_init_4 rfl (lv_at hl 0 rfl) ?_
  refine lv_sipush (v := nI 512) hx hb dM_init_5 (by decide) ?_
  refine va_newa (atype := .byte) hx hb (hts (.arrayClass .byte) (by decide +kernel)) rfl hK hP hD hS hA (N' := 512) (a0 := (512, .inl (fun _ => 0))) (fun _ => rfl) (nI_pos (by omega)) (nI_clamp (by omega)) (by decide) (Nat.le_of_ble_eq_true rfl) (Nat.le_of_ble_eq_true rfl) dM_init_8 (fun mX eX H hK hP hD hS => ?_)
  have hP : va_P (dC, dI) vwCl [(mM, .inr (2, [.int 0, .int 0, .null, .int 0, .null, .int 0, .int 0, .null, .null, .null, .int 0, .int 0, .int 0, .int 0, .int 0, .int 0, .int 0, .int 0])), (mX, .inl (eX, 512, .inl (fun _ => 0)))] H := hP
  have hD : va_D A [(mM, .inr (2, [.int 0, .int 0, .null, .int 0, .null, .int 0, .int 0, .null, .null, .null, .int 0, .int 0, .int 0, .int 0, .int 0, .int 0, .int 0, .int 0])), (mX, .inl (eX, 512, .inl (fun _ => 0)))] := hD
  have hK : va_K (dC, dI) vwCl [(eX, .byte)] s := hK
  refine W.widen (k := 1) (n := 512) (by omega) (by omega) ?_
  refine va_putF (D := (dC, dI)) (ci := 2) (v := .ref mX) (ty := .array .byte) (C := RM) (T := TM) (N := 18) hx hb hts hi_M tyM tyM_ok nmM hown hK hP hD hS 0 rfl rfl 2 (by decide) (hts (.fieldLink RM 7 "PacketStoreModel" "text" "[B") (by decide +kernel)) (fun _ h9 => h9) rfl hin rfl (by decide +kernel) rfl rfl (Nat.le_of_ble_eq_true rfl) dM_init_10 (fun H locs hP hD hS => ?_)
  have hP : va_P (dC, dI) vwCl [(mM, .inr (2, [.int 0, .int 0, .ref mX, .int 0, .null, .int 0, .int 0, .null, .null, .null, .int 0, .int 0, .int 0, .int 0, .int 0, .int 0, .int 0, .int 0])), (mX, .inl (eX, 512, .inl (fun _ => 0)))] H := hP
  have hD : va_D A [(mM, .inr (2, [.int 0, .int 0, .ref mX, .int 0, .null, .int 0, .int 0, .null, .null, .null, .int 0, .int 0, .int 0, .int 0, .int 0, .int 0, .int 0, .int 0])), (mX, .inl (eX, 512, .inl (fun _ => 0)))] := hD
  refine lv_aload_n hx hb dM_init_13 rfl (lv_at hl 0 rfl) ?_
  refine lv_sipush (v := nI 512) hx hb dM_init_14 (by decide) ?_
  refine va_newa (atype := .byte) hx hb (hts (.arrayClass .byte) (by decide +kernel)) rfl hK hP hD hS hA (N' := 512) (a0 := (512, .inl (fun _ => 0))) (fun _ => rfl) (nI_pos (by omega)) (nI_clamp (by omega)) (by decide) (Nat.le_of_ble_eq_true rfl) (Nat.le_of_ble_eq_true rfl) dM_init_17 (fun mO eO H hK hP hD hS => ?_)
  have hP : va_P (dC, dI) vwCl [(mM, .inr (2, [.int 0, .int 0, .ref mX, .int 0, .null, .int 0, .int 0, .null, .null, .null, .int 0, .int 0, .int 0, .int 0, .int 0, .int 0, .int 0, .int 0])), (mX, .inl (eX, 512, .inl (fun _ => 0))), (mO, .inl (eO, 512, .inl (fun _ => 0)))] H := hP
  have hD : va_D A [(mM, .inr (2, [.int 0, .int 0, .ref mX, .int 0, .null, .int 0, .int 0, .null, .null, .null, .int 0, .int 0, .int 0, .int 0, .int 0, .int 0, .int 0, .int 0])), (mX, .inl (eX, 512, .inl (fun _ => 0))), (mO, .inl (eO, 512, .inl (fun _ => 0)))] := hD
  have hK : va_K (dC, dI) vwCl [(eX, .byte), (eO, .byte)] s := hK
  refine W.widen (k := 2) (n := 1024) (by omega) (by omega) ?_
  refine va_putF (D := (dC, dI)) (ci := 2) (v := .ref mO) (ty := .array .byte) (C := RM) (T := TM) (N := 18) hx hb hts hi_M tyM tyM_ok nmM hown hK hP hD hS 0 rfl rfl 4 (by decide) (hts (.fieldLink RM 13 "PacketStoreModel" "out" "[B") (by decide +kernel)) (fun _ h9 => h9) rfl hin rfl (by decide +kernel) rfl rfl (Nat.le_of_ble_eq_true rfl) dM_init_19 (fun H locs hP hD hS => ?_)
  have hP : va_P (dC, dI) vwCl [(mM, .inr (2, [.int 0, .int 0, .ref mX, .int 0, .ref mO, .int 0, .int 0, .null, .null, .null, .int 0, .int 0, .int 0, .int 0, .int 0, .int 0, .int 0, .int 0])), (mX, .inl (eX, 512, .inl (fun _ => 0))), (mO, .inl (eO, 512, .inl (fun _ => 0)))] H := hP
  have hD : va_D A [(mM, .inr (2, [.int 0, .int 0, .ref mX, .int 0, .ref mO, .int 0, .int 0, .null, .null, .null, .int 0, .int 0, .int 0, .int 0, .int 0, .int 0, .int 0, .int 0])), (mX, .inl (eX, 512, .inl (fun _ => 0))), (mO, .inl (eO, 512, .inl (fun _ => 0)))] := hD
  refine lv_aload_n hx hb dM_init_22 rfl (lv_at hl 0 rfl) ?_
  refine lv_sipush (v := nI 16384) hx hb dM_init_23 (by decide) ?_
  refine va_newa (atype := .int) hx hb (hts (.arrayClass .int) (by decide +kernel)) rfl hK hP hD hS hA (N' := 16384) (a0 := (16384, .inl (fun _ => 0))) (fun _ => rfl) (nI_pos (by omega)) (nI_clamp (by omega)) (by decide) (Nat.le_of_ble_eq_true rfl) (Nat.le_of_ble_eq_true rfl) dM_init_26 (fun mT eT H hK hP hD hS => ?_)
  have hP : va_P (dC, dI) vwCl [(mM, .inr (2, [.int 0, .int 0, .ref mX, .int 0, .ref mO, .int 0, .int 0, .null, .null, .null, .int 0, .int 0, .int 0, .int 0, .int 0, .int 0, .int 0, .int 0])), (mX, .inl (eX, 512, .inl (fun _ => 0))), (mO, .inl (eO, 512, .inl (fun _ => 0))), (mT, .inl (eT, 16384, .inl (fun _ => 0)))] H := hP
  have hD : va_D A [(mM, .inr (2, [.int 0, .int 0, .ref mX, .int 0, .ref mO, .int 0, .int 0, .null, .null, .null, .int 0, .int 0, .int 0, .int 0, .int 0, .int 0, .int 0, .int 0])), (mX, .inl (eX, 512, .inl (fun _ => 0))), (mO, .inl (eO, 512, .inl (fun _ => 0))), (mT, .inl (eT, 16384, .inl (fun _ => 0)))] := hD
  have hK : va_K (dC, dI) vwCl [(eX, .byte), (eO, .byte), (eT, .int)] s := hK
  refine W.widen (k := 3) (n := 17408) (by omega) (by omega) ?_
  refine va_putF (D := (dC, dI)) (ci := 2) (v := .ref mT) (ty := .array .int) (C := RM) (T := TM) (N := 18) hx hb hts hi_M tyM tyM_ok nmM hown hK hP hD hS 0 rfl rfl 7 (by decide) (hts (.fieldLink RM 16 "PacketStoreModel" "time" "[I") (by decide +kernel)) (fun _ h9 => h9) rfl hin rfl (by decide +kernel) rfl rfl (Nat.le_of_ble_eq_true rfl) dM_init_28 (fun H locs hP hD hS => ?_)
  have hP : va_P (dC, dI) vwCl [(mM, .inr (2, [.int 0, .int 0, .ref mX, .int 0, .ref mO, .int 0, .int 0, .ref mT, .null, .null, .int 0, .int 0, .int 0, .int 0, .int 0, .int 0, .int 0, .int 0])), (mX, .inl (eX, 512, .inl (fun _ => 0))), (mO, .inl (eO, 512, .inl (fun _ => 0))), (mT, .inl (eT, 16384, .inl (fun _ => 0)))] H := hP
  have hD : va_D A [(mM, .inr (2, [.int 0, .int 0, .ref mX, .int 0, .ref mO, .int 0, .int 0, .ref mT, .null, .null, .int 0, .int 0, .int 0, .int 0, .int 0, .int 0, .int 0, .int 0])), (mX, .inl (eX, 512, .inl (fun _ => 0))), (mO, .inl (eO, 512, .inl (fun _ => 0))), (mT, .inl (eT, 16384, .inl (fun _ => 0)))] := hD
  refine lv_aload_n hx hb dM_init_31 rfl (lv_at hl 0 rfl) ?_
  refine lv_sipush (v := nI 16384) hx hb dM_init_32 (by decide) ?_
  refine va_newa (atype := .int) hx hb (hts (.arrayClass .int) (by decide +kernel)) rfl hK hP hD hS hA (N' := 16384) (a0 := (16384, .inl (fun _ => 0))) (fun _ => rfl) (nI_pos (by omega)) (nI_clamp (by omega)) (by decide) (Nat.le_of_ble_eq_true rfl) (Nat.le_of_ble_eq_true rfl) dM_init_35 (fun mS eS H hK hP hD hS => ?_)
  have hP : va_P (dC, dI) vwCl [(mM, .inr (2, [.int 0, .int 0, .ref mX, .int 0, .ref mO, .int 0, .int 0, .ref mT, .null, .null, .int 0, .int 0, .int 0, .int 0, .int 0, .int 0, .int 0, .int 0])), (mX, .inl (eX, 512, .inl (fun _ => 0))), (mO, .inl (eO, 512, .inl (fun _ => 0))), (mT, .inl (eT, 16384, .inl (fun _ => 0))), (mS, .inl (eS, 16384, .inl (fun _ => 0)))] H := hP
  have hD : va_D A [(mM, .inr (2, [.int 0, .int 0, .ref mX, .int 0, .ref mO, .int 0, .int 0, .ref mT, .null, .null, .int 0, .int 0, .int 0, .int 0, .int 0, .int 0, .int 0, .int 0])), (mX, .inl (eX, 512, .inl (fun _ => 0))), (mO, .inl (eO, 512, .inl (fun _ => 0))), (mT, .inl (eT, 16384, .inl (fun _ => 0))), (mS, .inl (eS, 16384, .inl (fun _ => 0)))] := hD
  have hK : va_K (dC, dI) vwCl [(eX, .byte), (eO, .byte), (eT, .int), (eS, .int)] s := hK
  refine W.widen (k := 4) (n := 33792) (by omega) (by omega) ?_
  refine va_putF (D := (dC, dI)) (ci := 2) (v := .ref mS) (ty := .array .int) (C := RM) (T := TM) (N := 18) hx hb hts hi_M tyM tyM_ok nmM hown hK hP hD hS 0 rfl rfl 8 (by decide) (hts (.fieldLink RM 20 "PacketStoreModel" "size" "[I") (by decide +kernel)) (fun _ h9 => h9) rfl hin rfl (by decide +kernel) rfl rfl (Nat.le_of_ble_eq_true rfl) dM_init_37 (fun H locs hP hD hS => ?_)
  have hP : va_P (dC, dI) vwCl [(mM, .inr (2, [.int 0, .int 0, .ref mX, .int 0, .ref mO, .int 0, .int 0, .ref mT, .ref mS, .null, .int 0, .int 0, .int 0, .int 0, .int 0, .int 0, .int 0, .int 0])), (mX, .inl (eX, 512, .inl (fun _ => 0))), (mO, .inl (eO, 512, .inl (fun _ => 0))), (mT, .inl (eT, 16384, .inl (fun _ => 0))), (mS, .inl (eS, 16384, .inl (fun _ => 0)))] H := hP
  have hD : va_D A [(mM, .inr (2, [.int 0, .int 0, .ref mX, .int 0, .ref mO, .int 0, .int 0, .ref mT, .ref mS, .null, .int 0, .int 0, .int 0, .int 0, .int 0, .int 0, .int 0, .int 0])), (mX, .inl (eX, 512, .inl (fun _ => 0))), (mO, .inl (eO, 512, .inl (fun _ => 0))), (mT, .inl (eT, 16384, .inl (fun _ => 0))), (mS, .inl (eS, 16384, .inl (fun _ => 0)))] := hD
  refine lv_aload_n hx hb dM_init_40 rfl (lv_at hl 0 rfl) ?_
  refine lv_sipush (v := nI 16384) hx hb dM_init_41 (by decide) ?_
  refine va_newa (atype := .byte) hx hb (hts (.arrayClass .byte) (by decide +kernel)) rfl hK hP hD hS hA (N' := 16384) (a0 := (16384, .inl (fun _ => 0))) (fun _ => rfl) (nI_pos (by omega)) (nI_clamp (by omega)) (by decide) (Nat.le_of_ble_eq_true rfl) (Nat.le_of_ble_eq_true rfl) dM_init_44 (fun mB eB H hK hP hD hS => ?_)
  have hP : va_P (dC, dI) vwCl [(mM, .inr (2, [.int 0, .int 0, .ref mX, .int 0, .ref mO, .int 0, .int 0, .ref mT, .ref mS, .null, .int 0, .int 0, .int 0, .int 0, .int 0, .int 0, .int 0, .int 0])), (mX, .inl (eX, 512, .inl (fun _ => 0))), (mO, .inl (eO, 512, .inl (fun _ => 0))), (mT, .inl (eT, 16384, .inl (fun _ => 0))), (mS, .inl (eS, 16384, .inl (fun _ => 0))), (mB, .inl (eB, 16384, .inl (fun _ => 0)))] H := hP
  have hD : va_D A [(mM, .inr (2, [.int 0, .int 0, .ref mX, .int 0, .ref mO, .int 0, .int 0, .ref mT, .ref mS, .null, .int 0, .int 0, .int 0, .int 0, .int 0, .int 0, .int 0, .int 0])), (mX, .inl (eX, 512, .inl (fun _ => 0))), (mO, .inl (eO, 512, .inl (fun _ => 0))), (mT, .inl (eT, 16384, .inl (fun _ => 0))), (mS, .inl (eS, 16384, .inl (fun _ => 0))), (mB, .inl (eB, 16384, .inl (fun _ => 0)))] := hD
  have hK : va_K (dC, dI) vwCl [(eX, .byte), (eO, .byte), (eT, .int), (eS, .int), (eB, .byte)] s := hK
  refine W.widen (k := 5) (n := 50176) (by omega) (by omega) ?_
  refine va_putF (D := (dC, dI)) (ci := 2) (v := .ref mB) (ty := .array .byte) (C := RM) (T := TM) (N := 18) hx hb hts hi_M tyM tyM_ok nmM hown hK hP hD hS 0 rfl rfl 9 (by decide) (hts (.fieldLink RM 23 "PacketStoreModel" "bytes" "[B") (by decide +kernel)) (fun _ h9 => h9) rfl hin rfl (by decide +kernel) rfl rfl (Nat.le_of_ble_eq_true rfl) dM_init_46 (fun H locs hP hD hS => ?_)
  have hP : va_P (dC, dI) vwCl [(mM, .inr (2, [.int 0, .int 0, .ref mX, .int 0, .ref mO, .int 0, .int 0, .ref mT, .ref mS, .ref mB, .int 0, .int 0, .int 0, .int 0, .int 0, .int 0, .int 0, .int 0])), (mX, .inl (eX, 512, .inl (fun _ => 0))), (mO, .inl (eO, 512, .inl (fun _ => 0))), (mT, .inl (eT, 16384, .inl (fun _ => 0))), (mS, .inl (eS, 16384, .inl (fun _ => 0))), (mB, .inl (eB, 16384, .inl (fun _ => 0)))] H := hP
  have hD : va_D A [(mM, .inr (2, [.int 0, .int 0, .ref mX, .int 0, .ref mO, .int 0, .int 0, .ref mT, .ref mS, .ref mB, .int 0, .int 0, .int 0, .int 0, .int 0, .int 0, .int 0, .int 0])), (mX, .inl (eX, 512, .inl (fun _ => 0))), (mO, .inl (eO, 512, .inl (fun _ => 0))), (mT, .inl (eT, 16384, .inl (fun _ => 0))), (mS, .inl (eS, 16384, .inl (fun _ => 0))), (mB, .inl (eB, 16384, .inl (fun _ => 0)))] := hD
  refine lv_aload_n hx hb dM_init_49 rfl (lv_at hl 0 rfl) ?_
  refine lv_iload_n hx hb dM_init_50 rfl (lv_at hl 1 rfl) ?_
  refine lv_bipush (v := nI 64) hx hb dM_init_51 (by decide) ?_
  refine lv_icmp_ge (tgt := 61) hx hb dM_init_53 (by decide) (fun c53 => ?_) (fun c53 => ?_)
  · refine lv_iload_n hx hb dM_init_61 rfl (lv_at hl 1 rfl) ?_
    refine lv_sipush (v := nI 16384) hx hb dM_init_62 (by decide) ?_
    refine lv_icmp_le (tgt := 74) hx hb dM_init_65 (by decide) (fun c65 => ?_) (fun c65 => ?_)
    · refine lv_iload_n hx hb dM_init_74 rfl (lv_at hl 1 rfl) ?_
      refine zz_as (nI (md_room room)) (md_room_mid c53 c65) ?_
      refine va_putF (D := (dC, dI)) (ci := 2) (v := .int (nI (md_room room))) (ty := .int) (C := RM) (T := TM) (N := 18) hx hb hts hi_M tyM tyM_ok nmM hown hK hP hD hS 0 rfl rfl 1 (by decide) (hts (.fieldLink RM 26 "PacketStoreModel" "room" "I") (by decide +kernel)) (fun _ h9 => h9) rfl hin rfl (by decide +kernel) rfl rfl (Nat.le_of_ble_eq_true rfl) dM_init_75 (fun H locs hP hD hS => ?_)
      have hP : va_P (dC, dI) vwCl [(mM, .inr (2, [.int 0, .int (nI (md_room room)), .ref mX, .int 0, .ref mO, .int 0, .int 0, .ref mT, .ref mS, .ref mB, .int 0, .int 0, .int 0, .int 0, .int 0, .int 0, .int 0, .int 0])), (mX, .inl (eX, 512, .inl (fun _ => 0))), (mO, .inl (eO, 512, .inl (fun _ => 0))), (mT, .inl (eT, 16384, .inl (fun _ => 0))), (mS, .inl (eS, 16384, .inl (fun _ => 0))), (mB, .inl (eB, 16384, .inl (fun _ => 0)))] H := hP
      have hD : va_D A [(mM, .inr (2, [.int 0, .int (nI (md_room room)), .ref mX, .int 0, .ref mO, .int 0, .int 0, .ref mT, .ref mS, .ref mB, .int 0, .int 0, .int 0, .int 0, .int 0, .int 0, .int 0, .int 0])), (mX, .inl (eX, 512, .inl (fun _ => 0))), (mO, .inl (eO, 512, .inl (fun _ => 0))), (mT, .inl (eT, 16384, .inl (fun _ => 0))), (mS, .inl (eS, 16384, .inl (fun _ => 0))), (mB, .inl (eB, 16384, .inl (fun _ => 0)))] := hD
      exact W.vret hx hb hr (fun t ht hW => ⟨⟨(), rfl, trivial, mX, mO, mT, mS, mB, eX, eO, eT, eS, eB, by rw [ht]; exact hP, va_K.moved hW.alike hK, hD⟩, hS.F ht⟩) hS.2.2 dM_init_78
    · refine lv_sipush (v := nI 16384) hx hb dM_init_68 (by decide) ?_
      refine lv_goto (tgt := 75) hx hb dM_init_71 (by decide) ?_
      refine zz_as (nI (md_room room)) (congrArg nI (by unfold md_room; rw [if_neg (Int32.not_lt.mpr c53), if_pos (Int32.not_le.mp c65)])) ?_
      refine va_putF (D := (dC, dI)) (ci := 2) (v := .int (nI (md_room room))) (ty := .int) (C := RM) (T := TM) (N := 18) hx hb hts hi_M tyM tyM_ok nmM hown hK hP hD hS 0 rfl rfl 1 (by decide) (hts (.fieldLink RM 26 "PacketStoreModel" "room" "I") (by decide +kernel)) (fun _ h9 => h9) rfl hin rfl (by decide +kernel) rfl rfl (Nat.le_of_ble_eq_true rfl) dM_init_75 (fun H locs hP hD hS => ?_)
      have hP : va_P (dC, dI) vwCl [(mM, .inr (2, [.int 0, .int (nI (md_room room)), .ref mX, .int 0, .ref mO, .int 0, .int 0, .ref mT, .ref mS, .ref mB, .int 0, .int 0, .int 0, .int 0, .int 0, .int 0, .int 0, .int 0])), (mX, .inl (eX, 512, .inl (fun _ => 0))), (mO, .inl (eO, 512, .inl (fun _ => 0))), (mT, .inl (eT, 16384, .inl (fun _ => 0))), (mS, .inl (eS, 16384, .inl (fun _ => 0))), (mB, .inl (eB, 16384, .inl (fun _ => 0)))] H := hP
      have hD : va_D A [(mM, .inr (2, [.int 0, .int (nI (md_room room)), .ref mX, .int 0, .ref mO, .int 0, .int 0, .ref mT, .ref mS, .ref mB, .int 0, .int 0, .int 0, .int 0, .int 0, .int 0, .int 0, .int 0])), (mX, .inl (eX, 512, .inl (fun _ => 0))), (mO, .inl (eO, 512, .inl (fun _ => 0))), (mT, .inl (eT, 16384, .inl (fun _ => 0))), (mS, .inl (eS, 16384, .inl (fun _ => 0))), (mB, .inl (eB, 16384, .inl (fun _ => 0)))] := hD
      exact W.vret hx hb hr (fun t ht hW => ⟨⟨(), rfl, trivial, mX, mO, mT, mS, mB, eX, eO, eT, eS, eB, by rw [ht]; exact hP, va_K.moved hW.alike hK, hD⟩, hS.F ht⟩) hS.2.2 dM_init_78
  · refine lv_bipush (v := nI 64) hx hb dM_init_56 (by decide) ?_
    refine lv_goto (tgt := 75) hx hb dM_init_58 (by decide) ?_
    refine zz_as (nI (md_room room)) (congrArg nI (by unfold md_room; rw [if_pos (Int32.not_le.mp c53)])) ?_
    refine va_putF (D := (dC, dI)) (ci := 2) (v := .int (nI (md_room room))) (ty := .int) (C := RM) (T := TM) (N := 18) hx hb hts hi_M tyM tyM_ok nmM hown hK hP hD hS 0 rfl rfl 1 (by decide) (hts (.fieldLink RM 26 "PacketStoreModel" "room" "I") (by decide +kernel)) (fun _ h9 => h9) rfl hin rfl (by decide +kernel) rfl rfl (Nat.le_of_ble_eq_true rfl) dM_init_75 (fun H locs hP hD hS => ?_)
    have hP : va_P (dC, dI) vwCl [(mM, .inr (2, [.int 0, .int (nI (md_room room)), .ref mX, .int 0, .ref mO, .int 0, .int 0, .ref mT, .ref mS, .ref mB, .int 0, .int 0, .int 0, .int 0, .int 0, .int 0, .int 0, .int 0])), (mX, .inl (eX, 512, .inl (fun _ => 0))), (mO, .inl (eO, 512, .inl (fun _ => 0))), (mT, .inl (eT, 16384, .inl (fun _ => 0))), (mS, .inl (eS, 16384, .inl (fun _ => 0))), (mB, .inl (eB, 16384, .inl (fun _ => 0)))] H := hP
    have hD : va_D A [(mM, .inr (2, [.int 0, .int (nI (md_room room)), .ref mX, .int 0, .ref mO, .int 0, .int 0, .ref mT, .ref mS, .ref mB, .int 0, .int 0, .int 0, .int 0, .int 0, .int 0, .int 0, .int 0])), (mX, .inl (eX, 512, .inl (fun _ => 0))), (mO, .inl (eO, 512, .inl (fun _ => 0))), (mT, .inl (eT, 16384, .inl (fun _ => 0))), (mS, .inl (eS, 16384, .inl (fun _ => 0))), (mB, .inl (eB, 16384, .inl (fun _ => 0)))] := hD
    exact W.vret hx hb hr (fun t ht hW => ⟨⟨(), rfl, trivial, mX, mO, mT, mS, mB, eX, eO, eT, eS, eB, by rw [ht]; exact hP, va_K.moved hW.alike hK, hD⟩, hS.F ht⟩) hS.2.2 dM_init_78
end
section
/-! THE CLAIM OUT OF ONE WALK OF THE LAW'S BODY. Your part is whole_start (and what it stands on); all else here is the same for every law, but numbers. -/
def R_law : String := "PacketStoreLaw"
def lw_P (b : Addr) (xs : List Int32) (args : Array Value) (s : State) : Prop := args = #[.ref b] ∧ s.IntsAt b xs ∧ xs.length ≤ 1537 ∧ (Jvm.Cond.and given_1 narrow_1).before args s = true
def lw_Q (_ : Array Value) (s : State) (o : Outcome) (t : State) : Prop := o = .returned (some (.int 1)) ∧ Framed s o t [] 600000 7302250
def lw_Z (below : List Frame) (a : Array Value) (s : State) : State → Prop := fun t => ∃ o, t.status = .running ∧ Ended t below o ∧ lw_Q a s o t
/-- the law's own end, with 1 on the stack, nothing written that was there before, its room as the claim has it -/
theorem lw_ret {p : Program} {l : Launch} {e : Env} {s : State} {m : MethodId} {below : List Frame} {meth : Method} {c : Code} {b : Nat} (hx : p.tables.exec = Jvm.exec) (hb : c.code = code) (hr : meth.sig.returnType = ret) (hlocks : meth.locks = false) {pc : Nat} {H : Heap} {ls : Array Slot} (hdg : decode code pc = .ok (.ireturn, 1)) : W p l e room_1 s m #[Value.ref b] below meth c H [] 600000 7302250 (lw_Z below #[Value.ref b] s) (F0 m pc ls [.int 1]) := by
  intro T hT X
  obtain ⟨fs, hret, hrun, hended, hW, hframe⟩ := X.leave (v := some (.int 1)) (hlocks := hlocks) (fun h => by rw [hr] at h; cases h)
  have hmeth' : T.vm.method? m = some meth := X.method'
  refine ⟨T.setFrames fs, ?_, .returned (some (.int 1)), hrun, hended, rfl, ⟨_, rfl⟩, hW, hframe⟩
  jvm_step X.here [X.here.top, hx, hb, hdg, hmeth', hr, ret, narrow_b1]
  (try refine ⟨rfl, ?_⟩); (try refine ⟨rfl, ?_⟩)
  first | (intro acts; rw [hret _ acts rfl rfl rfl]) | rw [hret _ _ rfl rfl rfl]
  exact Steps.refl _
/-- what holds at the law's entry: the machine, the code, the tables' words (any of lw_tbl by 'hts w (by decide +kernel)'), the script of L ints xs at the cell b, what the Statement gives of the start (any of its parts by flat_of_before) -/
def lw_At (p : Program) (s : State) (m : MethodId) (meth : Method) (c : Code) (b L : Nat) (xs : Nat → Int32) : Prop :=
  p.tables.exec = Jvm.exec ∧ c.code = code ∧ meth.sig.returnType = ret ∧ c.maxLocals = 4 ∧ s.vm.findClass R_law = some m.cls ∧ (∀ w ∈ lw_tbl, w.before #[Value.ref b] s = true) ∧ va_X b L xs s s.heap ∧ b < s.heap.size ∧ meth.locks = false ∧ (Jvm.Cond.and given_1 narrow_1).before #[Value.ref b] s = true
end
section
set_option maxRecDepth 20000 in
theorem gl_X1_init : GoodIn lw_tbl wsX1_init := goodIn_p _ [17, 20, 25, 28, 31] (by decide +kernel) (by decide +kernel)
set_option maxRecDepth 20000 in
theorem gl_X1_put : GoodIn lw_tbl (wsV RL 21 RX1 yX1_put wsX1_put) := goodIn_p _ [100] (by decide +kernel) (by decide +kernel)
set_option maxRecDepth 20000 in
theorem gl_X1_keep : GoodIn lw_tbl (wsV RL 26 RX1 yX1_keep wsX1_keep) := goodIn_p _ [104, 108, 112, 116, 120, 124, 128, 132, 136, 140, 144] (by decide +kernel) (by decide +kernel)
set_option maxRecDepth 20000 in
theorem gl_X1_delete : GoodIn lw_tbl (wsV RL 30 RX1 yX1_delete wsX1_delete) := goodIn_p _ [148, 116, 152, 140, 124, 128, 132, 136] (by decide +kernel) (by decide +kernel)
set_option maxRecDepth 20000 in
theorem gl_X1_begin : GoodIn lw_tbl (wsV RL 34 RX1 yX1_begin wsX1_begin) := goodIn_p _ [156] (by decide +kernel) (by decide +kernel)
set_option maxRecDepth 20000 in
theorem gl_X1_stop : GoodIn lw_tbl (wsV RL 39 RX1 yX1_stop wsX1_stop) := goodIn_p _ [160] (by decide +kernel) (by decide +kernel)
set_option maxRecDepth 20000 in
theorem gl_X1_next : GoodIn lw_tbl (wsV RL 44 RX1 yX1_next wsX1_next) := goodIn_p _ [164, 168, 116, 152, 140, 172, 132, 136, 177, 181] (by decide +kernel) (by decide +kernel)
set_option maxRecDepth 20000 in
theorem gl_X1_out : GoodIn lw_tbl (wsV RL 48 RX1 yX1_out wsX1_out) := goodIn_p _ [185] (by decide +kernel) (by decide +kernel)
set_option maxRecDepth 20000 in
theorem gl_X1_count : GoodIn lw_tbl (wsV RL 52 RX1 yX1_count wsX1_count) := goodIn_p _ [189, 116, 120, 108] (by decide +kernel) (by decide +kernel)
set_option maxRecDepth 20000 in
theorem gl_X1_about : GoodIn lw_tbl (wsV RL 56 RX1 yX1_about wsX1_about) := goodIn_p _ [193, 197, 152, 140, 132, 136] (by decide +kernel) (by decide +kernel)
set_option maxRecDepth 20000 in
theorem gl_X1_byteAt : GoodIn lw_tbl (wsV RL 61 RX1 yX1_byteAt wsX1_byteAt) := goodIn_p _ [201, 197, 132, 136, 140, 181] (by decide +kernel) (by decide +kernel)
set_option maxRecDepth 20000 in
theorem gl_M_init : GoodIn lw_tbl wsM_init := goodIn_p _ [210, 20] (by decide +kernel) (by decide +kernel)
set_option maxRecDepth 20000 in
theorem gl_M_put : GoodIn lw_tbl (wsV RL 25 RM yM_put wsM_put) := goodIn_p _ [270] (by decide +kernel) (by decide +kernel)
set_option maxRecDepth 20000 in
theorem gl_M_keep : GoodIn lw_tbl (wsV RL 29 RM yM_keep wsM_keep) := goodIn_p _ [274, 278] (by decide +kernel) (by decide +kernel)
set_option maxRecDepth 20000 in
theorem gl_M_delete : GoodIn lw_tbl (wsV RL 33 RM yM_delete wsM_delete) := goodIn_p _ [282, 278] (by decide +kernel) (by decide +kernel)
set_option maxRecDepth 20000 in
theorem gl_M_begin : GoodIn lw_tbl (wsV RL 38 RM yM_begin wsM_begin) := goodIn_p _ [286] (by decide +kernel) (by decide +kernel)
set_option maxRecDepth 20000 in
theorem gl_M_stop : GoodIn lw_tbl (wsV RL 43 RM yM_stop wsM_stop) := goodIn_p _ [290] (by decide +kernel) (by decide +kernel)
set_option maxRecDepth 20000 in
theorem gl_M_next : GoodIn lw_tbl (wsV RL 47 RM yM_next wsM_next) := goodIn_p _ [294, 298] (by decide +kernel) (by decide +kernel)
set_option maxRecDepth 20000 in
theorem gl_M_out : GoodIn lw_tbl (wsV RL 51 RM yM_out wsM_out) := goodIn_p _ [302] (by decide +kernel) (by decide +kernel)
set_option maxRecDepth 20000 in
theorem gl_M_count : GoodIn lw_tbl (wsV RL 55 RM yM_count wsM_count) := goodIn_p _ [306] (by decide +kernel) (by decide +kernel)
set_option maxRecDepth 20000 in
theorem gl_M_about : GoodIn lw_tbl (wsV RL 60 RM yM_about wsM_about) := goodIn_p _ [310] (by decide +kernel) (by decide +kernel)
set_option maxRecDepth 20000 in
theorem gl_M_byteAt : GoodIn lw_tbl (wsV RL 64 RM yM_byteAt wsM_byteAt) := goodIn_p _ [314, 298] (by decide +kernel) (by decide +kernel)
set_option maxRecDepth 20000 in
theorem gl_L_cell : GoodIn lw_tbl (wsS RL 9 yL_cell wsL_cell) := goodIn_p _ [205] (by decide +kernel) (by decide +kernel)
theorem il_X0 : ∀ w ∈ u_ws RX0 TX0 8, w ∈ lw_tbl := by decide +kernel
theorem il_X1 : ∀ w ∈ u_ws RX1 TX1 12, w ∈ lw_tbl := by decide +kernel
theorem il_M : ∀ w ∈ u_ws RM TM 18, w ∈ lw_tbl := by decide +kernel
end
section
theorem dL_law_0 : decode cL_law 0 = .ok (.new 7, 3) := by decide +kernel
theorem dL_law_3 : decode cL_law 3 = .ok (.dup, 1) := by decide +kernel
theorem dL_law_4 : decode cL_law 4 = .ok (.aload_n 0, 1) := by decide +kernel
theorem dL_law_5 : decode cL_law 5 = .ok (.iconst 0, 1) := by decide +kernel
theorem dL_law_6 : decode cL_law 6 = .ok (.invokestatic 9, 3) := by decide +kernel
theorem dL_law_9 : decode cL_law 9 = .ok (.invokespecial 15, 3) := by decide +kernel
theorem dL_law_12 : decode cL_law 12 = .ok (.astore_n 1, 1) := by decide +kernel
theorem dL_law_13 : decode cL_law 13 = .ok (.new 18, 3) := by decide +kernel
theorem dL_law_16 : decode cL_law 16 = .ok (.dup, 1) := by decide +kernel
theorem dL_law_17 : decode cL_law 17 = .ok (.aload_n 0, 1) := by decide +kernel
theorem dL_law_18 : decode cL_law 18 = .ok (.iconst 0, 1) := by decide +kernel
theorem dL_law_19 : decode cL_law 19 = .ok (.invokestatic 9, 3) := by decide +kernel
theorem dL_law_22 : decode cL_law 22 = .ok (.invokespecial 20, 3) := by decide +kernel
theorem dL_law_25 : decode cL_law 25 = .ok (.astore_n 2, 1) := by decide +kernel
theorem dL_law_26 : decode cL_law 26 = .ok (.iconst 1, 1) := by decide +kernel
theorem dL_law_27 : decode cL_law 27 = .ok (.istore_n 3, 1) := by decide +kernel
theorem dL_law_28 : decode cL_law 28 = .ok (.iload_n 3, 1) := by decide +kernel
theorem dL_law_29 : decode cL_law 29 = .ok (.aload_n 0, 1) := by decide +kernel
theorem dL_law_30 : decode cL_law 30 = .ok (.arraylength, 1) := by decide +kernel
theorem dL_law_31 : decode cL_law 31 = .ok (.iconst 3, 1) := by decide +kernel
theorem dL_law_32 : decode cL_law 32 = .ok (.isub, 1) := by decide +kernel
theorem dL_law_33 : decode cL_law 33 = .ok (.if_icmp .gt 319, 3) := by decide +kernel
theorem dL_law_36 : decode cL_law 36 = .ok (.aload_n 0, 1) := by decide +kernel
theorem dL_law_37 : decode cL_law 37 = .ok (.iload_n 3, 1) := by decide +kernel
theorem dL_law_38 : decode cL_law 38 = .ok (.iaload, 1) := by decide +kernel
theorem dL_law_39 : decode cL_law 39 = .ok (.bipush 15, 2) := by decide +kernel
theorem dL_law_41 : decode cL_law 41 = .ok (.iand, 1) := by decide +kernel
theorem dL_law_42 : decode cL_law 42 = .ok (.tableswitch 304 0 9 #[54, 77, 100, 123, 156, 169, 192, 215, 238, 271], 54) := by decide +kernel
theorem dL_law_96 : decode cL_law 96 = .ok (.aload_n 1, 1) := by decide +kernel
theorem dL_law_97 : decode cL_law 97 = .ok (.aload_n 0, 1) := by decide +kernel
theorem dL_law_98 : decode cL_law 98 = .ok (.iload_n 3, 1) := by decide +kernel
theorem dL_law_99 : decode cL_law 99 = .ok (.iconst 1, 1) := by decide +kernel
theorem dL_law_100 : decode cL_law 100 = .ok (.iadd, 1) := by decide +kernel
theorem dL_law_101 : decode cL_law 101 = .ok (.iaload, 1) := by decide +kernel
theorem dL_law_102 : decode cL_law 102 = .ok (.invokevirtual 21, 3) := by decide +kernel
theorem dL_law_105 : decode cL_law 105 = .ok (.aload_n 2, 1) := by decide +kernel
theorem dL_law_106 : decode cL_law 106 = .ok (.aload_n 0, 1) := by decide +kernel
theorem dL_law_107 : decode cL_law 107 = .ok (.iload_n 3, 1) := by decide +kernel
theorem dL_law_108 : decode cL_law 108 = .ok (.iconst 1, 1) := by decide +kernel
theorem dL_law_109 : decode cL_law 109 = .ok (.iadd, 1) := by decide +kernel
theorem dL_law_110 : decode cL_law 110 = .ok (.iaload, 1) := by decide +kernel
theorem dL_law_111 : decode cL_law 111 = .ok (.invokevirtual 25, 3) := by decide +kernel
theorem dL_law_114 : decode cL_law 114 = .ok (.if_icmp .eq 232, 3) := by decide +kernel
theorem dL_law_117 : decode cL_law 117 = .ok (.iconst 0, 1) := by decide +kernel
theorem dL_law_118 : decode cL_law 118 = .ok (.ireturn, 1) := by decide +kernel
theorem dL_law_119 : decode cL_law 119 = .ok (.aload_n 1, 1) := by decide +kernel
theorem dL_law_120 : decode cL_law 120 = .ok (.aload_n 0, 1) := by decide +kernel
theorem dL_law_121 : decode cL_law 121 = .ok (.iload_n 3, 1) := by decide +kernel
theorem dL_law_122 : decode cL_law 122 = .ok (.iconst 1, 1) := by decide +kernel
theorem dL_law_123 : decode cL_law 123 = .ok (.iadd, 1) := by decide +kernel
theorem dL_law_124 : decode cL_law 124 = .ok (.iaload, 1) := by decide +kernel
theorem dL_law_125 : decode cL_law 125 = .ok (.invokevirtual 26, 3) := by decide +kernel
theorem dL_law_128 : decode cL_law 128 = .ok (.aload_n 2, 1) := by decide +kernel
theorem dL_law_129 : decode cL_law 129 = .ok (.aload_n 0, 1) := by decide +kernel
theorem dL_law_130 : decode cL_law 130 = .ok (.iload_n 3, 1) := by decide +kernel
theorem dL_law_131 : decode cL_law 131 = .ok (.iconst 1, 1) := by decide +kernel
theorem dL_law_132 : decode cL_law 132 = .ok (.iadd, 1) := by decide +kernel
theorem dL_law_133 : decode cL_law 133 = .ok (.iaload, 1) := by decide +kernel
theorem dL_law_134 : decode cL_law 134 = .ok (.invokevirtual 29, 3) := by decide +kernel
theorem dL_law_137 : decode cL_law 137 = .ok (.if_icmp .eq 209, 3) := by decide +kernel
theorem dL_law_140 : decode cL_law 140 = .ok (.iconst 0, 1) := by decide +kernel
theorem dL_law_141 : decode cL_law 141 = .ok (.ireturn, 1) := by decide +kernel
theorem dL_law_142 : decode cL_law 142 = .ok (.aload_n 1, 1) := by decide +kernel
theorem dL_law_143 : decode cL_law 143 = .ok (.aload_n 0, 1) := by decide +kernel
theorem dL_law_144 : decode cL_law 144 = .ok (.iload_n 3, 1) := by decide +kernel
theorem dL_law_145 : decode cL_law 145 = .ok (.iconst 1, 1) := by decide +kernel
theorem dL_law_146 : decode cL_law 146 = .ok (.iadd, 1) := by decide +kernel
theorem dL_law_147 : decode cL_law 147 = .ok (.iaload, 1) := by decide +kernel
theorem dL_law_148 : decode cL_law 148 = .ok (.invokevirtual 30, 3) := by decide +kernel
theorem dL_law_151 : decode cL_law 151 = .ok (.aload_n 2, 1) := by decide +kernel
theorem dL_law_152 : decode cL_law 152 = .ok (.aload_n 0, 1) := by decide +kernel
theorem dL_law_153 : decode cL_law 153 = .ok (.iload_n 3, 1) := by decide +kernel
theorem dL_law_154 : decode cL_law 154 = .ok (.iconst 1, 1) := by decide +kernel
theorem dL_law_155 : decode cL_law 155 = .ok (.iadd, 1) := by decide +kernel
theorem dL_law_156 : decode cL_law 156 = .ok (.iaload, 1) := by decide +kernel
end
section
theorem dL_law_157 : decode cL_law 157 = .ok (.invokevirtual 33, 3) := by decide +kernel
theorem dL_law_160 : decode cL_law 160 = .ok (.if_icmp .eq 186, 3) := by decide +kernel
theorem dL_law_163 : decode cL_law 163 = .ok (.iconst 0, 1) := by decide +kernel
theorem dL_law_164 : decode cL_law 164 = .ok (.ireturn, 1) := by decide +kernel
theorem dL_law_165 : decode cL_law 165 = .ok (.aload_n 1, 1) := by decide +kernel
theorem dL_law_166 : decode cL_law 166 = .ok (.aload_n 0, 1) := by decide +kernel
theorem dL_law_167 : decode cL_law 167 = .ok (.iload_n 3, 1) := by decide +kernel
theorem dL_law_168 : decode cL_law 168 = .ok (.iconst 1, 1) := by decide +kernel
theorem dL_law_169 : decode cL_law 169 = .ok (.iadd, 1) := by decide +kernel
theorem dL_law_170 : decode cL_law 170 = .ok (.iaload, 1) := by decide +kernel
theorem dL_law_171 : decode cL_law 171 = .ok (.aload_n 0, 1) := by decide +kernel
theorem dL_law_172 : decode cL_law 172 = .ok (.iload_n 3, 1) := by decide +kernel
theorem dL_law_173 : decode cL_law 173 = .ok (.iconst 2, 1) := by decide +kernel
theorem dL_law_174 : decode cL_law 174 = .ok (.iadd, 1) := by decide +kernel
theorem dL_law_175 : decode cL_law 175 = .ok (.iaload, 1) := by decide +kernel
theorem dL_law_176 : decode cL_law 176 = .ok (.invokevirtual 34, 3) := by decide +kernel
theorem dL_law_179 : decode cL_law 179 = .ok (.aload_n 2, 1) := by decide +kernel
theorem dL_law_180 : decode cL_law 180 = .ok (.aload_n 0, 1) := by decide +kernel
theorem dL_law_181 : decode cL_law 181 = .ok (.iload_n 3, 1) := by decide +kernel
theorem dL_law_182 : decode cL_law 182 = .ok (.iconst 1, 1) := by decide +kernel
theorem dL_law_183 : decode cL_law 183 = .ok (.iadd, 1) := by decide +kernel
theorem dL_law_184 : decode cL_law 184 = .ok (.iaload, 1) := by decide +kernel
theorem dL_law_185 : decode cL_law 185 = .ok (.aload_n 0, 1) := by decide +kernel
theorem dL_law_186 : decode cL_law 186 = .ok (.iload_n 3, 1) := by decide +kernel
theorem dL_law_187 : decode cL_law 187 = .ok (.iconst 2, 1) := by decide +kernel
theorem dL_law_188 : decode cL_law 188 = .ok (.iadd, 1) := by decide +kernel
theorem dL_law_189 : decode cL_law 189 = .ok (.iaload, 1) := by decide +kernel
theorem dL_law_190 : decode cL_law 190 = .ok (.invokevirtual 38, 3) := by decide +kernel
theorem dL_law_193 : decode cL_law 193 = .ok (.if_icmp .eq 153, 3) := by decide +kernel
theorem dL_law_196 : decode cL_law 196 = .ok (.iconst 0, 1) := by decide +kernel
theorem dL_law_197 : decode cL_law 197 = .ok (.ireturn, 1) := by decide +kernel
theorem dL_law_198 : decode cL_law 198 = .ok (.aload_n 1, 1) := by decide +kernel
theorem dL_law_199 : decode cL_law 199 = .ok (.invokevirtual 39, 3) := by decide +kernel
theorem dL_law_202 : decode cL_law 202 = .ok (.aload_n 2, 1) := by decide +kernel
theorem dL_law_203 : decode cL_law 203 = .ok (.invokevirtual 43, 3) := by decide +kernel
theorem dL_law_206 : decode cL_law 206 = .ok (.if_icmp .eq 140, 3) := by decide +kernel
theorem dL_law_209 : decode cL_law 209 = .ok (.iconst 0, 1) := by decide +kernel
theorem dL_law_210 : decode cL_law 210 = .ok (.ireturn, 1) := by decide +kernel
theorem dL_law_211 : decode cL_law 211 = .ok (.aload_n 1, 1) := by decide +kernel
theorem dL_law_212 : decode cL_law 212 = .ok (.aload_n 0, 1) := by decide +kernel
theorem dL_law_213 : decode cL_law 213 = .ok (.iload_n 3, 1) := by decide +kernel
theorem dL_law_214 : decode cL_law 214 = .ok (.iconst 1, 1) := by decide +kernel
theorem dL_law_215 : decode cL_law 215 = .ok (.iadd, 1) := by decide +kernel
theorem dL_law_216 : decode cL_law 216 = .ok (.iaload, 1) := by decide +kernel
theorem dL_law_217 : decode cL_law 217 = .ok (.invokevirtual 44, 3) := by decide +kernel
theorem dL_law_220 : decode cL_law 220 = .ok (.aload_n 2, 1) := by decide +kernel
theorem dL_law_221 : decode cL_law 221 = .ok (.aload_n 0, 1) := by decide +kernel
theorem dL_law_222 : decode cL_law 222 = .ok (.iload_n 3, 1) := by decide +kernel
theorem dL_law_223 : decode cL_law 223 = .ok (.iconst 1, 1) := by decide +kernel
theorem dL_law_224 : decode cL_law 224 = .ok (.iadd, 1) := by decide +kernel
theorem dL_law_225 : decode cL_law 225 = .ok (.iaload, 1) := by decide +kernel
theorem dL_law_226 : decode cL_law 226 = .ok (.invokevirtual 47, 3) := by decide +kernel
theorem dL_law_229 : decode cL_law 229 = .ok (.if_icmp .eq 117, 3) := by decide +kernel
theorem dL_law_232 : decode cL_law 232 = .ok (.iconst 0, 1) := by decide +kernel
theorem dL_law_233 : decode cL_law 233 = .ok (.ireturn, 1) := by decide +kernel
theorem dL_law_234 : decode cL_law 234 = .ok (.aload_n 1, 1) := by decide +kernel
theorem dL_law_235 : decode cL_law 235 = .ok (.aload_n 0, 1) := by decide +kernel
theorem dL_law_236 : decode cL_law 236 = .ok (.iload_n 3, 1) := by decide +kernel
theorem dL_law_237 : decode cL_law 237 = .ok (.iconst 1, 1) := by decide +kernel
theorem dL_law_238 : decode cL_law 238 = .ok (.iadd, 1) := by decide +kernel
theorem dL_law_239 : decode cL_law 239 = .ok (.iaload, 1) := by decide +kernel
theorem dL_law_240 : decode cL_law 240 = .ok (.invokevirtual 48, 3) := by decide +kernel
theorem dL_law_243 : decode cL_law 243 = .ok (.aload_n 2, 1) := by decide +kernel
theorem dL_law_244 : decode cL_law 244 = .ok (.aload_n 0, 1) := by decide +kernel
theorem dL_law_245 : decode cL_law 245 = .ok (.iload_n 3, 1) := by decide +kernel
theorem dL_law_246 : decode cL_law 246 = .ok (.iconst 1, 1) := by decide +kernel
theorem dL_law_247 : decode cL_law 247 = .ok (.iadd, 1) := by decide +kernel
theorem dL_law_248 : decode cL_law 248 = .ok (.iaload, 1) := by decide +kernel
theorem dL_law_249 : decode cL_law 249 = .ok (.invokevirtual 51, 3) := by decide +kernel
theorem dL_law_252 : decode cL_law 252 = .ok (.if_icmp .eq 94, 3) := by decide +kernel
theorem dL_law_255 : decode cL_law 255 = .ok (.iconst 0, 1) := by decide +kernel
theorem dL_law_256 : decode cL_law 256 = .ok (.ireturn, 1) := by decide +kernel
theorem dL_law_257 : decode cL_law 257 = .ok (.aload_n 1, 1) := by decide +kernel
theorem dL_law_258 : decode cL_law 258 = .ok (.aload_n 0, 1) := by decide +kernel
theorem dL_law_259 : decode cL_law 259 = .ok (.iload_n 3, 1) := by decide +kernel
end
section
theorem dL_law_260 : decode cL_law 260 = .ok (.iconst 1, 1) := by decide +kernel
theorem dL_law_261 : decode cL_law 261 = .ok (.iadd, 1) := by decide +kernel
theorem dL_law_262 : decode cL_law 262 = .ok (.iaload, 1) := by decide +kernel
theorem dL_law_263 : decode cL_law 263 = .ok (.invokevirtual 52, 3) := by decide +kernel
theorem dL_law_266 : decode cL_law 266 = .ok (.aload_n 2, 1) := by decide +kernel
theorem dL_law_267 : decode cL_law 267 = .ok (.aload_n 0, 1) := by decide +kernel
theorem dL_law_268 : decode cL_law 268 = .ok (.iload_n 3, 1) := by decide +kernel
theorem dL_law_269 : decode cL_law 269 = .ok (.iconst 1, 1) := by decide +kernel
theorem dL_law_270 : decode cL_law 270 = .ok (.iadd, 1) := by decide +kernel
theorem dL_law_271 : decode cL_law 271 = .ok (.iaload, 1) := by decide +kernel
theorem dL_law_272 : decode cL_law 272 = .ok (.invokevirtual 55, 3) := by decide +kernel
theorem dL_law_275 : decode cL_law 275 = .ok (.if_icmp .eq 71, 3) := by decide +kernel
theorem dL_law_278 : decode cL_law 278 = .ok (.iconst 0, 1) := by decide +kernel
theorem dL_law_279 : decode cL_law 279 = .ok (.ireturn, 1) := by decide +kernel
theorem dL_law_280 : decode cL_law 280 = .ok (.aload_n 1, 1) := by decide +kernel
theorem dL_law_281 : decode cL_law 281 = .ok (.aload_n 0, 1) := by decide +kernel
theorem dL_law_282 : decode cL_law 282 = .ok (.iload_n 3, 1) := by decide +kernel
theorem dL_law_283 : decode cL_law 283 = .ok (.iconst 1, 1) := by decide +kernel
theorem dL_law_284 : decode cL_law 284 = .ok (.iadd, 1) := by decide +kernel
theorem dL_law_285 : decode cL_law 285 = .ok (.iaload, 1) := by decide +kernel
theorem dL_law_286 : decode cL_law 286 = .ok (.aload_n 0, 1) := by decide +kernel
theorem dL_law_287 : decode cL_law 287 = .ok (.iload_n 3, 1) := by decide +kernel
theorem dL_law_288 : decode cL_law 288 = .ok (.iconst 2, 1) := by decide +kernel
theorem dL_law_289 : decode cL_law 289 = .ok (.iadd, 1) := by decide +kernel
theorem dL_law_290 : decode cL_law 290 = .ok (.iaload, 1) := by decide +kernel
theorem dL_law_291 : decode cL_law 291 = .ok (.invokevirtual 56, 3) := by decide +kernel
theorem dL_law_294 : decode cL_law 294 = .ok (.aload_n 2, 1) := by decide +kernel
theorem dL_law_295 : decode cL_law 295 = .ok (.aload_n 0, 1) := by decide +kernel
theorem dL_law_296 : decode cL_law 296 = .ok (.iload_n 3, 1) := by decide +kernel
theorem dL_law_297 : decode cL_law 297 = .ok (.iconst 1, 1) := by decide +kernel
theorem dL_law_298 : decode cL_law 298 = .ok (.iadd, 1) := by decide +kernel
theorem dL_law_299 : decode cL_law 299 = .ok (.iaload, 1) := by decide +kernel
theorem dL_law_300 : decode cL_law 300 = .ok (.aload_n 0, 1) := by decide +kernel
theorem dL_law_301 : decode cL_law 301 = .ok (.iload_n 3, 1) := by decide +kernel
theorem dL_law_302 : decode cL_law 302 = .ok (.iconst 2, 1) := by decide +kernel
theorem dL_law_303 : decode cL_law 303 = .ok (.iadd, 1) := by decide +kernel
theorem dL_law_304 : decode cL_law 304 = .ok (.iaload, 1) := by decide +kernel
theorem dL_law_305 : decode cL_law 305 = .ok (.invokevirtual 60, 3) := by decide +kernel
theorem dL_law_308 : decode cL_law 308 = .ok (.if_icmp .eq 38, 3) := by decide +kernel
theorem dL_law_311 : decode cL_law 311 = .ok (.iconst 0, 1) := by decide +kernel
theorem dL_law_312 : decode cL_law 312 = .ok (.ireturn, 1) := by decide +kernel
theorem dL_law_313 : decode cL_law 313 = .ok (.aload_n 1, 1) := by decide +kernel
theorem dL_law_314 : decode cL_law 314 = .ok (.aload_n 0, 1) := by decide +kernel
theorem dL_law_315 : decode cL_law 315 = .ok (.iload_n 3, 1) := by decide +kernel
theorem dL_law_316 : decode cL_law 316 = .ok (.iconst 1, 1) := by decide +kernel
theorem dL_law_317 : decode cL_law 317 = .ok (.iadd, 1) := by decide +kernel
theorem dL_law_318 : decode cL_law 318 = .ok (.iaload, 1) := by decide +kernel
theorem dL_law_319 : decode cL_law 319 = .ok (.aload_n 0, 1) := by decide +kernel
theorem dL_law_320 : decode cL_law 320 = .ok (.iload_n 3, 1) := by decide +kernel
theorem dL_law_321 : decode cL_law 321 = .ok (.iconst 2, 1) := by decide +kernel
theorem dL_law_322 : decode cL_law 322 = .ok (.iadd, 1) := by decide +kernel
theorem dL_law_323 : decode cL_law 323 = .ok (.iaload, 1) := by decide +kernel
theorem dL_law_324 : decode cL_law 324 = .ok (.invokevirtual 61, 3) := by decide +kernel
theorem dL_law_327 : decode cL_law 327 = .ok (.aload_n 2, 1) := by decide +kernel
theorem dL_law_328 : decode cL_law 328 = .ok (.aload_n 0, 1) := by decide +kernel
theorem dL_law_329 : decode cL_law 329 = .ok (.iload_n 3, 1) := by decide +kernel
theorem dL_law_330 : decode cL_law 330 = .ok (.iconst 1, 1) := by decide +kernel
theorem dL_law_331 : decode cL_law 331 = .ok (.iadd, 1) := by decide +kernel
theorem dL_law_332 : decode cL_law 332 = .ok (.iaload, 1) := by decide +kernel
theorem dL_law_333 : decode cL_law 333 = .ok (.aload_n 0, 1) := by decide +kernel
theorem dL_law_334 : decode cL_law 334 = .ok (.iload_n 3, 1) := by decide +kernel
theorem dL_law_335 : decode cL_law 335 = .ok (.iconst 2, 1) := by decide +kernel
theorem dL_law_336 : decode cL_law 336 = .ok (.iadd, 1) := by decide +kernel
theorem dL_law_337 : decode cL_law 337 = .ok (.iaload, 1) := by decide +kernel
theorem dL_law_338 : decode cL_law 338 = .ok (.invokevirtual 64, 3) := by decide +kernel
theorem dL_law_341 : decode cL_law 341 = .ok (.if_icmp .eq 5, 3) := by decide +kernel
theorem dL_law_344 : decode cL_law 344 = .ok (.iconst 0, 1) := by decide +kernel
theorem dL_law_345 : decode cL_law 345 = .ok (.ireturn, 1) := by decide +kernel
theorem dL_law_346 : decode cL_law 346 = .ok (.iinc 3 3, 3) := by decide +kernel
theorem dL_law_349 : decode cL_law 349 = .ok (.goto (-321), 3) := by decide +kernel
theorem dL_law_352 : decode cL_law 352 = .ok (.iconst 1, 1) := by decide +kernel
theorem dL_law_353 : decode cL_law 353 = .ok (.ireturn, 1) := by decide +kernel
end
section
section ZL
variable {p : Program} {l : Launch} {e : Env} {R : Room} {s : State} {m : MethodId} {args : Array Value} {below : List Frame} {meth : Method} {c : Code} {H : Heap} {locs : List Loc} {cells slots : Nat} {Q : State → Prop}
variable {cc : ByteArray} {pc : Nat} {ls : Array Slot} {rest : List Value} {A : Nat → Prop} {H0 : Heap}
theorem zz_sld (hexec : p.tables.exec = Jvm.exec) (hb : c.code = cc) {b L : Nat} {xs : Nat → Int32} (hX : va_X b L xs s H0) (hbl : b < H0.size) (hbA : ¬ A b) (hS : va_S A H0 H locs) {j : Nat} (hj : j < L) (hL : L < 2 ^ 31) (hdg : decode cc pc = .ok (.iaload, 1))
    (kk : W p l e R s m args below meth c H locs cells slots Q (F0 m (pc + 1) ls (.int (xs j) :: rest))) : W p l e R s m args below meth c H locs cells slots Q (F0 m pc ls (.int (nI j) :: .ref b :: rest)) := by
  refine va_sld hexec hb hX hbl hbA hS (vp_in_nI hj hL) hdg ?_
  rw [nI_clamp (Nat.lt_trans hj hL)]
  exact kk
end ZL
theorem kp_uniq {R lo a b : Nat} {f : Nat → Nat} (h1 : lo ≤ a) (h2 : f a ≤ R) (h3 : ∀ k, lo ≤ k → k < a → R < f k) (h4 : lo ≤ b) (h5 : f b ≤ R) (h6 : ∀ k, lo ≤ k → k < b → R < f k) : a = b := by
  rcases Nat.lt_trichotomy a b with h | h | h
  · have := h6 a h1 h
    omega
  · exact h
  · have := h3 b h4 h
    omega
theorem dl_uniq {lo hi a b : Nat} {P : Nat → Prop} (h1 : lo ≤ a) (h2 : a ≤ hi) (h3 : ∀ k, lo ≤ k → k < a → ¬ P k) (h4 : a < hi → P a) (g1 : lo ≤ b) (g2 : b ≤ hi) (g3 : ∀ k, lo ≤ k → k < b → ¬ P k) (g4 : b < hi → P b) : a = b := by
  rcases Nat.lt_trichotomy a b with h | h | h
  · exact absurd (h4 (by omega)) (g3 a h1 h)
  · exact h
  · exact absurd (g4 (by omega)) (h3 b g1 h)
def md_next (lo hi : Nat) (off : Nat → Nat) (tm bz : Nat → Int32) (fr to : Int32) (pa os : Nat) (Of : Nat → Int32) (most r : Int32) (u : Nat × Nat × Nat × (Nat → Int32)) : Prop :=
  ∃ w, pa - lo ≤ w ∧ w ≤ hi - lo ∧ (∀ t, pa - lo ≤ t → t < w → ¬ (fr ≤ tm (lo + t) ∧ tm (lo + t) ≤ to)) ∧ ((w = hi - lo ∧ r = (-1) ∧ u = (w, 0, os, Of)) ∨ (w < hi - lo ∧ (fr ≤ tm (lo + w) ∧ tm (lo + w) ≤ to) ∧ ((¬ nI (off (lo + w + 1) - off (lo + w)) ≤ most ∧ r = (-2) ∧ u = (w, 1, os, Of)) ∨ (nI (off (lo + w + 1) - off (lo + w)) ≤ most ∧ r = nI (off (lo + w + 1) - off (lo + w)) ∧ u.1 = w + 1 ∧ u.2.1 = 1 ∧ u.2.2.1 = off (lo + w + 1) - off (lo + w) ∧ ∀ t, t < off (lo + w + 1) - off (lo + w) → u.2.2.2 t = (bz (off (lo + w) + t)).toInt8.toInt32))))
theorem md_next_both {lo hi : Nat} {off : Nat → Nat} {tm bz : Nat → Int32} {fr to : Int32} {pa os : Nat} {Of Om oz : Nat → Int32} {most r r' : Int32} {u u' : Nat × Nat × Nat × (Nat → Int32)} (h1 : md_next lo hi off tm bz fr to pa os Of most r u) (h2 : md_next lo hi off tm bz fr to pa os Om most r' u')
    (hO : os ≤ 512 ∧ (∀ t, t < os → Of t = (oz t).toInt8.toInt32) ∧ ∀ t, t < os → Om t = (oz t).toInt8.toInt32) (h512 : ∀ i, lo ≤ i → i < hi → off (i + 1) - off i ≤ 512) :
    r = r' ∧ u.1 = u'.1 ∧ u.2.1 = u'.2.1 ∧ u.2.2.1 = u'.2.2.1 ∧ u.1 ≤ hi - lo ∧ u.2.1 ≤ 1 ∧ ∃ oz' : Nat → Int32, u.2.2.1 ≤ 512 ∧ (∀ t, t < u.2.2.1 → u.2.2.2 t = (oz' t).toInt8.toInt32) ∧ ∀ t, t < u.2.2.1 → u'.2.2.2 t = (oz' t).toInt8.toInt32 := by
  obtain ⟨w, a1, a2, a3, a4⟩ := h1
  obtain ⟨w', b1, b2, b3, b4⟩ := h2
  have ew : w = w' := by
    refine dl_uniq (P := fun t => fr ≤ tm (lo + t) ∧ tm (lo + t) ≤ to) a1 a2 a3 ?_ b1 b2 b3 ?_
    · intro q
      rcases a4 with ⟨z, -⟩ | ⟨-, z, -⟩
      · omega
      · exact z
    · intro q
      rcases b4 with ⟨z, -⟩ | ⟨-, z, -⟩
      · omega
      · exact z
  subst ew
  rcases a4 with ⟨z1, z2, z3⟩ | ⟨z1, -, a5⟩
  · rcases b4 with ⟨y1, y2, y3⟩ | ⟨y1, -⟩
    · subst z2; subst z3; subst y2; subst y3
      exact ⟨rfl, rfl, rfl, rfl, a2, Nat.zero_le 1, oz, hO⟩
    · omega
  · rcases b4 with ⟨y1, -⟩ | ⟨-, -, b5⟩
    · omega
    · rcases a5 with ⟨c1, c2, c3⟩ | ⟨c1, c2, c3, c4, c5, c6⟩
      · rcases b5 with ⟨-, d2, d3⟩ | ⟨d1, -⟩
        · subst c2; subst c3; subst d2; subst d3
          exact ⟨rfl, rfl, rfl, rfl, a2, Nat.le_refl 1, oz, hO⟩
        · exact absurd d1 c1
      · rcases b5 with ⟨d1, -⟩ | ⟨-, d2, d3, d4, d5, d6⟩
        · exact absurd c1 d1
        · have h5 := h512 (lo + w) (by omega) (by omega)
          refine ⟨c2.trans d2.symm, c3.trans d3.symm, c4.trans d4.symm, c5.trans d5.symm, by omega, by omega, fun t => bz (off (lo + w) + t), by omega, fun t h => c6 t (by omega), fun t h => d6 t (by omega)⟩
def st_inv (R lo hi : Nat) (off : Nat → Nat) (ts os uw pa cb : Nat) (tm bz tz oz Bf Sf Tf Xf Of Bm Sm Tm Xm Om : Nat → Int32) : Prop :=
  rg_ok R lo hi off ∧ rg_rep R lo hi off tm bz Bf Sf Tf ∧ rm_rep lo hi off tm bz Bm Sm Tm ∧ (∀ i, lo ≤ i → i < hi → off (i + 1) - off i ≤ 512) ∧ (pa ≤ hi ∧ hi ≤ cb) ∧ (ts ≤ 512 ∧ (∀ t, t < ts → Xf t = (tz t).toInt8.toInt32) ∧ ∀ t, t < ts → Xm t = (tz t).toInt8.toInt32) ∧ (os ≤ 512 ∧ (∀ t, t < os → Of t = (oz t).toInt8.toInt32) ∧ ∀ t, t < os → Om t = (oz t).toInt8.toInt32) ∧ uw ≤ 1
theorem st_512 {lo hi ts : Nat} {off : Nat → Nat} {k : Nat} (h : ∀ i, lo ≤ i → i < hi → off (i + 1) - off i ≤ 512) (hk : lo ≤ k) (hts : ts ≤ 512) : ∀ i, k ≤ i → i < hi + 1 → zu off (hi + 1) (off hi + ts) (i + 1) - zu off (hi + 1) (off hi + ts) i ≤ 512 := by
  intro i a b
  by_cases c : i = hi
  · subst c
    rw [zu_s, zu_n (by omega)]
    omega
  · rw [zu_n (by omega), zu_n (by omega)]
    exact h i (by omega) (by omega)
end
section
def LI (dC : Nat → ClassId) (dI : Nat → Nat → Nat) (s : State) (b aP aR aB aS aT aX aO mM mX mO mT mS mB : Nat) (cB cS cT cX cO eX eO eT eS eB : ClassId) (R cb i : Nat) (H : Heap) (locs : List Loc) (ls : Array Slot) : Prop :=
  ∃ (lo hi : Nat) (off : Nat → Nat) (ts os uw : Nat) (fr to : Int32) (pa dr de : Nat) (tm bz tz oz Bf Sf Tf Xf Of Bm Sm Tm Xm Om : Nat → Int32), st_inv R lo hi off ts os uw pa cb tm bz tz oz Bf Sf Tf Xf Of Bm Sm Tm Xm Om ∧ va_P (dC, dI) vwCl [(aP, .inr (1, [.ref aR, .ref aX, .int (nI ts), .ref aO, .int (nI os), .int (nI uw), .int fr, .int to, .int (nI (pa - lo)), .int (nI hi), .int (nI dr), .int (nI de)])), (aR, .inr (0, [.int (nI R), .ref aB, .ref aS, .ref aT, .int (nI (lo % R)), .int (nI (hi - lo)), .int (nI (off hi % R)), .int (nI (off hi - off lo))])), (aB, .inl (cB, R, .inl Bf)), (aS, .inl (cS, R, .inl Sf)), (aT, .inl (cT, R, .inl Tf)), (aX, .inl (cX, 512, .inl Xf)), (aO, .inl (cO, 512, .inl Of)), (mM, .inr (2, [.int (nI 0), .int (nI R), .ref mX, .int (nI ts), .ref mO, .int (nI os), .int (nI (hi - lo)), .ref mT, .ref mS, .ref mB, .int (nI (off hi - off lo)), .int (nI hi), .int (nI dr), .int (nI de), .int (nI uw), .int fr, .int to, .int (nI pa)])), (mX, .inl (eX, 512, .inl Xm)), (mO, .inl (eO, 512, .inl Om)), (mT, .inl (eT, 16384, .inl Tm)), (mS, .inl (eS, 16384, .inl Sm)), (mB, .inl (eB, 16384, .inl Bm))] H ∧ va_D (fun q : Nat => s.heap.size ≤ q) [(aP, .inr (1, [.ref aR, .ref aX, .int (nI ts), .ref aO, .int (nI os), .int (nI uw), .int fr, .int to, .int (nI (pa - lo)), .int (nI hi), .int (nI dr), .int (nI de)])), (aR, .inr (0, [.int (nI R), .ref aB, .ref aS, .ref aT, .int (nI (lo % R)), .int (nI (hi - lo)), .int (nI (off hi % R)), .int (nI (off hi - off lo))])), (aB, .inl (cB, R, .inl Bf)), (aS, .inl (cS, R, .inl Sf)), (aT, .inl (cT, R, .inl Tf)), (aX, .inl (cX, 512, .inl Xf)), (aO, .inl (cO, 512, .inl Of)), (mM, .inr (2, [.int (nI 0), .int (nI R), .ref mX, .int (nI ts), .ref mO, .int (nI os), .int (nI (hi - lo)), .ref mT, .ref mS, .ref mB, .int (nI (off hi - off lo)), .int (nI hi), .int (nI dr), .int (nI de), .int (nI uw), .int fr, .int to, .int (nI pa)])), (mX, .inl (eX, 512, .inl Xm)), (mO, .inl (eO, 512, .inl Om)), (mT, .inl (eT, 16384, .inl Tm)), (mS, .inl (eS, 16384, .inl Sm)), (mB, .inl (eB, 16384, .inl Bm))] ∧ va_S (fun q : Nat => s.heap.size ≤ q) s.heap H locs ∧ lv_has ls 4 [(0, .ref b), (1, .ref aP), (2, .ref mM), (3, .int (nI i))]
set_option maxHeartbeats 8000000 in
set_option maxRecDepth 100000 in
theorem law_stop {p : Program} {l : Launch} {e : Env} {s : State} {m : MethodId} {below : List Frame} {meth : Method} {c : Code} {dC : Nat → ClassId} {dI : Nat → Nat → Nat} {b L : Nat} {xs : Nat → Int32} (hL : L ≤ 1537) (C0 : lw_At p s m meth c b L xs) {aP aR aB aS aT aX aO mM mX mO mT mS mB : Nat} {cB cS cT cX cO eX eO eT eS eB : ClassId} {R i : Nat} (hK : va_K (dC, dI) vwCl [(cB, .byte), (cS, .int), (cT, .int), (cX, .byte), (cO, .byte), (eX, .byte), (eO, .byte), (eT, .int), (eS, .int), (eB, .byte)] s) (hi3 : i + 3 ≤ L) (K : ∀ (H : Heap) (locs : List Loc) (ls : Array Slot), LI dC dI s b aP aR aB aS aT aX aO mM mX mO mT mS mB cB cS cT cX cO eX eO eT eS eB R (i + 1) i H locs ls → W p l e room_1 s m #[Value.ref b] below meth c H locs 13 100390 (lw_Z below #[Value.ref b] s) (F0 m 346 ls [])) {H : Heap} {locs : List Loc} {ls : Array Slot} (h : LI dC dI s b aP aR aB aS aT aX aO mM mX mO mT mS mB cB cS cT cX cO eX eO eT eS eB R i i H locs ls) : W p l e room_1 s m #[Value.ref b] below meth c H locs 13 100390 (lw_Z below #[Value.ref b] s) (F0 m 198 ls []) := by
  obtain ⟨hx, hb, hr, hml, hown, hts, hX, hbl, hlocks, hgv⟩ := id C0
  have hA : ∀ q : Nat, s.heap.size ≤ q → (fun q : Nat => s.heap.size ≤ q) q := fun _ h => h
  have hbA : ¬ (fun q : Nat => s.heap.size ≤ q) b := Nat.not_le.mpr hbl
  have hown : s.vm.findClass RL = some m.cls := hown
  obtain ⟨lo, hi, off, ts, os, uw, fr, to, pa, dr, de, tm, bz, tz, oz, Bf, Sf, Tf, Xf, Of, Bm, Sm, Tm, Xm, Om, hinv, hP, hD, hS, hl⟩ := h
  obtain ⟨hok, hrep, hrm, h512, ⟨hpa, hcb⟩, ⟨hts5, htX, htM⟩, ⟨hos5, hoX, hoM⟩, huw⟩ := id hinv
  have hll := hok.2.1
  have hRR := hok.1
  refine lv_aload_n hx hb dL_law_198 rfl (lv_at hl 1 rfl) ?_
  refine zz_callMi (As := []) (rest := []) (wr := [(aR, .inr (0, [.int (nI R), .ref aB, .ref aS, .ref aT, .int (nI (lo % R)), .int (nI (hi - lo)), .int (nI (off hi % R)), .int (nI (off hi - off lo))])), (aB, .inl (cB, R, .inl Bf)), (aS, .inl (cS, R, .inl Sf)), (aT, .inl (cT, R, .inl Tf)), (aX, .inl (cX, 512, .inl Xf)), (aO, .inl (cO, 512, .inl Of)), (mM, .inr (2, [.int (nI 0), .int (nI R), .ref mX, .int (nI ts), .ref mO, .int (nI os), .int (nI (hi - lo)), .ref mT, .ref mS, .ref mB, .int (nI (off hi - off lo)), .int (nI hi), .int (nI dr), .int (nI de), .int (nI uw), .int fr, .int to, .int (nI pa)])), (mX, .inl (eX, 512, .inl Xm)), (mO, .inl (eO, 512, .inl Om)), (mT, .inl (eT, 16384, .inl Tm)), (mS, .inl (eS, 16384, .inl Sm)), (mB, .inl (eB, 16384, .inl Bm))]) ⟨hx, hb, hml, hown, hts⟩ (c_P_stop l dC dI aP aR aX aO ts os uw fr to (pa - lo) hi dr de huw _) (cwV 0 hts gl_X1_stop rfl rfl rfl (by decide +kernel) ⟨Nat.le_of_ble_eq_true rfl, Nat.le_of_ble_eq_true rfl⟩) hP hD hK hS hA [0] [1, 2, 3, 4, 5, 6, 7, 8, 9, 10, 11, 12] [] rfl rfl rfl (by decide) (by decide) (by decide) rfl 0 rfl rfl rfl rfl hl.1 rfl (Nat.le_of_ble_eq_true rfl) dL_law_199 ⟨Nat.le_of_ble_eq_true rfl, Nat.le_of_ble_eq_true rfl⟩ (fun r199 u199 H locs e199 hP hD hS => ?_)
  have hP : va_P (dC, dI) vwCl [(aR, .inr (0, [.int (nI R), .ref aB, .ref aS, .ref aT, .int (nI (lo % R)), .int (nI (hi - lo)), .int (nI (off hi % R)), .int (nI (off hi - off lo))])), (aB, .inl (cB, R, .inl Bf)), (aS, .inl (cS, R, .inl Sf)), (aT, .inl (cT, R, .inl Tf)), (aX, .inl (cX, 512, .inl Xf)), (aO, .inl (cO, 512, .inl Of)), (mM, .inr (2, [.int (nI 0), .int (nI R), .ref mX, .int (nI ts), .ref mO, .int (nI os), .int (nI (hi - lo)), .ref mT, .ref mS, .ref mB, .int (nI (off hi - off lo)), .int (nI hi), .int (nI dr), .int (nI de), .int (nI uw), .int fr, .int to, .int (nI pa)])), (mX, .inl (eX, 512, .inl Xm)), (mO, .inl (eO, 512, .inl Om)), (mT, .inl (eT, 16384, .inl Tm)), (mS, .inl (eS, 16384, .inl Sm)), (mB, .inl (eB, 16384, .inl Bm)), (aP, .inr (1, [.ref aR, .ref aX, .int (nI ts), .ref aO, .int (nI os), .int (nI 0), .int fr, .int to, .int (nI (pa - lo)), .int (nI hi), .int (nI dr), .int (nI de)]))] H := hP
  have hD : va_D (fun q : Nat => s.heap.size ≤ q) [(aR, .inr (0, [.int (nI R), .ref aB, .ref aS, .ref aT, .int (nI (lo % R)), .int (nI (hi - lo)), .int (nI (off hi % R)), .int (nI (off hi - off lo))])), (aB, .inl (cB, R, .inl Bf)), (aS, .inl (cS, R, .inl Sf)), (aT, .inl (cT, R, .inl Tf)), (aX, .inl (cX, 512, .inl Xf)), (aO, .inl (cO, 512, .inl Of)), (mM, .inr (2, [.int (nI 0), .int (nI R), .ref mX, .int (nI ts), .ref mO, .int (nI os), .int (nI (hi - lo)), .ref mT, .ref mS, .ref mB, .int (nI (off hi - off lo)), .int (nI hi), .int (nI dr), .int (nI de), .int (nI uw), .int fr, .int to, .int (nI pa)])), (mX, .inl (eX, 512, .inl Xm)), (mO, .inl (eO, 512, .inl Om)), (mT, .inl (eT, 16384, .inl Tm)), (mS, .inl (eS, 16384, .inl Sm)), (mB, .inl (eB, 16384, .inl Bm)), (aP, .inr (1, [.ref aR, .ref aX, .int (nI ts), .ref aO, .int (nI os), .int (nI 0), .int fr, .int to, .int (nI (pa - lo)), .int (nI hi), .int (nI dr), .int (nI de)]))] := hD
  subst e199
  refine lv_aload_n hx hb dL_law_202 rfl (lv_at hl 2 rfl) ?_
  refine zz_callMi (As := []) (rest := [.int (nI uw)]) (wr := [(aR, .inr (0, [.int (nI R), .ref aB, .ref aS, .ref aT, .int (nI (lo % R)), .int (nI (hi - lo)), .int (nI (off hi % R)), .int (nI (off hi - off lo))])), (aB, .inl (cB, R, .inl Bf)), (aS, .inl (cS, R, .inl Sf)), (aT, .inl (cT, R, .inl Tf)), (aX, .inl (cX, 512, .inl Xf)), (aO, .inl (cO, 512, .inl Of)), (mX, .inl (eX, 512, .inl Xm)), (mO, .inl (eO, 512, .inl Om)), (mT, .inl (eT, 16384, .inl Tm)), (mS, .inl (eS, 16384, .inl Sm)), (mB, .inl (eB, 16384, .inl Bm)), (aP, .inr (1, [.ref aR, .ref aX, .int (nI ts), .ref aO, .int (nI os), .int (nI 0), .int fr, .int to, .int (nI (pa - lo)), .int (nI hi), .int (nI dr), .int (nI de)]))]) ⟨hx, hb, hml, hown, hts⟩ (c_M_stop l dC dI mM mX mO mT mS mB R ts os (hi - lo) (off hi - off lo) hi dr de uw fr to pa huw _) (cwV 0 hts gl_M_stop rfl rfl rfl (by decide +kernel) ⟨Nat.le_of_ble_eq_true rfl, Nat.le_of_ble_eq_true rfl⟩) hP hD hK hS hA [6] [0, 1, 2, 3, 4, 5, 7, 8, 9, 10, 11, 12] [] rfl rfl rfl (by decide) (by decide) (by decide) rfl 0 rfl rfl rfl rfl hl.1 rfl (Nat.le_of_ble_eq_true rfl) dL_law_203 ⟨Nat.le_of_ble_eq_true rfl, Nat.le_of_ble_eq_true rfl⟩ (fun r203 u203 H locs e203 hP hD hS => ?_)
  have hP : va_P (dC, dI) vwCl [(aR, .inr (0, [.int (nI R), .ref aB, .ref aS, .ref aT, .int (nI (lo % R)), .int (nI (hi - lo)), .int (nI (off hi % R)), .int (nI (off hi - off lo))])), (aB, .inl (cB, R, .inl Bf)), (aS, .inl (cS, R, .inl Sf)), (aT, .inl (cT, R, .inl Tf)), (aX, .inl (cX, 512, .inl Xf)), (aO, .inl (cO, 512, .inl Of)), (mX, .inl (eX, 512, .inl Xm)), (mO, .inl (eO, 512, .inl Om)), (mT, .inl (eT, 16384, .inl Tm)), (mS, .inl (eS, 16384, .inl Sm)), (mB, .inl (eB, 16384, .inl Bm)), (aP, .inr (1, [.ref aR, .ref aX, .int (nI ts), .ref aO, .int (nI os), .int (nI 0), .int fr, .int to, .int (nI (pa - lo)), .int (nI hi), .int (nI dr), .int (nI de)])), (mM, .inr (2, [.int (nI 0), .int (nI R), .ref mX, .int (nI ts), .ref mO, .int (nI os), .int (nI (hi - lo)), .ref mT, .ref mS, .ref mB, .int (nI (off hi - off lo)), .int (nI hi), .int (nI dr), .int (nI de), .int (nI 0), .int fr, .int to, .int (nI pa)]))] H := hP
  have hD : va_D (fun q : Nat => s.heap.size ≤ q) [(aR, .inr (0, [.int (nI R), .ref aB, .ref aS, .ref aT, .int (nI (lo % R)), .int (nI (hi - lo)), .int (nI (off hi % R)), .int (nI (off hi - off lo))])), (aB, .inl (cB, R, .inl Bf)), (aS, .inl (cS, R, .inl Sf)), (aT, .inl (cT, R, .inl Tf)), (aX, .inl (cX, 512, .inl Xf)), (aO, .inl (cO, 512, .inl Of)), (mX, .inl (eX, 512, .inl Xm)), (mO, .inl (eO, 512, .inl Om)), (mT, .inl (eT, 16384, .inl Tm)), (mS, .inl (eS, 16384, .inl Sm)), (mB, .inl (eB, 16384, .inl Bm)), (aP, .inr (1, [.ref aR, .ref aX, .int (nI ts), .ref aO, .int (nI os), .int (nI 0), .int fr, .int to, .int (nI (pa - lo)), .int (nI hi), .int (nI dr), .int (nI de)])), (mM, .inr (2, [.int (nI 0), .int (nI R), .ref mX, .int (nI ts), .ref mO, .int (nI os), .int (nI (hi - lo)), .ref mT, .ref mS, .ref mB, .int (nI (off hi - off lo)), .int (nI hi), .int (nI dr), .int (nI de), .int (nI 0), .int fr, .int to, .int (nI pa)]))] := hD
  subst e203
  refine lv_icmp_eq (tgt := 346) hx hb dL_law_206 (by decide) (fun c206 => ?_) (fun c206 => ?_)
  · have hP := hP.sub (ws' := [(aP, .inr (1, [.ref aR, .ref aX, .int (nI ts), .ref aO, .int (nI os), .int (nI 0), .int fr, .int to, .int (nI (pa - lo)), .int (nI hi), .int (nI dr), .int (nI de)])), (aR, .inr (0, [.int (nI R), .ref aB, .ref aS, .ref aT, .int (nI (lo % R)), .int (nI (hi - lo)), .int (nI (off hi % R)), .int (nI (off hi - off lo))])), (aB, .inl (cB, R, .inl Bf)), (aS, .inl (cS, R, .inl Sf)), (aT, .inl (cT, R, .inl Tf)), (aX, .inl (cX, 512, .inl Xf)), (aO, .inl (cO, 512, .inl Of)), (mM, .inr (2, [.int (nI 0), .int (nI R), .ref mX, .int (nI ts), .ref mO, .int (nI os), .int (nI (hi - lo)), .ref mT, .ref mS, .ref mB, .int (nI (off hi - off lo)), .int (nI hi), .int (nI dr), .int (nI de), .int (nI 0), .int fr, .int to, .int (nI pa)])), (mX, .inl (eX, 512, .inl Xm)), (mO, .inl (eO, 512, .inl Om)), (mT, .inl (eT, 16384, .inl Tm)), (mS, .inl (eS, 16384, .inl Sm)), (mB, .inl (eB, 16384, .inl Bm))]) [11, 0, 1, 2, 3, 4, 5, 12, 6, 7, 8, 9, 10] rfl
    have hD := hD.sub (ws' := [(aP, .inr (1, [.ref aR, .ref aX, .int (nI ts), .ref aO, .int (nI os), .int (nI 0), .int fr, .int to, .int (nI (pa - lo)), .int (nI hi), .int (nI dr), .int (nI de)])), (aR, .inr (0, [.int (nI R), .ref aB, .ref aS, .ref aT, .int (nI (lo % R)), .int (nI (hi - lo)), .int (nI (off hi % R)), .int (nI (off hi - off lo))])), (aB, .inl (cB, R, .inl Bf)), (aS, .inl (cS, R, .inl Sf)), (aT, .inl (cT, R, .inl Tf)), (aX, .inl (cX, 512, .inl Xf)), (aO, .inl (cO, 512, .inl Of)), (mM, .inr (2, [.int (nI 0), .int (nI R), .ref mX, .int (nI ts), .ref mO, .int (nI os), .int (nI (hi - lo)), .ref mT, .ref mS, .ref mB, .int (nI (off hi - off lo)), .int (nI hi), .int (nI dr), .int (nI de), .int (nI 0), .int fr, .int to, .int (nI pa)])), (mX, .inl (eX, 512, .inl Xm)), (mO, .inl (eO, 512, .inl Om)), (mT, .inl (eT, 16384, .inl Tm)), (mS, .inl (eS, 16384, .inl Sm)), (mB, .inl (eB, 16384, .inl Bm))]) [11, 0, 1, 2, 3, 4, 5, 12, 6, 7, 8, 9, 10] (by decide) rfl
    exact K _ _ _ ⟨lo, hi, off, ts, os, 0, fr, to, pa, dr, de, tm, bz, tz, oz, Bf, Sf, Tf, Xf, Of, Bm, Sm, Tm, Xm, Om, ⟨hok, hrep, hrm, h512, ⟨hpa, by omega⟩, ⟨hts5, htX, htM⟩, ⟨hos5, hoX, hoM⟩, Nat.zero_le 1⟩, hP, hD, hS, lv_sub hl [0, 1, 2, 3] rfl⟩
  · exact absurd rfl c206
set_option maxHeartbeats 8000000 in
set_option maxRecDepth 100000 in
theorem law_out {p : Program} {l : Launch} {e : Env} {s : State} {m : MethodId} {below : List Frame} {meth : Method} {c : Code} {dC : Nat → ClassId} {dI : Nat → Nat → Nat} {b L : Nat} {xs : Nat → Int32} (hL : L ≤ 1537) (C0 : lw_At p s m meth c b L xs) {aP aR aB aS aT aX aO mM mX mO mT mS mB : Nat} {cB cS cT cX cO eX eO eT eS eB : ClassId} {R i : Nat} (hK : va_K (dC, dI) vwCl [(cB, .byte), (cS, .int), (cT, .int), (cX, .byte), (cO, .byte), (eX, .byte), (eO, .byte), (eT, .int), (eS, .int), (eB, .byte)] s) (hi3 : i + 3 ≤ L) (K : ∀ (H : Heap) (locs : List Loc) (ls : Array Slot), LI dC dI s b aP aR aB aS aT aX aO mM mX mO mT mS mB cB cS cT cX cO eX eO eT eS eB R (i + 1) i H locs ls → W p l e room_1 s m #[Value.ref b] below meth c H locs 13 100390 (lw_Z below #[Value.ref b] s) (F0 m 346 ls [])) {H : Heap} {locs : List Loc} {ls : Array Slot} (h : LI dC dI s b aP aR aB aS aT aX aO mM mX mO mT mS mB cB cS cT cX cO eX eO eT eS eB R i i H locs ls) : W p l e room_1 s m #[Value.ref b] below meth c H locs 13 100390 (lw_Z below #[Value.ref b] s) (F0 m 234 ls []) := by
  obtain ⟨hx, hb, hr, hml, hown, hts, hX, hbl, hlocks, hgv⟩ := id C0
  have hA : ∀ q : Nat, s.heap.size ≤ q → (fun q : Nat => s.heap.size ≤ q) q := fun _ h => h
  have hbA : ¬ (fun q : Nat => s.heap.size ≤ q) b := Nat.not_le.mpr hbl
  have hown : s.vm.findClass RL = some m.cls := hown
  obtain ⟨lo, hi, off, ts, os, uw, fr, to, pa, dr, de, tm, bz, tz, oz, Bf, Sf, Tf, Xf, Of, Bm, Sm, Tm, Xm, Om, hinv, hP, hD, hS, hl⟩ := h
  obtain ⟨hok, hrep, hrm, h512, ⟨hpa, hcb⟩, ⟨hts5, htX, htM⟩, ⟨hos5, hoX, hoM⟩, huw⟩ := id hinv
  have hll := hok.2.1
  have hRR := hok.1
  refine lv_aload_n hx hb dL_law_234 rfl (lv_at hl 1 rfl) ?_
  refine lv_aload_n hx hb dL_law_235 rfl (lv_at hl 0 rfl) ?_
  refine lv_iload_n hx hb dL_law_236 rfl (lv_at hl 3 rfl) ?_
  refine lv_iconst (v := nI 1) hx hb dL_law_237 (by decide) ?_
  refine lv_iadd hx hb dL_law_238 ?_
  refine zz_as (nI (i + 1)) (nI_add _ _) ?_
  refine zz_sld hx hb hX hbl hbA hS (j := i + 1) (by omega) (by omega) dL_law_239 ?_
  refine zz_callR (As := [.int (xs (i + 1))]) (rest := []) ⟨hx, hb, hml, hown, hts⟩ (c_P_out l dC dI aP aR aX aO ts os uw fr to (pa - lo) hi dr de cO Of oz ((xs (i + 1))) hos5 hoX) (cwV 1 hts gl_X1_out rfl rfl rfl (by decide +kernel) ⟨Nat.le_of_ble_eq_true rfl, Nat.le_of_ble_eq_true rfl⟩) (hP.sub [0, 6] rfl) (hK.sub [4] rfl) 0 rfl rfl rfl rfl hl.1 rfl (Nat.le_of_ble_eq_true rfl) dL_law_240 ⟨Nat.le_of_ble_eq_true rfl, Nat.le_of_ble_eq_true rfl⟩ (fun r240 e240 => ?_)
  subst e240
  refine lv_aload_n hx hb dL_law_243 rfl (lv_at hl 2 rfl) ?_
  refine lv_aload_n hx hb dL_law_244 rfl (lv_at hl 0 rfl) ?_
  refine lv_iload_n hx hb dL_law_245 rfl (lv_at hl 3 rfl) ?_
  refine lv_iconst (v := nI 1) hx hb dL_law_246 (by decide) ?_
  refine lv_iadd hx hb dL_law_247 ?_
  refine zz_as (nI (i + 1)) (nI_add _ _) ?_
  refine zz_sld hx hb hX hbl hbA hS (j := i + 1) (by omega) (by omega) dL_law_248 ?_
  refine zz_callMi (As := [.int (xs (i + 1))]) (rest := [.int (md_out os oz (xs (i + 1)))]) (wr := [(aP, .inr (1, [.ref aR, .ref aX, .int (nI ts), .ref aO, .int (nI os), .int (nI uw), .int fr, .int to, .int (nI (pa - lo)), .int (nI hi), .int (nI dr), .int (nI de)])), (aR, .inr (0, [.int (nI R), .ref aB, .ref aS, .ref aT, .int (nI (lo % R)), .int (nI (hi - lo)), .int (nI (off hi % R)), .int (nI (off hi - off lo))])), (aB, .inl (cB, R, .inl Bf)), (aS, .inl (cS, R, .inl Sf)), (aT, .inl (cT, R, .inl Tf)), (aX, .inl (cX, 512, .inl Xf)), (aO, .inl (cO, 512, .inl Of)), (mX, .inl (eX, 512, .inl Xm)), (mT, .inl (eT, 16384, .inl Tm)), (mS, .inl (eS, 16384, .inl Sm)), (mB, .inl (eB, 16384, .inl Bm))]) ⟨hx, hb, hml, hown, hts⟩ (c_M_out l dC dI mM mX mO mT mS mB R ts os (hi - lo) (off hi - off lo) hi dr de uw fr to pa eO Om oz ((xs (i + 1))) hos5 hoM _) (cwV 1 hts gl_M_out rfl rfl rfl (by decide +kernel) ⟨Nat.le_of_ble_eq_true rfl, Nat.le_of_ble_eq_true rfl⟩) hP hD hK hS hA [7, 9] [0, 1, 2, 3, 4, 5, 6, 8, 10, 11, 12] [6] rfl rfl rfl (by decide) (by decide) (by decide) rfl 0 rfl rfl rfl rfl hl.1 rfl (Nat.le_of_ble_eq_true rfl) dL_law_249 ⟨Nat.le_of_ble_eq_true rfl, Nat.le_of_ble_eq_true rfl⟩ (fun r249 u249 H locs e249 hP hD hS => ?_)
  have hP : va_P (dC, dI) vwCl [(aP, .inr (1, [.ref aR, .ref aX, .int (nI ts), .ref aO, .int (nI os), .int (nI uw), .int fr, .int to, .int (nI (pa - lo)), .int (nI hi), .int (nI dr), .int (nI de)])), (aR, .inr (0, [.int (nI R), .ref aB, .ref aS, .ref aT, .int (nI (lo % R)), .int (nI (hi - lo)), .int (nI (off hi % R)), .int (nI (off hi - off lo))])), (aB, .inl (cB, R, .inl Bf)), (aS, .inl (cS, R, .inl Sf)), (aT, .inl (cT, R, .inl Tf)), (aX, .inl (cX, 512, .inl Xf)), (aO, .inl (cO, 512, .inl Of)), (mX, .inl (eX, 512, .inl Xm)), (mT, .inl (eT, 16384, .inl Tm)), (mS, .inl (eS, 16384, .inl Sm)), (mB, .inl (eB, 16384, .inl Bm)), (mM, .inr (2, [.int (nI 0), .int (nI R), .ref mX, .int (nI ts), .ref mO, .int (nI os), .int (nI (hi - lo)), .ref mT, .ref mS, .ref mB, .int (nI (off hi - off lo)), .int (nI hi), .int (nI dr), .int (nI de), .int (nI uw), .int fr, .int to, .int (nI pa)])), (mO, .inl (eO, 512, .inl Om))] H := hP
  have hD : va_D (fun q : Nat => s.heap.size ≤ q) [(aP, .inr (1, [.ref aR, .ref aX, .int (nI ts), .ref aO, .int (nI os), .int (nI uw), .int fr, .int to, .int (nI (pa - lo)), .int (nI hi), .int (nI dr), .int (nI de)])), (aR, .inr (0, [.int (nI R), .ref aB, .ref aS, .ref aT, .int (nI (lo % R)), .int (nI (hi - lo)), .int (nI (off hi % R)), .int (nI (off hi - off lo))])), (aB, .inl (cB, R, .inl Bf)), (aS, .inl (cS, R, .inl Sf)), (aT, .inl (cT, R, .inl Tf)), (aX, .inl (cX, 512, .inl Xf)), (aO, .inl (cO, 512, .inl Of)), (mX, .inl (eX, 512, .inl Xm)), (mT, .inl (eT, 16384, .inl Tm)), (mS, .inl (eS, 16384, .inl Sm)), (mB, .inl (eB, 16384, .inl Bm)), (mM, .inr (2, [.int (nI 0), .int (nI R), .ref mX, .int (nI ts), .ref mO, .int (nI os), .int (nI (hi - lo)), .ref mT, .ref mS, .ref mB, .int (nI (off hi - off lo)), .int (nI hi), .int (nI dr), .int (nI de), .int (nI uw), .int fr, .int to, .int (nI pa)])), (mO, .inl (eO, 512, .inl Om))] := hD
  subst e249
  refine lv_icmp_eq (tgt := 346) hx hb dL_law_252 (by decide) (fun c252 => ?_) (fun c252 => ?_)
  · have hP := hP.sub (ws' := [(aP, .inr (1, [.ref aR, .ref aX, .int (nI ts), .ref aO, .int (nI os), .int (nI uw), .int fr, .int to, .int (nI (pa - lo)), .int (nI hi), .int (nI dr), .int (nI de)])), (aR, .inr (0, [.int (nI R), .ref aB, .ref aS, .ref aT, .int (nI (lo % R)), .int (nI (hi - lo)), .int (nI (off hi % R)), .int (nI (off hi - off lo))])), (aB, .inl (cB, R, .inl Bf)), (aS, .inl (cS, R, .inl Sf)), (aT, .inl (cT, R, .inl Tf)), (aX, .inl (cX, 512, .inl Xf)), (aO, .inl (cO, 512, .inl Of)), (mM, .inr (2, [.int (nI 0), .int (nI R), .ref mX, .int (nI ts), .ref mO, .int (nI os), .int (nI (hi - lo)), .ref mT, .ref mS, .ref mB, .int (nI (off hi - off lo)), .int (nI hi), .int (nI dr), .int (nI de), .int (nI uw), .int fr, .int to, .int (nI pa)])), (mX, .inl (eX, 512, .inl Xm)), (mO, .inl (eO, 512, .inl Om)), (mT, .inl (eT, 16384, .inl Tm)), (mS, .inl (eS, 16384, .inl Sm)), (mB, .inl (eB, 16384, .inl Bm))]) [0, 1, 2, 3, 4, 5, 6, 11, 7, 12, 8, 9, 10] rfl
    have hD := hD.sub (ws' := [(aP, .inr (1, [.ref aR, .ref aX, .int (nI ts), .ref aO, .int (nI os), .int (nI uw), .int fr, .int to, .int (nI (pa - lo)), .int (nI hi), .int (nI dr), .int (nI de)])), (aR, .inr (0, [.int (nI R), .ref aB, .ref aS, .ref aT, .int (nI (lo % R)), .int (nI (hi - lo)), .int (nI (off hi % R)), .int (nI (off hi - off lo))])), (aB, .inl (cB, R, .inl Bf)), (aS, .inl (cS, R, .inl Sf)), (aT, .inl (cT, R, .inl Tf)), (aX, .inl (cX, 512, .inl Xf)), (aO, .inl (cO, 512, .inl Of)), (mM, .inr (2, [.int (nI 0), .int (nI R), .ref mX, .int (nI ts), .ref mO, .int (nI os), .int (nI (hi - lo)), .ref mT, .ref mS, .ref mB, .int (nI (off hi - off lo)), .int (nI hi), .int (nI dr), .int (nI de), .int (nI uw), .int fr, .int to, .int (nI pa)])), (mX, .inl (eX, 512, .inl Xm)), (mO, .inl (eO, 512, .inl Om)), (mT, .inl (eT, 16384, .inl Tm)), (mS, .inl (eS, 16384, .inl Sm)), (mB, .inl (eB, 16384, .inl Bm))]) [0, 1, 2, 3, 4, 5, 6, 11, 7, 12, 8, 9, 10] (by decide) rfl
    exact K _ _ _ ⟨lo, hi, off, ts, os, uw, fr, to, pa, dr, de, tm, bz, tz, oz, Bf, Sf, Tf, Xf, Of, Bm, Sm, Tm, Xm, Om, ⟨hok, hrep, hrm, h512, ⟨hpa, by omega⟩, ⟨hts5, htX, htM⟩, ⟨hos5, hoX, hoM⟩, huw⟩, hP, hD, hS, lv_sub hl [0, 1, 2, 3] rfl⟩
  · exact absurd rfl c252
set_option maxHeartbeats 8000000 in
set_option maxRecDepth 100000 in
theorem law_count {p : Program} {l : Launch} {e : Env} {s : State} {m : MethodId} {below : List Frame} {meth : Method} {c : Code} {dC : Nat → ClassId} {dI : Nat → Nat → Nat} {b L : Nat} {xs : Nat → Int32} (hL : L ≤ 1537) (C0 : lw_At p s m meth c b L xs) {aP aR aB aS aT aX aO mM mX mO mT mS mB : Nat} {cB cS cT cX cO eX eO eT eS eB : ClassId} {R i : Nat} (hK : va_K (dC, dI) vwCl [(cB, .byte), (cS, .int), (cT, .int), (cX, .byte), (cO, .byte), (eX, .byte), (eO, .byte), (eT, .int), (eS, .int), (eB, .byte)] s) (hi3 : i + 3 ≤ L) (K : ∀ (H : Heap) (locs : List Loc) (ls : Array Slot), LI dC dI s b aP aR aB aS aT aX aO mM mX mO mT mS mB cB cS cT cX cO eX eO eT eS eB R (i + 1) i H locs ls → W p l e room_1 s m #[Value.ref b] below meth c H locs 13 100390 (lw_Z below #[Value.ref b] s) (F0 m 346 ls [])) {H : Heap} {locs : List Loc} {ls : Array Slot} (h : LI dC dI s b aP aR aB aS aT aX aO mM mX mO mT mS mB cB cS cT cX cO eX eO eT eS eB R i i H locs ls) : W p l e room_1 s m #[Value.ref b] below meth c H locs 13 100390 (lw_Z below #[Value.ref b] s) (F0 m 257 ls []) := by
  obtain ⟨hx, hb, hr, hml, hown, hts, hX, hbl, hlocks, hgv⟩ := id C0
  have hA : ∀ q : Nat, s.heap.size ≤ q → (fun q : Nat => s.heap.size ≤ q) q := fun _ h => h
  have hbA : ¬ (fun q : Nat => s.heap.size ≤ q) b := Nat.not_le.mpr hbl
  have hown : s.vm.findClass RL = some m.cls := hown
  obtain ⟨lo, hi, off, ts, os, uw, fr, to, pa, dr, de, tm, bz, tz, oz, Bf, Sf, Tf, Xf, Of, Bm, Sm, Tm, Xm, Om, hinv, hP, hD, hS, hl⟩ := h
  obtain ⟨hok, hrep, hrm, h512, ⟨hpa, hcb⟩, ⟨hts5, htX, htM⟩, ⟨hos5, hoX, hoM⟩, huw⟩ := id hinv
  have hll := hok.2.1
  have hRR := hok.1
  refine lv_aload_n hx hb dL_law_257 rfl (lv_at hl 1 rfl) ?_
  refine lv_aload_n hx hb dL_law_258 rfl (lv_at hl 0 rfl) ?_
  refine lv_iload_n hx hb dL_law_259 rfl (lv_at hl 3 rfl) ?_
  refine lv_iconst (v := nI 1) hx hb dL_law_260 (by decide) ?_
  refine lv_iadd hx hb dL_law_261 ?_
  refine zz_as (nI (i + 1)) (nI_add _ _) ?_
  refine zz_sld hx hb hX hbl hbA hS (j := i + 1) (by omega) (by omega) dL_law_262 ?_
  refine zz_callR (As := [.int (xs (i + 1))]) (rest := []) ⟨hx, hb, hml, hown, hts⟩ (c_P_count l dC dI aP aR aX aO ts os uw fr to (pa - lo) hi dr de aB aS aT R (lo % R) (hi - lo) (off hi % R) (off hi - off lo) ((xs (i + 1))) huw) (cwV 1 hts gl_X1_count rfl rfl rfl (by decide +kernel) ⟨Nat.le_of_ble_eq_true rfl, Nat.le_of_ble_eq_true rfl⟩) (hP.sub [0, 1] rfl) (hK.sub [] rfl) 0 rfl rfl rfl rfl hl.1 rfl (Nat.le_of_ble_eq_true rfl) dL_law_263 ⟨Nat.le_of_ble_eq_true rfl, Nat.le_of_ble_eq_true rfl⟩ (fun r263 e263 => ?_)
  subst e263
  refine lv_aload_n hx hb dL_law_266 rfl (lv_at hl 2 rfl) ?_
  refine lv_aload_n hx hb dL_law_267 rfl (lv_at hl 0 rfl) ?_
  refine lv_iload_n hx hb dL_law_268 rfl (lv_at hl 3 rfl) ?_
  refine lv_iconst (v := nI 1) hx hb dL_law_269 (by decide) ?_
  refine lv_iadd hx hb dL_law_270 ?_
  refine zz_as (nI (i + 1)) (nI_add _ _) ?_
  refine zz_sld hx hb hX hbl hbA hS (j := i + 1) (by omega) (by omega) dL_law_271 ?_
  refine zz_callMi (As := [.int (xs (i + 1))]) (rest := [.int (md_count (xs (i + 1)) (hi - lo) (off hi - off lo) hi dr de uw os R)]) (wr := [(aP, .inr (1, [.ref aR, .ref aX, .int (nI ts), .ref aO, .int (nI os), .int (nI uw), .int fr, .int to, .int (nI (pa - lo)), .int (nI hi), .int (nI dr), .int (nI de)])), (aR, .inr (0, [.int (nI R), .ref aB, .ref aS, .ref aT, .int (nI (lo % R)), .int (nI (hi - lo)), .int (nI (off hi % R)), .int (nI (off hi - off lo))])), (aB, .inl (cB, R, .inl Bf)), (aS, .inl (cS, R, .inl Sf)), (aT, .inl (cT, R, .inl Tf)), (aX, .inl (cX, 512, .inl Xf)), (aO, .inl (cO, 512, .inl Of)), (mX, .inl (eX, 512, .inl Xm)), (mO, .inl (eO, 512, .inl Om)), (mT, .inl (eT, 16384, .inl Tm)), (mS, .inl (eS, 16384, .inl Sm)), (mB, .inl (eB, 16384, .inl Bm))]) ⟨hx, hb, hml, hown, hts⟩ (c_M_count l dC dI mM mX mO mT mS mB R ts os (hi - lo) (off hi - off lo) hi dr de uw fr to pa ((xs (i + 1))) huw _) (cwV 1 hts gl_M_count rfl rfl rfl (by decide +kernel) ⟨Nat.le_of_ble_eq_true rfl, Nat.le_of_ble_eq_true rfl⟩) hP hD hK hS hA [7] [0, 1, 2, 3, 4, 5, 6, 8, 9, 10, 11, 12] [] rfl rfl rfl (by decide) (by decide) (by decide) rfl 0 rfl rfl rfl rfl hl.1 rfl (Nat.le_of_ble_eq_true rfl) dL_law_272 ⟨Nat.le_of_ble_eq_true rfl, Nat.le_of_ble_eq_true rfl⟩ (fun r272 u272 H locs e272 hP hD hS => ?_)
  have hP : va_P (dC, dI) vwCl [(aP, .inr (1, [.ref aR, .ref aX, .int (nI ts), .ref aO, .int (nI os), .int (nI uw), .int fr, .int to, .int (nI (pa - lo)), .int (nI hi), .int (nI dr), .int (nI de)])), (aR, .inr (0, [.int (nI R), .ref aB, .ref aS, .ref aT, .int (nI (lo % R)), .int (nI (hi - lo)), .int (nI (off hi % R)), .int (nI (off hi - off lo))])), (aB, .inl (cB, R, .inl Bf)), (aS, .inl (cS, R, .inl Sf)), (aT, .inl (cT, R, .inl Tf)), (aX, .inl (cX, 512, .inl Xf)), (aO, .inl (cO, 512, .inl Of)), (mX, .inl (eX, 512, .inl Xm)), (mO, .inl (eO, 512, .inl Om)), (mT, .inl (eT, 16384, .inl Tm)), (mS, .inl (eS, 16384, .inl Sm)), (mB, .inl (eB, 16384, .inl Bm)), (mM, .inr (2, [.int (nI 0), .int (nI R), .ref mX, .int (nI ts), .ref mO, .int (nI os), .int (nI (hi - lo)), .ref mT, .ref mS, .ref mB, .int (nI (off hi - off lo)), .int (nI hi), .int (nI dr), .int (nI de), .int (nI uw), .int fr, .int to, .int (nI pa)]))] H := hP
  have hD : va_D (fun q : Nat => s.heap.size ≤ q) [(aP, .inr (1, [.ref aR, .ref aX, .int (nI ts), .ref aO, .int (nI os), .int (nI uw), .int fr, .int to, .int (nI (pa - lo)), .int (nI hi), .int (nI dr), .int (nI de)])), (aR, .inr (0, [.int (nI R), .ref aB, .ref aS, .ref aT, .int (nI (lo % R)), .int (nI (hi - lo)), .int (nI (off hi % R)), .int (nI (off hi - off lo))])), (aB, .inl (cB, R, .inl Bf)), (aS, .inl (cS, R, .inl Sf)), (aT, .inl (cT, R, .inl Tf)), (aX, .inl (cX, 512, .inl Xf)), (aO, .inl (cO, 512, .inl Of)), (mX, .inl (eX, 512, .inl Xm)), (mO, .inl (eO, 512, .inl Om)), (mT, .inl (eT, 16384, .inl Tm)), (mS, .inl (eS, 16384, .inl Sm)), (mB, .inl (eB, 16384, .inl Bm)), (mM, .inr (2, [.int (nI 0), .int (nI R), .ref mX, .int (nI ts), .ref mO, .int (nI os), .int (nI (hi - lo)), .ref mT, .ref mS, .ref mB, .int (nI (off hi - off lo)), .int (nI hi), .int (nI dr), .int (nI de), .int (nI uw), .int fr, .int to, .int (nI pa)]))] := hD
  subst e272
  refine lv_icmp_eq (tgt := 346) hx hb dL_law_275 (by decide) (fun c275 => ?_) (fun c275 => ?_)
  · have hP := hP.sub (ws' := [(aP, .inr (1, [.ref aR, .ref aX, .int (nI ts), .ref aO, .int (nI os), .int (nI uw), .int fr, .int to, .int (nI (pa - lo)), .int (nI hi), .int (nI dr), .int (nI de)])), (aR, .inr (0, [.int (nI R), .ref aB, .ref aS, .ref aT, .int (nI (lo % R)), .int (nI (hi - lo)), .int (nI (off hi % R)), .int (nI (off hi - off lo))])), (aB, .inl (cB, R, .inl Bf)), (aS, .inl (cS, R, .inl Sf)), (aT, .inl (cT, R, .inl Tf)), (aX, .inl (cX, 512, .inl Xf)), (aO, .inl (cO, 512, .inl Of)), (mM, .inr (2, [.int (nI 0), .int (nI R), .ref mX, .int (nI ts), .ref mO, .int (nI os), .int (nI (hi - lo)), .ref mT, .ref mS, .ref mB, .int (nI (off hi - off lo)), .int (nI hi), .int (nI dr), .int (nI de), .int (nI uw), .int fr, .int to, .int (nI pa)])), (mX, .inl (eX, 512, .inl Xm)), (mO, .inl (eO, 512, .inl Om)), (mT, .inl (eT, 16384, .inl Tm)), (mS, .inl (eS, 16384, .inl Sm)), (mB, .inl (eB, 16384, .inl Bm))]) [0, 1, 2, 3, 4, 5, 6, 12, 7, 8, 9, 10, 11] rfl
    have hD := hD.sub (ws' := [(aP, .inr (1, [.ref aR, .ref aX, .int (nI ts), .ref aO, .int (nI os), .int (nI uw), .int fr, .int to, .int (nI (pa - lo)), .int (nI hi), .int (nI dr), .int (nI de)])), (aR, .inr (0, [.int (nI R), .ref aB, .ref aS, .ref aT, .int (nI (lo % R)), .int (nI (hi - lo)), .int (nI (off hi % R)), .int (nI (off hi - off lo))])), (aB, .inl (cB, R, .inl Bf)), (aS, .inl (cS, R, .inl Sf)), (aT, .inl (cT, R, .inl Tf)), (aX, .inl (cX, 512, .inl Xf)), (aO, .inl (cO, 512, .inl Of)), (mM, .inr (2, [.int (nI 0), .int (nI R), .ref mX, .int (nI ts), .ref mO, .int (nI os), .int (nI (hi - lo)), .ref mT, .ref mS, .ref mB, .int (nI (off hi - off lo)), .int (nI hi), .int (nI dr), .int (nI de), .int (nI uw), .int fr, .int to, .int (nI pa)])), (mX, .inl (eX, 512, .inl Xm)), (mO, .inl (eO, 512, .inl Om)), (mT, .inl (eT, 16384, .inl Tm)), (mS, .inl (eS, 16384, .inl Sm)), (mB, .inl (eB, 16384, .inl Bm))]) [0, 1, 2, 3, 4, 5, 6, 12, 7, 8, 9, 10, 11] (by decide) rfl
    exact K _ _ _ ⟨lo, hi, off, ts, os, uw, fr, to, pa, dr, de, tm, bz, tz, oz, Bf, Sf, Tf, Xf, Of, Bm, Sm, Tm, Xm, Om, ⟨hok, hrep, hrm, h512, ⟨hpa, by omega⟩, ⟨hts5, htX, htM⟩, ⟨hos5, hoX, hoM⟩, huw⟩, hP, hD, hS, lv_sub hl [0, 1, 2, 3] rfl⟩
  · exact absurd rfl c275
set_option maxHeartbeats 8000000 in
set_option maxRecDepth 100000 in
theorem law_about {p : Program} {l : Launch} {e : Env} {s : State} {m : MethodId} {below : List Frame} {meth : Method} {c : Code} {dC : Nat → ClassId} {dI : Nat → Nat → Nat} {b L : Nat} {xs : Nat → Int32} (hL : L ≤ 1537) (C0 : lw_At p s m meth c b L xs) {aP aR aB aS aT aX aO mM mX mO mT mS mB : Nat} {cB cS cT cX cO eX eO eT eS eB : ClassId} {R i : Nat} (hK : va_K (dC, dI) vwCl [(cB, .byte), (cS, .int), (cT, .int), (cX, .byte), (cO, .byte), (eX, .byte), (eO, .byte), (eT, .int), (eS, .int), (eB, .byte)] s) (hi3 : i + 3 ≤ L) (K : ∀ (H : Heap) (locs : List Loc) (ls : Array Slot), LI dC dI s b aP aR aB aS aT aX aO mM mX mO mT mS mB cB cS cT cX cO eX eO eT eS eB R (i + 1) i H locs ls → W p l e room_1 s m #[Value.ref b] below meth c H locs 13 100390 (lw_Z below #[Value.ref b] s) (F0 m 346 ls [])) {H : Heap} {locs : List Loc} {ls : Array Slot} (h : LI dC dI s b aP aR aB aS aT aX aO mM mX mO mT mS mB cB cS cT cX cO eX eO eT eS eB R i i H locs ls) : W p l e room_1 s m #[Value.ref b] below meth c H locs 13 100390 (lw_Z below #[Value.ref b] s) (F0 m 280 ls []) := by
  obtain ⟨hx, hb, hr, hml, hown, hts, hX, hbl, hlocks, hgv⟩ := id C0
  have hA : ∀ q : Nat, s.heap.size ≤ q → (fun q : Nat => s.heap.size ≤ q) q := fun _ h => h
  have hbA : ¬ (fun q : Nat => s.heap.size ≤ q) b := Nat.not_le.mpr hbl
  have hown : s.vm.findClass RL = some m.cls := hown
  obtain ⟨lo, hi, off, ts, os, uw, fr, to, pa, dr, de, tm, bz, tz, oz, Bf, Sf, Tf, Xf, Of, Bm, Sm, Tm, Xm, Om, hinv, hP, hD, hS, hl⟩ := h
  obtain ⟨hok, hrep, hrm, h512, ⟨hpa, hcb⟩, ⟨hts5, htX, htM⟩, ⟨hos5, hoX, hoM⟩, huw⟩ := id hinv
  have hll := hok.2.1
  have hRR := hok.1
  refine lv_aload_n hx hb dL_law_280 rfl (lv_at hl 1 rfl) ?_
  refine lv_aload_n hx hb dL_law_281 rfl (lv_at hl 0 rfl) ?_
  refine lv_iload_n hx hb dL_law_282 rfl (lv_at hl 3 rfl) ?_
  refine lv_iconst (v := nI 1) hx hb dL_law_283 (by decide) ?_
  refine lv_iadd hx hb dL_law_284 ?_
  refine zz_as (nI (i + 1)) (nI_add _ _) ?_
  refine zz_sld hx hb hX hbl hbA hS (j := i + 1) (by omega) (by omega) dL_law_285 ?_
  refine lv_aload_n hx hb dL_law_286 rfl (lv_at hl 0 rfl) ?_
  refine lv_iload_n hx hb dL_law_287 rfl (lv_at hl 3 rfl) ?_
  refine lv_iconst (v := nI 2) hx hb dL_law_288 (by decide) ?_
  refine lv_iadd hx hb dL_law_289 ?_
  refine zz_as (nI (i + 2)) (nI_add _ _) ?_
  refine zz_sld hx hb hX hbl hbA hS (j := i + 2) (by omega) (by omega) dL_law_290 ?_
  refine zz_callR (As := [.int (xs (i + 1)), .int (xs (i + 2))]) (rest := []) ⟨hx, hb, hml, hown, hts⟩ (c_P_about l dC dI aP aR aB aS aT aX aO R lo hi off ts os uw fr to pa hi dr de cS cT Sf Tf tm ((xs (i + 1))) ((xs (i + 2))) hok hrep.2.1 hrep.1) (cwV 2 hts gl_X1_about rfl rfl rfl (by decide +kernel) ⟨Nat.le_of_ble_eq_true rfl, Nat.le_of_ble_eq_true rfl⟩) (hP.sub [0, 1, 3, 4] rfl) (hK.sub [1, 2] rfl) 0 rfl rfl rfl rfl hl.1 rfl (Nat.le_of_ble_eq_true rfl) dL_law_291 ⟨Nat.le_of_ble_eq_true rfl, Nat.le_of_ble_eq_true rfl⟩ (fun r291 e291 => ?_)
  subst e291
  refine lv_aload_n hx hb dL_law_294 rfl (lv_at hl 2 rfl) ?_
  refine lv_aload_n hx hb dL_law_295 rfl (lv_at hl 0 rfl) ?_
  refine lv_iload_n hx hb dL_law_296 rfl (lv_at hl 3 rfl) ?_
  refine lv_iconst (v := nI 1) hx hb dL_law_297 (by decide) ?_
  refine lv_iadd hx hb dL_law_298 ?_
  refine zz_as (nI (i + 1)) (nI_add _ _) ?_
  refine zz_sld hx hb hX hbl hbA hS (j := i + 1) (by omega) (by omega) dL_law_299 ?_
  refine lv_aload_n hx hb dL_law_300 rfl (lv_at hl 0 rfl) ?_
  refine lv_iload_n hx hb dL_law_301 rfl (lv_at hl 3 rfl) ?_
  refine lv_iconst (v := nI 2) hx hb dL_law_302 (by decide) ?_
  refine lv_iadd hx hb dL_law_303 ?_
  refine zz_as (nI (i + 2)) (nI_add _ _) ?_
  refine zz_sld hx hb hX hbl hbA hS (j := i + 2) (by omega) (by omega) dL_law_304 ?_
  refine zz_callMi (As := [.int (xs (i + 1)), .int (xs (i + 2))]) (rest := [.int (md_about (hi - lo) (fun j => tm (lo + j)) (fun j => off (lo + j + 1) - off (lo + j)) (xs (i + 1)) (xs (i + 2)))]) (wr := [(aP, .inr (1, [.ref aR, .ref aX, .int (nI ts), .ref aO, .int (nI os), .int (nI uw), .int fr, .int to, .int (nI (pa - lo)), .int (nI hi), .int (nI dr), .int (nI de)])), (aR, .inr (0, [.int (nI R), .ref aB, .ref aS, .ref aT, .int (nI (lo % R)), .int (nI (hi - lo)), .int (nI (off hi % R)), .int (nI (off hi - off lo))])), (aB, .inl (cB, R, .inl Bf)), (aS, .inl (cS, R, .inl Sf)), (aT, .inl (cT, R, .inl Tf)), (aX, .inl (cX, 512, .inl Xf)), (aO, .inl (cO, 512, .inl Of)), (mX, .inl (eX, 512, .inl Xm)), (mO, .inl (eO, 512, .inl Om)), (mB, .inl (eB, 16384, .inl Bm))]) ⟨hx, hb, hml, hown, hts⟩ (c_M_about l dC dI mM mX mO mT mS mB R lo hi off ts os dr de uw fr to pa eT eS eB Tm Sm Bm tm bz ((xs (i + 1))) ((xs (i + 2))) hok hrm _) (cwV 2 hts gl_M_about rfl rfl rfl (by decide +kernel) ⟨Nat.le_of_ble_eq_true rfl, Nat.le_of_ble_eq_true rfl⟩) hP hD hK hS hA [7, 10, 11] [0, 1, 2, 3, 4, 5, 6, 8, 9, 12] [7, 8] rfl rfl rfl (by decide) (by decide) (by decide) rfl 0 rfl rfl rfl rfl hl.1 rfl (Nat.le_of_ble_eq_true rfl) dL_law_305 ⟨Nat.le_of_ble_eq_true rfl, Nat.le_of_ble_eq_true rfl⟩ (fun r305 u305 H locs e305 hP hD hS => ?_)
  have hP : va_P (dC, dI) vwCl [(aP, .inr (1, [.ref aR, .ref aX, .int (nI ts), .ref aO, .int (nI os), .int (nI uw), .int fr, .int to, .int (nI (pa - lo)), .int (nI hi), .int (nI dr), .int (nI de)])), (aR, .inr (0, [.int (nI R), .ref aB, .ref aS, .ref aT, .int (nI (lo % R)), .int (nI (hi - lo)), .int (nI (off hi % R)), .int (nI (off hi - off lo))])), (aB, .inl (cB, R, .inl Bf)), (aS, .inl (cS, R, .inl Sf)), (aT, .inl (cT, R, .inl Tf)), (aX, .inl (cX, 512, .inl Xf)), (aO, .inl (cO, 512, .inl Of)), (mX, .inl (eX, 512, .inl Xm)), (mO, .inl (eO, 512, .inl Om)), (mB, .inl (eB, 16384, .inl Bm)), (mM, .inr (2, [.int (nI 0), .int (nI R), .ref mX, .int (nI ts), .ref mO, .int (nI os), .int (nI (hi - lo)), .ref mT, .ref mS, .ref mB, .int (nI (off hi - off lo)), .int (nI hi), .int (nI dr), .int (nI de), .int (nI uw), .int fr, .int to, .int (nI pa)])), (mT, .inl (eT, 16384, .inl Tm)), (mS, .inl (eS, 16384, .inl Sm))] H := hP
  have hD : va_D (fun q : Nat => s.heap.size ≤ q) [(aP, .inr (1, [.ref aR, .ref aX, .int (nI ts), .ref aO, .int (nI os), .int (nI uw), .int fr, .int to, .int (nI (pa - lo)), .int (nI hi), .int (nI dr), .int (nI de)])), (aR, .inr (0, [.int (nI R), .ref aB, .ref aS, .ref aT, .int (nI (lo % R)), .int (nI (hi - lo)), .int (nI (off hi % R)), .int (nI (off hi - off lo))])), (aB, .inl (cB, R, .inl Bf)), (aS, .inl (cS, R, .inl Sf)), (aT, .inl (cT, R, .inl Tf)), (aX, .inl (cX, 512, .inl Xf)), (aO, .inl (cO, 512, .inl Of)), (mX, .inl (eX, 512, .inl Xm)), (mO, .inl (eO, 512, .inl Om)), (mB, .inl (eB, 16384, .inl Bm)), (mM, .inr (2, [.int (nI 0), .int (nI R), .ref mX, .int (nI ts), .ref mO, .int (nI os), .int (nI (hi - lo)), .ref mT, .ref mS, .ref mB, .int (nI (off hi - off lo)), .int (nI hi), .int (nI dr), .int (nI de), .int (nI uw), .int fr, .int to, .int (nI pa)])), (mT, .inl (eT, 16384, .inl Tm)), (mS, .inl (eS, 16384, .inl Sm))] := hD
  subst e305
  refine lv_icmp_eq (tgt := 346) hx hb dL_law_308 (by decide) (fun c308 => ?_) (fun c308 => ?_)
  · have hP := hP.sub (ws' := [(aP, .inr (1, [.ref aR, .ref aX, .int (nI ts), .ref aO, .int (nI os), .int (nI uw), .int fr, .int to, .int (nI (pa - lo)), .int (nI hi), .int (nI dr), .int (nI de)])), (aR, .inr (0, [.int (nI R), .ref aB, .ref aS, .ref aT, .int (nI (lo % R)), .int (nI (hi - lo)), .int (nI (off hi % R)), .int (nI (off hi - off lo))])), (aB, .inl (cB, R, .inl Bf)), (aS, .inl (cS, R, .inl Sf)), (aT, .inl (cT, R, .inl Tf)), (aX, .inl (cX, 512, .inl Xf)), (aO, .inl (cO, 512, .inl Of)), (mM, .inr (2, [.int (nI 0), .int (nI R), .ref mX, .int (nI ts), .ref mO, .int (nI os), .int (nI (hi - lo)), .ref mT, .ref mS, .ref mB, .int (nI (off hi - off lo)), .int (nI hi), .int (nI dr), .int (nI de), .int (nI uw), .int fr, .int to, .int (nI pa)])), (mX, .inl (eX, 512, .inl Xm)), (mO, .inl (eO, 512, .inl Om)), (mT, .inl (eT, 16384, .inl Tm)), (mS, .inl (eS, 16384, .inl Sm)), (mB, .inl (eB, 16384, .inl Bm))]) [0, 1, 2, 3, 4, 5, 6, 10, 7, 8, 11, 12, 9] rfl
    have hD := hD.sub (ws' := [(aP, .inr (1, [.ref aR, .ref aX, .int (nI ts), .ref aO, .int (nI os), .int (nI uw), .int fr, .int to, .int (nI (pa - lo)), .int (nI hi), .int (nI dr), .int (nI de)])), (aR, .inr (0, [.int (nI R), .ref aB, .ref aS, .ref aT, .int (nI (lo % R)), .int (nI (hi - lo)), .int (nI (off hi % R)), .int (nI (off hi - off lo))])), (aB, .inl (cB, R, .inl Bf)), (aS, .inl (cS, R, .inl Sf)), (aT, .inl (cT, R, .inl Tf)), (aX, .inl (cX, 512, .inl Xf)), (aO, .inl (cO, 512, .inl Of)), (mM, .inr (2, [.int (nI 0), .int (nI R), .ref mX, .int (nI ts), .ref mO, .int (nI os), .int (nI (hi - lo)), .ref mT, .ref mS, .ref mB, .int (nI (off hi - off lo)), .int (nI hi), .int (nI dr), .int (nI de), .int (nI uw), .int fr, .int to, .int (nI pa)])), (mX, .inl (eX, 512, .inl Xm)), (mO, .inl (eO, 512, .inl Om)), (mT, .inl (eT, 16384, .inl Tm)), (mS, .inl (eS, 16384, .inl Sm)), (mB, .inl (eB, 16384, .inl Bm))]) [0, 1, 2, 3, 4, 5, 6, 10, 7, 8, 11, 12, 9] (by decide) rfl
    exact K _ _ _ ⟨lo, hi, off, ts, os, uw, fr, to, pa, dr, de, tm, bz, tz, oz, Bf, Sf, Tf, Xf, Of, Bm, Sm, Tm, Xm, Om, ⟨hok, hrep, hrm, h512, ⟨hpa, by omega⟩, ⟨hts5, htX, htM⟩, ⟨hos5, hoX, hoM⟩, huw⟩, hP, hD, hS, lv_sub hl [0, 1, 2, 3] rfl⟩
  · exact absurd rfl c308
set_option maxHeartbeats 8000000 in
set_option maxRecDepth 100000 in
theorem law_byteAt {p : Program} {l : Launch} {e : Env} {s : State} {m : MethodId} {below : List Frame} {meth : Method} {c : Code} {dC : Nat → ClassId} {dI : Nat → Nat → Nat} {b L : Nat} {xs : Nat → Int32} (hL : L ≤ 1537) (C0 : lw_At p s m meth c b L xs) {aP aR aB aS aT aX aO mM mX mO mT mS mB : Nat} {cB cS cT cX cO eX eO eT eS eB : ClassId} {R i : Nat} (hK : va_K (dC, dI) vwCl [(cB, .byte), (cS, .int), (cT, .int), (cX, .byte), (cO, .byte), (eX, .byte), (eO, .byte), (eT, .int), (eS, .int), (eB, .byte)] s) (hi3 : i + 3 ≤ L) (K : ∀ (H : Heap) (locs : List Loc) (ls : Array Slot), LI dC dI s b aP aR aB aS aT aX aO mM mX mO mT mS mB cB cS cT cX cO eX eO eT eS eB R (i + 1) i H locs ls → W p l e room_1 s m #[Value.ref b] below meth c H locs 13 100390 (lw_Z below #[Value.ref b] s) (F0 m 346 ls [])) {H : Heap} {locs : List Loc} {ls : Array Slot} (h : LI dC dI s b aP aR aB aS aT aX aO mM mX mO mT mS mB cB cS cT cX cO eX eO eT eS eB R i i H locs ls) : W p l e room_1 s m #[Value.ref b] below meth c H locs 13 100390 (lw_Z below #[Value.ref b] s) (F0 m 313 ls []) := by
  obtain ⟨hx, hb, hr, hml, hown, hts, hX, hbl, hlocks, hgv⟩ := id C0
  have hA : ∀ q : Nat, s.heap.size ≤ q → (fun q : Nat => s.heap.size ≤ q) q := fun _ h => h
  have hbA : ¬ (fun q : Nat => s.heap.size ≤ q) b := Nat.not_le.mpr hbl
  have hown : s.vm.findClass RL = some m.cls := hown
  obtain ⟨lo, hi, off, ts, os, uw, fr, to, pa, dr, de, tm, bz, tz, oz, Bf, Sf, Tf, Xf, Of, Bm, Sm, Tm, Xm, Om, hinv, hP, hD, hS, hl⟩ := h
  obtain ⟨hok, hrep, hrm, h512, ⟨hpa, hcb⟩, ⟨hts5, htX, htM⟩, ⟨hos5, hoX, hoM⟩, huw⟩ := id hinv
  have hll := hok.2.1
  have hRR := hok.1
  refine lv_aload_n hx hb dL_law_313 rfl (lv_at hl 1 rfl) ?_
  refine lv_aload_n hx hb dL_law_314 rfl (lv_at hl 0 rfl) ?_
  refine lv_iload_n hx hb dL_law_315 rfl (lv_at hl 3 rfl) ?_
  refine lv_iconst (v := nI 1) hx hb dL_law_316 (by decide) ?_
  refine lv_iadd hx hb dL_law_317 ?_
  refine zz_as (nI (i + 1)) (nI_add _ _) ?_
  refine zz_sld hx hb hX hbl hbA hS (j := i + 1) (by omega) (by omega) dL_law_318 ?_
  refine lv_aload_n hx hb dL_law_319 rfl (lv_at hl 0 rfl) ?_
  refine lv_iload_n hx hb dL_law_320 rfl (lv_at hl 3 rfl) ?_
  refine lv_iconst (v := nI 2) hx hb dL_law_321 (by decide) ?_
  refine lv_iadd hx hb dL_law_322 ?_
  refine zz_as (nI (i + 2)) (nI_add _ _) ?_
  refine zz_sld hx hb hX hbl hbA hS (j := i + 2) (by omega) (by omega) dL_law_323 ?_
  refine zz_callR (As := [.int (xs (i + 1)), .int (xs (i + 2))]) (rest := []) ⟨hx, hb, hml, hown, hts⟩ (c_P_byteAt l dC dI aP aR aB aS aT aX aO R lo hi off ts os uw fr to pa hi dr de cB cS Bf Sf bz ((xs (i + 1))) ((xs (i + 2))) hok hrep.2.1 hrep.2.2 h512) (cwV 2 hts gl_X1_byteAt rfl rfl rfl (by decide +kernel) ⟨Nat.le_of_ble_eq_true rfl, Nat.le_of_ble_eq_true rfl⟩) (hP.sub [0, 1, 2, 3] rfl) (hK.sub [0, 1] rfl) 0 rfl rfl rfl rfl hl.1 rfl (Nat.le_of_ble_eq_true rfl) dL_law_324 ⟨Nat.le_of_ble_eq_true rfl, Nat.le_of_ble_eq_true rfl⟩ (fun r324 e324 => ?_)
  subst e324
  refine lv_aload_n hx hb dL_law_327 rfl (lv_at hl 2 rfl) ?_
  refine lv_aload_n hx hb dL_law_328 rfl (lv_at hl 0 rfl) ?_
  refine lv_iload_n hx hb dL_law_329 rfl (lv_at hl 3 rfl) ?_
  refine lv_iconst (v := nI 1) hx hb dL_law_330 (by decide) ?_
  refine lv_iadd hx hb dL_law_331 ?_
  refine zz_as (nI (i + 1)) (nI_add _ _) ?_
  refine zz_sld hx hb hX hbl hbA hS (j := i + 1) (by omega) (by omega) dL_law_332 ?_
  refine lv_aload_n hx hb dL_law_333 rfl (lv_at hl 0 rfl) ?_
  refine lv_iload_n hx hb dL_law_334 rfl (lv_at hl 3 rfl) ?_
  refine lv_iconst (v := nI 2) hx hb dL_law_335 (by decide) ?_
  refine lv_iadd hx hb dL_law_336 ?_
  refine zz_as (nI (i + 2)) (nI_add _ _) ?_
  refine zz_sld hx hb hX hbl hbA hS (j := i + 2) (by omega) (by omega) dL_law_337 ?_
  refine zz_callMi (As := [.int (xs (i + 1)), .int (xs (i + 2))]) (rest := [.int (md_byteAt (hi - lo) (fun q => off (lo + q + 1) - off (lo + q)) (fun q t => bz (off (lo + q) + t)) (xs (i + 1)) (xs (i + 2)))]) (wr := [(aP, .inr (1, [.ref aR, .ref aX, .int (nI ts), .ref aO, .int (nI os), .int (nI uw), .int fr, .int to, .int (nI (pa - lo)), .int (nI hi), .int (nI dr), .int (nI de)])), (aR, .inr (0, [.int (nI R), .ref aB, .ref aS, .ref aT, .int (nI (lo % R)), .int (nI (hi - lo)), .int (nI (off hi % R)), .int (nI (off hi - off lo))])), (aB, .inl (cB, R, .inl Bf)), (aS, .inl (cS, R, .inl Sf)), (aT, .inl (cT, R, .inl Tf)), (aX, .inl (cX, 512, .inl Xf)), (aO, .inl (cO, 512, .inl Of)), (mX, .inl (eX, 512, .inl Xm)), (mO, .inl (eO, 512, .inl Om)), (mT, .inl (eT, 16384, .inl Tm))]) ⟨hx, hb, hml, hown, hts⟩ (c_M_byteAt l dC dI mM mX mO mT mS mB R lo hi off ts os dr de uw fr to pa eS eB Tm Sm Bm tm bz ((xs (i + 1))) ((xs (i + 2))) hok hrm _) (cwV 2 hts gl_M_byteAt rfl rfl rfl (by decide +kernel) ⟨Nat.le_of_ble_eq_true rfl, Nat.le_of_ble_eq_true rfl⟩) hP hD hK hS hA [7, 11, 12] [0, 1, 2, 3, 4, 5, 6, 8, 9, 10] [8, 9] rfl rfl rfl (by decide) (by decide) (by decide) rfl 0 rfl rfl rfl rfl hl.1 rfl (Nat.le_of_ble_eq_true rfl) dL_law_338 ⟨Nat.le_of_ble_eq_true rfl, Nat.le_of_ble_eq_true rfl⟩ (fun r338 u338 H locs e338 hP hD hS => ?_)
  have hP : va_P (dC, dI) vwCl [(aP, .inr (1, [.ref aR, .ref aX, .int (nI ts), .ref aO, .int (nI os), .int (nI uw), .int fr, .int to, .int (nI (pa - lo)), .int (nI hi), .int (nI dr), .int (nI de)])), (aR, .inr (0, [.int (nI R), .ref aB, .ref aS, .ref aT, .int (nI (lo % R)), .int (nI (hi - lo)), .int (nI (off hi % R)), .int (nI (off hi - off lo))])), (aB, .inl (cB, R, .inl Bf)), (aS, .inl (cS, R, .inl Sf)), (aT, .inl (cT, R, .inl Tf)), (aX, .inl (cX, 512, .inl Xf)), (aO, .inl (cO, 512, .inl Of)), (mX, .inl (eX, 512, .inl Xm)), (mO, .inl (eO, 512, .inl Om)), (mT, .inl (eT, 16384, .inl Tm)), (mM, .inr (2, [.int (nI 0), .int (nI R), .ref mX, .int (nI ts), .ref mO, .int (nI os), .int (nI (hi - lo)), .ref mT, .ref mS, .ref mB, .int (nI (off hi - off lo)), .int (nI hi), .int (nI dr), .int (nI de), .int (nI uw), .int fr, .int to, .int (nI pa)])), (mS, .inl (eS, 16384, .inl Sm)), (mB, .inl (eB, 16384, .inl Bm))] H := hP
  have hD : va_D (fun q : Nat => s.heap.size ≤ q) [(aP, .inr (1, [.ref aR, .ref aX, .int (nI ts), .ref aO, .int (nI os), .int (nI uw), .int fr, .int to, .int (nI (pa - lo)), .int (nI hi), .int (nI dr), .int (nI de)])), (aR, .inr (0, [.int (nI R), .ref aB, .ref aS, .ref aT, .int (nI (lo % R)), .int (nI (hi - lo)), .int (nI (off hi % R)), .int (nI (off hi - off lo))])), (aB, .inl (cB, R, .inl Bf)), (aS, .inl (cS, R, .inl Sf)), (aT, .inl (cT, R, .inl Tf)), (aX, .inl (cX, 512, .inl Xf)), (aO, .inl (cO, 512, .inl Of)), (mX, .inl (eX, 512, .inl Xm)), (mO, .inl (eO, 512, .inl Om)), (mT, .inl (eT, 16384, .inl Tm)), (mM, .inr (2, [.int (nI 0), .int (nI R), .ref mX, .int (nI ts), .ref mO, .int (nI os), .int (nI (hi - lo)), .ref mT, .ref mS, .ref mB, .int (nI (off hi - off lo)), .int (nI hi), .int (nI dr), .int (nI de), .int (nI uw), .int fr, .int to, .int (nI pa)])), (mS, .inl (eS, 16384, .inl Sm)), (mB, .inl (eB, 16384, .inl Bm))] := hD
  subst e338
  refine lv_icmp_eq (tgt := 346) hx hb dL_law_341 (by decide) (fun c341 => ?_) (fun c341 => ?_)
  · have hP := hP.sub (ws' := [(aP, .inr (1, [.ref aR, .ref aX, .int (nI ts), .ref aO, .int (nI os), .int (nI uw), .int fr, .int to, .int (nI (pa - lo)), .int (nI hi), .int (nI dr), .int (nI de)])), (aR, .inr (0, [.int (nI R), .ref aB, .ref aS, .ref aT, .int (nI (lo % R)), .int (nI (hi - lo)), .int (nI (off hi % R)), .int (nI (off hi - off lo))])), (aB, .inl (cB, R, .inl Bf)), (aS, .inl (cS, R, .inl Sf)), (aT, .inl (cT, R, .inl Tf)), (aX, .inl (cX, 512, .inl Xf)), (aO, .inl (cO, 512, .inl Of)), (mM, .inr (2, [.int (nI 0), .int (nI R), .ref mX, .int (nI ts), .ref mO, .int (nI os), .int (nI (hi - lo)), .ref mT, .ref mS, .ref mB, .int (nI (off hi - off lo)), .int (nI hi), .int (nI dr), .int (nI de), .int (nI uw), .int fr, .int to, .int (nI pa)])), (mX, .inl (eX, 512, .inl Xm)), (mO, .inl (eO, 512, .inl Om)), (mT, .inl (eT, 16384, .inl Tm)), (mS, .inl (eS, 16384, .inl Sm)), (mB, .inl (eB, 16384, .inl Bm))]) [0, 1, 2, 3, 4, 5, 6, 10, 7, 8, 9, 11, 12] rfl
    have hD := hD.sub (ws' := [(aP, .inr (1, [.ref aR, .ref aX, .int (nI ts), .ref aO, .int (nI os), .int (nI uw), .int fr, .int to, .int (nI (pa - lo)), .int (nI hi), .int (nI dr), .int (nI de)])), (aR, .inr (0, [.int (nI R), .ref aB, .ref aS, .ref aT, .int (nI (lo % R)), .int (nI (hi - lo)), .int (nI (off hi % R)), .int (nI (off hi - off lo))])), (aB, .inl (cB, R, .inl Bf)), (aS, .inl (cS, R, .inl Sf)), (aT, .inl (cT, R, .inl Tf)), (aX, .inl (cX, 512, .inl Xf)), (aO, .inl (cO, 512, .inl Of)), (mM, .inr (2, [.int (nI 0), .int (nI R), .ref mX, .int (nI ts), .ref mO, .int (nI os), .int (nI (hi - lo)), .ref mT, .ref mS, .ref mB, .int (nI (off hi - off lo)), .int (nI hi), .int (nI dr), .int (nI de), .int (nI uw), .int fr, .int to, .int (nI pa)])), (mX, .inl (eX, 512, .inl Xm)), (mO, .inl (eO, 512, .inl Om)), (mT, .inl (eT, 16384, .inl Tm)), (mS, .inl (eS, 16384, .inl Sm)), (mB, .inl (eB, 16384, .inl Bm))]) [0, 1, 2, 3, 4, 5, 6, 10, 7, 8, 9, 11, 12] (by decide) rfl
    exact K _ _ _ ⟨lo, hi, off, ts, os, uw, fr, to, pa, dr, de, tm, bz, tz, oz, Bf, Sf, Tf, Xf, Of, Bm, Sm, Tm, Xm, Om, ⟨hok, hrep, hrm, h512, ⟨hpa, by omega⟩, ⟨hts5, htX, htM⟩, ⟨hos5, hoX, hoM⟩, huw⟩, hP, hD, hS, lv_sub hl [0, 1, 2, 3] rfl⟩
  · exact absurd rfl c341
end
section
theorem st_put {f z : Nat → Int32} {n : Nat} {x : Int32} (h : ∀ t, t < n → f t = (z t).toInt8.toInt32) : ∀ t, t < n + 1 → upd f n (x.toInt8.toInt32) t = (zu z n x t).toInt8.toInt32 := by
  intro t ht
  by_cases q : t = n
  · rw [q, pk_us, zu_s]
  · rw [pk_un q, zu_n q]
    exact h t (by omega)
set_option maxHeartbeats 8000000 in
set_option maxRecDepth 100000 in
theorem law_put {p : Program} {l : Launch} {e : Env} {s : State} {m : MethodId} {below : List Frame} {meth : Method} {c : Code} {dC : Nat → ClassId} {dI : Nat → Nat → Nat} {b L : Nat} {xs : Nat → Int32} (hL : L ≤ 1537) (C0 : lw_At p s m meth c b L xs) {aP aR aB aS aT aX aO mM mX mO mT mS mB : Nat} {cB cS cT cX cO eX eO eT eS eB : ClassId} {R i : Nat} (hK : va_K (dC, dI) vwCl [(cB, .byte), (cS, .int), (cT, .int), (cX, .byte), (cO, .byte), (eX, .byte), (eO, .byte), (eT, .int), (eS, .int), (eB, .byte)] s) (hi3 : i + 3 ≤ L) (K : ∀ (H : Heap) (locs : List Loc) (ls : Array Slot), LI dC dI s b aP aR aB aS aT aX aO mM mX mO mT mS mB cB cS cT cX cO eX eO eT eS eB R (i + 1) i H locs ls → W p l e room_1 s m #[Value.ref b] below meth c H locs 13 100390 (lw_Z below #[Value.ref b] s) (F0 m 346 ls [])) {H : Heap} {locs : List Loc} {ls : Array Slot} (h : LI dC dI s b aP aR aB aS aT aX aO mM mX mO mT mS mB cB cS cT cX cO eX eO eT eS eB R i i H locs ls) : W p l e room_1 s m #[Value.ref b] below meth c H locs 13 100390 (lw_Z below #[Value.ref b] s) (F0 m 96 ls []) := by
  obtain ⟨hx, hb, hr, hml, hown, hts, hX, hbl, hlocks, hgv⟩ := id C0
  have hA : ∀ q : Nat, s.heap.size ≤ q → (fun q : Nat => s.heap.size ≤ q) q := fun _ h => h
  have hbA : ¬ (fun q : Nat => s.heap.size ≤ q) b := Nat.not_le.mpr hbl
  have hown : s.vm.findClass RL = some m.cls := hown
  obtain ⟨lo, hi, off, ts, os, uw, fr, to, pa, dr, de, tm, bz, tz, oz, Bf, Sf, Tf, Xf, Of, Bm, Sm, Tm, Xm, Om, hinv, hP, hD, hS, hl⟩ := h
  obtain ⟨hok, hrep, hrm, h512, ⟨hpa, hcb⟩, ⟨hts5, htX, htM⟩, ⟨hos5, hoX, hoM⟩, huw⟩ := id hinv
  have hll := hok.2.1
  have hRR := hok.1
  rcases Nat.lt_or_ge ts 512 with hcase | hcase
  · refine lv_aload_n hx hb dL_law_96 rfl (lv_at hl 1 rfl) ?_
    refine lv_aload_n hx hb dL_law_97 rfl (lv_at hl 0 rfl) ?_
    refine lv_iload_n hx hb dL_law_98 rfl (lv_at hl 3 rfl) ?_
    refine lv_iconst (v := nI 1) hx hb dL_law_99 (by decide) ?_
    refine lv_iadd hx hb dL_law_100 ?_
    refine zz_as (nI (i + 1)) (nI_add _ _) ?_
    refine zz_sld hx hb hX hbl hbA hS (j := i + 1) (by omega) (by omega) dL_law_101 ?_
    refine zz_callMi (As := [.int (xs (i + 1))]) (rest := []) (wr := [(aR, .inr (0, [.int (nI R), .ref aB, .ref aS, .ref aT, .int (nI (lo % R)), .int (nI (hi - lo)), .int (nI (off hi % R)), .int (nI (off hi - off lo))])), (aB, .inl (cB, R, .inl Bf)), (aS, .inl (cS, R, .inl Sf)), (aT, .inl (cT, R, .inl Tf)), (aO, .inl (cO, 512, .inl Of)), (mM, .inr (2, [.int (nI 0), .int (nI R), .ref mX, .int (nI ts), .ref mO, .int (nI os), .int (nI (hi - lo)), .ref mT, .ref mS, .ref mB, .int (nI (off hi - off lo)), .int (nI hi), .int (nI dr), .int (nI de), .int (nI uw), .int fr, .int to, .int (nI pa)])), (mX, .inl (eX, 512, .inl Xm)), (mO, .inl (eO, 512, .inl Om)), (mT, .inl (eT, 16384, .inl Tm)), (mS, .inl (eS, 16384, .inl Sm)), (mB, .inl (eB, 16384, .inl Bm))]) ⟨hx, hb, hml, hown, hts⟩ (c_P_put l dC dI aP aR aX aO ts os uw fr to (pa - lo) hi dr de cX Xf ((xs (i + 1))) hts5 _) (cwV 1 hts gl_X1_put rfl rfl rfl (by decide +kernel) ⟨Nat.le_of_ble_eq_true rfl, Nat.le_of_ble_eq_true rfl⟩) hP hD hK hS hA [0, 5] [1, 2, 3, 4, 6, 7, 8, 9, 10, 11, 12] [3] rfl rfl rfl (by decide) (by decide) (by decide) rfl 0 rfl rfl rfl rfl hl.1 rfl (Nat.le_of_ble_eq_true rfl) dL_law_102 ⟨Nat.le_of_ble_eq_true rfl, Nat.le_of_ble_eq_true rfl⟩ (fun r102 u102 H locs e102 hP hD hS => ?_)
    have hP : va_P (dC, dI) vwCl [(aR, .inr (0, [.int (nI R), .ref aB, .ref aS, .ref aT, .int (nI (lo % R)), .int (nI (hi - lo)), .int (nI (off hi % R)), .int (nI (off hi - off lo))])), (aB, .inl (cB, R, .inl Bf)), (aS, .inl (cS, R, .inl Sf)), (aT, .inl (cT, R, .inl Tf)), (aO, .inl (cO, 512, .inl Of)), (mM, .inr (2, [.int (nI 0), .int (nI R), .ref mX, .int (nI ts), .ref mO, .int (nI os), .int (nI (hi - lo)), .ref mT, .ref mS, .ref mB, .int (nI (off hi - off lo)), .int (nI hi), .int (nI dr), .int (nI de), .int (nI uw), .int fr, .int to, .int (nI pa)])), (mX, .inl (eX, 512, .inl Xm)), (mO, .inl (eO, 512, .inl Om)), (mT, .inl (eT, 16384, .inl Tm)), (mS, .inl (eS, 16384, .inl Sm)), (mB, .inl (eB, 16384, .inl Bm)), (aP, .inr (1, [.ref aR, .ref aX, .int (nI u102.1), .ref aO, .int (nI os), .int (nI uw), .int fr, .int to, .int (nI (pa - lo)), .int (nI hi), .int (nI dr), .int (nI de)])), (aX, .inl (cX, 512, .inl u102.2))] H := hP
    have hD : va_D (fun q : Nat => s.heap.size ≤ q) [(aR, .inr (0, [.int (nI R), .ref aB, .ref aS, .ref aT, .int (nI (lo % R)), .int (nI (hi - lo)), .int (nI (off hi % R)), .int (nI (off hi - off lo))])), (aB, .inl (cB, R, .inl Bf)), (aS, .inl (cS, R, .inl Sf)), (aT, .inl (cT, R, .inl Tf)), (aO, .inl (cO, 512, .inl Of)), (mM, .inr (2, [.int (nI 0), .int (nI R), .ref mX, .int (nI ts), .ref mO, .int (nI os), .int (nI (hi - lo)), .ref mT, .ref mS, .ref mB, .int (nI (off hi - off lo)), .int (nI hi), .int (nI dr), .int (nI de), .int (nI uw), .int fr, .int to, .int (nI pa)])), (mX, .inl (eX, 512, .inl Xm)), (mO, .inl (eO, 512, .inl Om)), (mT, .inl (eT, 16384, .inl Tm)), (mS, .inl (eS, 16384, .inl Sm)), (mB, .inl (eB, 16384, .inl Bm)), (aP, .inr (1, [.ref aR, .ref aX, .int (nI u102.1), .ref aO, .int (nI os), .int (nI uw), .int fr, .int to, .int (nI (pa - lo)), .int (nI hi), .int (nI dr), .int (nI de)])), (aX, .inl (cX, 512, .inl u102.2))] := hD
    obtain ⟨t1, X1⟩ := u102
    dsimp only at e102
    obtain ⟨-, q1, q2, q3⟩ := e102.resolve_left (fun z => by omega)
    subst q1; subst q2; subst q3
    have hP : va_P (dC, dI) vwCl [(aR, .inr (0, [.int (nI R), .ref aB, .ref aS, .ref aT, .int (nI (lo % R)), .int (nI (hi - lo)), .int (nI (off hi % R)), .int (nI (off hi - off lo))])), (aB, .inl (cB, R, .inl Bf)), (aS, .inl (cS, R, .inl Sf)), (aT, .inl (cT, R, .inl Tf)), (aO, .inl (cO, 512, .inl Of)), (mM, .inr (2, [.int (nI 0), .int (nI R), .ref mX, .int (nI ts), .ref mO, .int (nI os), .int (nI (hi - lo)), .ref mT, .ref mS, .ref mB, .int (nI (off hi - off lo)), .int (nI hi), .int (nI dr), .int (nI de), .int (nI uw), .int fr, .int to, .int (nI pa)])), (mX, .inl (eX, 512, .inl Xm)), (mO, .inl (eO, 512, .inl Om)), (mT, .inl (eT, 16384, .inl Tm)), (mS, .inl (eS, 16384, .inl Sm)), (mB, .inl (eB, 16384, .inl Bm)), (aP, .inr (1, [.ref aR, .ref aX, .int (nI (ts + 1)), .ref aO, .int (nI os), .int (nI uw), .int fr, .int to, .int (nI (pa - lo)), .int (nI hi), .int (nI dr), .int (nI de)])), (aX, .inl (cX, 512, .inl (upd Xf ts ((xs (i + 1)).toInt8.toInt32))))] H := hP
    have hD : va_D (fun q : Nat => s.heap.size ≤ q) [(aR, .inr (0, [.int (nI R), .ref aB, .ref aS, .ref aT, .int (nI (lo % R)), .int (nI (hi - lo)), .int (nI (off hi % R)), .int (nI (off hi - off lo))])), (aB, .inl (cB, R, .inl Bf)), (aS, .inl (cS, R, .inl Sf)), (aT, .inl (cT, R, .inl Tf)), (aO, .inl (cO, 512, .inl Of)), (mM, .inr (2, [.int (nI 0), .int (nI R), .ref mX, .int (nI ts), .ref mO, .int (nI os), .int (nI (hi - lo)), .ref mT, .ref mS, .ref mB, .int (nI (off hi - off lo)), .int (nI hi), .int (nI dr), .int (nI de), .int (nI uw), .int fr, .int to, .int (nI pa)])), (mX, .inl (eX, 512, .inl Xm)), (mO, .inl (eO, 512, .inl Om)), (mT, .inl (eT, 16384, .inl Tm)), (mS, .inl (eS, 16384, .inl Sm)), (mB, .inl (eB, 16384, .inl Bm)), (aP, .inr (1, [.ref aR, .ref aX, .int (nI (ts + 1)), .ref aO, .int (nI os), .int (nI uw), .int fr, .int to, .int (nI (pa - lo)), .int (nI hi), .int (nI dr), .int (nI de)])), (aX, .inl (cX, 512, .inl (upd Xf ts ((xs (i + 1)).toInt8.toInt32))))] := hD
    refine lv_aload_n hx hb dL_law_105 rfl (lv_at hl 2 rfl) ?_
    refine lv_aload_n hx hb dL_law_106 rfl (lv_at hl 0 rfl) ?_
    refine lv_iload_n hx hb dL_law_107 rfl (lv_at hl 3 rfl) ?_
    refine lv_iconst (v := nI 1) hx hb dL_law_108 (by decide) ?_
    refine lv_iadd hx hb dL_law_109 ?_
    refine zz_as (nI (i + 1)) (nI_add _ _) ?_
    refine zz_sld hx hb hX hbl hbA hS (j := i + 1) (by omega) (by omega) dL_law_110 ?_
    refine zz_callMi (As := [.int (xs (i + 1))]) (rest := [.int (nI (ts + 1))]) (wr := [(aR, .inr (0, [.int (nI R), .ref aB, .ref aS, .ref aT, .int (nI (lo % R)), .int (nI (hi - lo)), .int (nI (off hi % R)), .int (nI (off hi - off lo))])), (aB, .inl (cB, R, .inl Bf)), (aS, .inl (cS, R, .inl Sf)), (aT, .inl (cT, R, .inl Tf)), (aO, .inl (cO, 512, .inl Of)), (mO, .inl (eO, 512, .inl Om)), (mT, .inl (eT, 16384, .inl Tm)), (mS, .inl (eS, 16384, .inl Sm)), (mB, .inl (eB, 16384, .inl Bm)), (aP, .inr (1, [.ref aR, .ref aX, .int (nI (ts + 1)), .ref aO, .int (nI os), .int (nI uw), .int fr, .int to, .int (nI (pa - lo)), .int (nI hi), .int (nI dr), .int (nI de)])), (aX, .inl (cX, 512, .inl (upd Xf ts ((xs (i + 1)).toInt8.toInt32))))]) ⟨hx, hb, hml, hown, hts⟩ (c_M_put l dC dI mM mX mO mT mS mB R ts os (hi - lo) (off hi - off lo) hi dr de uw fr to pa eX Xm ((xs (i + 1))) hts5 _) (cwV 1 hts gl_M_put rfl rfl rfl (by decide +kernel) ⟨Nat.le_of_ble_eq_true rfl, Nat.le_of_ble_eq_true rfl⟩) hP hD hK hS hA [5, 6] [0, 1, 2, 3, 4, 7, 8, 9, 10, 11, 12] [5] rfl rfl rfl (by decide) (by decide) (by decide) rfl 0 rfl rfl rfl rfl hl.1 rfl (Nat.le_of_ble_eq_true rfl) dL_law_111 ⟨Nat.le_of_ble_eq_true rfl, Nat.le_of_ble_eq_true rfl⟩ (fun r111 u111 H locs e111 hP hD hS => ?_)
    have hP : va_P (dC, dI) vwCl [(aR, .inr (0, [.int (nI R), .ref aB, .ref aS, .ref aT, .int (nI (lo % R)), .int (nI (hi - lo)), .int (nI (off hi % R)), .int (nI (off hi - off lo))])), (aB, .inl (cB, R, .inl Bf)), (aS, .inl (cS, R, .inl Sf)), (aT, .inl (cT, R, .inl Tf)), (aO, .inl (cO, 512, .inl Of)), (mO, .inl (eO, 512, .inl Om)), (mT, .inl (eT, 16384, .inl Tm)), (mS, .inl (eS, 16384, .inl Sm)), (mB, .inl (eB, 16384, .inl Bm)), (aP, .inr (1, [.ref aR, .ref aX, .int (nI (ts + 1)), .ref aO, .int (nI os), .int (nI uw), .int fr, .int to, .int (nI (pa - lo)), .int (nI hi), .int (nI dr), .int (nI de)])), (aX, .inl (cX, 512, .inl (upd Xf ts ((xs (i + 1)).toInt8.toInt32)))), (mM, .inr (2, [.int (nI 0), .int (nI R), .ref mX, .int (nI u111.1), .ref mO, .int (nI os), .int (nI (hi - lo)), .ref mT, .ref mS, .ref mB, .int (nI (off hi - off lo)), .int (nI hi), .int (nI dr), .int (nI de), .int (nI uw), .int fr, .int to, .int (nI pa)])), (mX, .inl (eX, 512, .inl u111.2))] H := hP
    have hD : va_D (fun q : Nat => s.heap.size ≤ q) [(aR, .inr (0, [.int (nI R), .ref aB, .ref aS, .ref aT, .int (nI (lo % R)), .int (nI (hi - lo)), .int (nI (off hi % R)), .int (nI (off hi - off lo))])), (aB, .inl (cB, R, .inl Bf)), (aS, .inl (cS, R, .inl Sf)), (aT, .inl (cT, R, .inl Tf)), (aO, .inl (cO, 512, .inl Of)), (mO, .inl (eO, 512, .inl Om)), (mT, .inl (eT, 16384, .inl Tm)), (mS, .inl (eS, 16384, .inl Sm)), (mB, .inl (eB, 16384, .inl Bm)), (aP, .inr (1, [.ref aR, .ref aX, .int (nI (ts + 1)), .ref aO, .int (nI os), .int (nI uw), .int fr, .int to, .int (nI (pa - lo)), .int (nI hi), .int (nI dr), .int (nI de)])), (aX, .inl (cX, 512, .inl (upd Xf ts ((xs (i + 1)).toInt8.toInt32)))), (mM, .inr (2, [.int (nI 0), .int (nI R), .ref mX, .int (nI u111.1), .ref mO, .int (nI os), .int (nI (hi - lo)), .ref mT, .ref mS, .ref mB, .int (nI (off hi - off lo)), .int (nI hi), .int (nI dr), .int (nI de), .int (nI uw), .int fr, .int to, .int (nI pa)])), (mX, .inl (eX, 512, .inl u111.2))] := hD
    obtain ⟨t2, X2⟩ := u111
    dsimp only at e111
    obtain ⟨-, q1, q2, q3⟩ := e111.resolve_left (fun z => by omega)
    subst q1; subst q2; subst q3
    have hP : va_P (dC, dI) vwCl [(aR, .inr (0, [.int (nI R), .ref aB, .ref aS, .ref aT, .int (nI (lo % R)), .int (nI (hi - lo)), .int (nI (off hi % R)), .int (nI (off hi - off lo))])), (aB, .inl (cB, R, .inl Bf)), (aS, .inl (cS, R, .inl Sf)), (aT, .inl (cT, R, .inl Tf)), (aO, .inl (cO, 512, .inl Of)), (mO, .inl (eO, 512, .inl Om)), (mT, .inl (eT, 16384, .inl Tm)), (mS, .inl (eS, 16384, .inl Sm)), (mB, .inl (eB, 16384, .inl Bm)), (aP, .inr (1, [.ref aR, .ref aX, .int (nI (ts + 1)), .ref aO, .int (nI os), .int (nI uw), .int fr, .int to, .int (nI (pa - lo)), .int (nI hi), .int (nI dr), .int (nI de)])), (aX, .inl (cX, 512, .inl (upd Xf ts ((xs (i + 1)).toInt8.toInt32)))), (mM, .inr (2, [.int (nI 0), .int (nI R), .ref mX, .int (nI (ts + 1)), .ref mO, .int (nI os), .int (nI (hi - lo)), .ref mT, .ref mS, .ref mB, .int (nI (off hi - off lo)), .int (nI hi), .int (nI dr), .int (nI de), .int (nI uw), .int fr, .int to, .int (nI pa)])), (mX, .inl (eX, 512, .inl (upd Xm ts ((xs (i + 1)).toInt8.toInt32))))] H := hP
    have hD : va_D (fun q : Nat => s.heap.size ≤ q) [(aR, .inr (0, [.int (nI R), .ref aB, .ref aS, .ref aT, .int (nI (lo % R)), .int (nI (hi - lo)), .int (nI (off hi % R)), .int (nI (off hi - off lo))])), (aB, .inl (cB, R, .inl Bf)), (aS, .inl (cS, R, .inl Sf)), (aT, .inl (cT, R, .inl Tf)), (aO, .inl (cO, 512, .inl Of)), (mO, .inl (eO, 512, .inl Om)), (mT, .inl (eT, 16384, .inl Tm)), (mS, .inl (eS, 16384, .inl Sm)), (mB, .inl (eB, 16384, .inl Bm)), (aP, .inr (1, [.ref aR, .ref aX, .int (nI (ts + 1)), .ref aO, .int (nI os), .int (nI uw), .int fr, .int to, .int (nI (pa - lo)), .int (nI hi), .int (nI dr), .int (nI de)])), (aX, .inl (cX, 512, .inl (upd Xf ts ((xs (i + 1)).toInt8.toInt32)))), (mM, .inr (2, [.int (nI 0), .int (nI R), .ref mX, .int (nI (ts + 1)), .ref mO, .int (nI os), .int (nI (hi - lo)), .ref mT, .ref mS, .ref mB, .int (nI (off hi - off lo)), .int (nI hi), .int (nI dr), .int (nI de), .int (nI uw), .int fr, .int to, .int (nI pa)])), (mX, .inl (eX, 512, .inl (upd Xm ts ((xs (i + 1)).toInt8.toInt32))))] := hD
    refine lv_icmp_eq (tgt := 346) hx hb dL_law_114 (by decide) (fun c114 => ?_) (fun c114 => ?_)
    · have hP := hP.sub (ws' := [(aP, .inr (1, [.ref aR, .ref aX, .int (nI (ts + 1)), .ref aO, .int (nI os), .int (nI uw), .int fr, .int to, .int (nI (pa - lo)), .int (nI hi), .int (nI dr), .int (nI de)])), (aR, .inr (0, [.int (nI R), .ref aB, .ref aS, .ref aT, .int (nI (lo % R)), .int (nI (hi - lo)), .int (nI (off hi % R)), .int (nI (off hi - off lo))])), (aB, .inl (cB, R, .inl Bf)), (aS, .inl (cS, R, .inl Sf)), (aT, .inl (cT, R, .inl Tf)), (aX, .inl (cX, 512, .inl (upd Xf ts ((xs (i + 1)).toInt8.toInt32)))), (aO, .inl (cO, 512, .inl Of)), (mM, .inr (2, [.int (nI 0), .int (nI R), .ref mX, .int (nI (ts + 1)), .ref mO, .int (nI os), .int (nI (hi - lo)), .ref mT, .ref mS, .ref mB, .int (nI (off hi - off lo)), .int (nI hi), .int (nI dr), .int (nI de), .int (nI uw), .int fr, .int to, .int (nI pa)])), (mX, .inl (eX, 512, .inl (upd Xm ts ((xs (i + 1)).toInt8.toInt32)))), (mO, .inl (eO, 512, .inl Om)), (mT, .inl (eT, 16384, .inl Tm)), (mS, .inl (eS, 16384, .inl Sm)), (mB, .inl (eB, 16384, .inl Bm))]) [9, 0, 1, 2, 3, 10, 4, 11, 12, 5, 6, 7, 8] rfl
      have hD := hD.sub (ws' := [(aP, .inr (1, [.ref aR, .ref aX, .int (nI (ts + 1)), .ref aO, .int (nI os), .int (nI uw), .int fr, .int to, .int (nI (pa - lo)), .int (nI hi), .int (nI dr), .int (nI de)])), (aR, .inr (0, [.int (nI R), .ref aB, .ref aS, .ref aT, .int (nI (lo % R)), .int (nI (hi - lo)), .int (nI (off hi % R)), .int (nI (off hi - off lo))])), (aB, .inl (cB, R, .inl Bf)), (aS, .inl (cS, R, .inl Sf)), (aT, .inl (cT, R, .inl Tf)), (aX, .inl (cX, 512, .inl (upd Xf ts ((xs (i + 1)).toInt8.toInt32)))), (aO, .inl (cO, 512, .inl Of)), (mM, .inr (2, [.int (nI 0), .int (nI R), .ref mX, .int (nI (ts + 1)), .ref mO, .int (nI os), .int (nI (hi - lo)), .ref mT, .ref mS, .ref mB, .int (nI (off hi - off lo)), .int (nI hi), .int (nI dr), .int (nI de), .int (nI uw), .int fr, .int to, .int (nI pa)])), (mX, .inl (eX, 512, .inl (upd Xm ts ((xs (i + 1)).toInt8.toInt32)))), (mO, .inl (eO, 512, .inl Om)), (mT, .inl (eT, 16384, .inl Tm)), (mS, .inl (eS, 16384, .inl Sm)), (mB, .inl (eB, 16384, .inl Bm))]) [9, 0, 1, 2, 3, 10, 4, 11, 12, 5, 6, 7, 8] (by decide) rfl
      exact K _ _ _ ⟨lo, hi, off, ts + 1, os, uw, fr, to, pa, dr, de, tm, bz, zu tz ts (xs (i + 1)), oz, Bf, Sf, Tf, upd Xf ts ((xs (i + 1)).toInt8.toInt32), Of, Bm, Sm, Tm, upd Xm ts ((xs (i + 1)).toInt8.toInt32), Om, ⟨hok, hrep, hrm, h512, ⟨hpa, by omega⟩, ⟨by omega, st_put htX, st_put htM⟩, ⟨hos5, hoX, hoM⟩, huw⟩, hP, hD, hS, lv_sub hl [0, 1, 2, 3] rfl⟩
    · exact absurd rfl c114
  · refine lv_aload_n hx hb dL_law_96 rfl (lv_at hl 1 rfl) ?_
    refine lv_aload_n hx hb dL_law_97 rfl (lv_at hl 0 rfl) ?_
    refine lv_iload_n hx hb dL_law_98 rfl (lv_at hl 3 rfl) ?_
    refine lv_iconst (v := nI 1) hx hb dL_law_99 (by decide) ?_
    refine lv_iadd hx hb dL_law_100 ?_
    refine zz_as (nI (i + 1)) (nI_add _ _) ?_
    refine zz_sld hx hb hX hbl hbA hS (j := i + 1) (by omega) (by omega) dL_law_101 ?_
    refine zz_callMi (As := [.int (xs (i + 1))]) (rest := []) (wr := [(aR, .inr (0, [.int (nI R), .ref aB, .ref aS, .ref aT, .int (nI (lo % R)), .int (nI (hi - lo)), .int (nI (off hi % R)), .int (nI (off hi - off lo))])), (aB, .inl (cB, R, .inl Bf)), (aS, .inl (cS, R, .inl Sf)), (aT, .inl (cT, R, .inl Tf)), (aO, .inl (cO, 512, .inl Of)), (mM, .inr (2, [.int (nI 0), .int (nI R), .ref mX, .int (nI ts), .ref mO, .int (nI os), .int (nI (hi - lo)), .ref mT, .ref mS, .ref mB, .int (nI (off hi - off lo)), .int (nI hi), .int (nI dr), .int (nI de), .int (nI uw), .int fr, .int to, .int (nI pa)])), (mX, .inl (eX, 512, .inl Xm)), (mO, .inl (eO, 512, .inl Om)), (mT, .inl (eT, 16384, .inl Tm)), (mS, .inl (eS, 16384, .inl Sm)), (mB, .inl (eB, 16384, .inl Bm))]) ⟨hx, hb, hml, hown, hts⟩ (c_P_put l dC dI aP aR aX aO ts os uw fr to (pa - lo) hi dr de cX Xf ((xs (i + 1))) hts5 _) (cwV 1 hts gl_X1_put rfl rfl rfl (by decide +kernel) ⟨Nat.le_of_ble_eq_true rfl, Nat.le_of_ble_eq_true rfl⟩) hP hD hK hS hA [0, 5] [1, 2, 3, 4, 6, 7, 8, 9, 10, 11, 12] [3] rfl rfl rfl (by decide) (by decide) (by decide) rfl 0 rfl rfl rfl rfl hl.1 rfl (Nat.le_of_ble_eq_true rfl) dL_law_102 ⟨Nat.le_of_ble_eq_true rfl, Nat.le_of_ble_eq_true rfl⟩ (fun r102 u102 H locs e102 hP hD hS => ?_)
    have hP : va_P (dC, dI) vwCl [(aR, .inr (0, [.int (nI R), .ref aB, .ref aS, .ref aT, .int (nI (lo % R)), .int (nI (hi - lo)), .int (nI (off hi % R)), .int (nI (off hi - off lo))])), (aB, .inl (cB, R, .inl Bf)), (aS, .inl (cS, R, .inl Sf)), (aT, .inl (cT, R, .inl Tf)), (aO, .inl (cO, 512, .inl Of)), (mM, .inr (2, [.int (nI 0), .int (nI R), .ref mX, .int (nI ts), .ref mO, .int (nI os), .int (nI (hi - lo)), .ref mT, .ref mS, .ref mB, .int (nI (off hi - off lo)), .int (nI hi), .int (nI dr), .int (nI de), .int (nI uw), .int fr, .int to, .int (nI pa)])), (mX, .inl (eX, 512, .inl Xm)), (mO, .inl (eO, 512, .inl Om)), (mT, .inl (eT, 16384, .inl Tm)), (mS, .inl (eS, 16384, .inl Sm)), (mB, .inl (eB, 16384, .inl Bm)), (aP, .inr (1, [.ref aR, .ref aX, .int (nI u102.1), .ref aO, .int (nI os), .int (nI uw), .int fr, .int to, .int (nI (pa - lo)), .int (nI hi), .int (nI dr), .int (nI de)])), (aX, .inl (cX, 512, .inl u102.2))] H := hP
    have hD : va_D (fun q : Nat => s.heap.size ≤ q) [(aR, .inr (0, [.int (nI R), .ref aB, .ref aS, .ref aT, .int (nI (lo % R)), .int (nI (hi - lo)), .int (nI (off hi % R)), .int (nI (off hi - off lo))])), (aB, .inl (cB, R, .inl Bf)), (aS, .inl (cS, R, .inl Sf)), (aT, .inl (cT, R, .inl Tf)), (aO, .inl (cO, 512, .inl Of)), (mM, .inr (2, [.int (nI 0), .int (nI R), .ref mX, .int (nI ts), .ref mO, .int (nI os), .int (nI (hi - lo)), .ref mT, .ref mS, .ref mB, .int (nI (off hi - off lo)), .int (nI hi), .int (nI dr), .int (nI de), .int (nI uw), .int fr, .int to, .int (nI pa)])), (mX, .inl (eX, 512, .inl Xm)), (mO, .inl (eO, 512, .inl Om)), (mT, .inl (eT, 16384, .inl Tm)), (mS, .inl (eS, 16384, .inl Sm)), (mB, .inl (eB, 16384, .inl Bm)), (aP, .inr (1, [.ref aR, .ref aX, .int (nI u102.1), .ref aO, .int (nI os), .int (nI uw), .int fr, .int to, .int (nI (pa - lo)), .int (nI hi), .int (nI dr), .int (nI de)])), (aX, .inl (cX, 512, .inl u102.2))] := hD
    obtain ⟨t1, X1⟩ := u102
    dsimp only at e102
    obtain ⟨-, q1, q2, q3⟩ := e102.resolve_right (fun z => by omega)
    have q2 := q2.symm
    have q3 := q3.symm
    subst q1; subst q2; subst q3
    have hP : va_P (dC, dI) vwCl [(aR, .inr (0, [.int (nI R), .ref aB, .ref aS, .ref aT, .int (nI (lo % R)), .int (nI (hi - lo)), .int (nI (off hi % R)), .int (nI (off hi - off lo))])), (aB, .inl (cB, R, .inl Bf)), (aS, .inl (cS, R, .inl Sf)), (aT, .inl (cT, R, .inl Tf)), (aO, .inl (cO, 512, .inl Of)), (mM, .inr (2, [.int (nI 0), .int (nI R), .ref mX, .int (nI ts), .ref mO, .int (nI os), .int (nI (hi - lo)), .ref mT, .ref mS, .ref mB, .int (nI (off hi - off lo)), .int (nI hi), .int (nI dr), .int (nI de), .int (nI uw), .int fr, .int to, .int (nI pa)])), (mX, .inl (eX, 512, .inl Xm)), (mO, .inl (eO, 512, .inl Om)), (mT, .inl (eT, 16384, .inl Tm)), (mS, .inl (eS, 16384, .inl Sm)), (mB, .inl (eB, 16384, .inl Bm)), (aP, .inr (1, [.ref aR, .ref aX, .int (nI ts), .ref aO, .int (nI os), .int (nI uw), .int fr, .int to, .int (nI (pa - lo)), .int (nI hi), .int (nI dr), .int (nI de)])), (aX, .inl (cX, 512, .inl Xf))] H := hP
    have hD : va_D (fun q : Nat => s.heap.size ≤ q) [(aR, .inr (0, [.int (nI R), .ref aB, .ref aS, .ref aT, .int (nI (lo % R)), .int (nI (hi - lo)), .int (nI (off hi % R)), .int (nI (off hi - off lo))])), (aB, .inl (cB, R, .inl Bf)), (aS, .inl (cS, R, .inl Sf)), (aT, .inl (cT, R, .inl Tf)), (aO, .inl (cO, 512, .inl Of)), (mM, .inr (2, [.int (nI 0), .int (nI R), .ref mX, .int (nI ts), .ref mO, .int (nI os), .int (nI (hi - lo)), .ref mT, .ref mS, .ref mB, .int (nI (off hi - off lo)), .int (nI hi), .int (nI dr), .int (nI de), .int (nI uw), .int fr, .int to, .int (nI pa)])), (mX, .inl (eX, 512, .inl Xm)), (mO, .inl (eO, 512, .inl Om)), (mT, .inl (eT, 16384, .inl Tm)), (mS, .inl (eS, 16384, .inl Sm)), (mB, .inl (eB, 16384, .inl Bm)), (aP, .inr (1, [.ref aR, .ref aX, .int (nI ts), .ref aO, .int (nI os), .int (nI uw), .int fr, .int to, .int (nI (pa - lo)), .int (nI hi), .int (nI dr), .int (nI de)])), (aX, .inl (cX, 512, .inl Xf))] := hD
    refine lv_aload_n hx hb dL_law_105 rfl (lv_at hl 2 rfl) ?_
    refine lv_aload_n hx hb dL_law_106 rfl (lv_at hl 0 rfl) ?_
    refine lv_iload_n hx hb dL_law_107 rfl (lv_at hl 3 rfl) ?_
    refine lv_iconst (v := nI 1) hx hb dL_law_108 (by decide) ?_
    refine lv_iadd hx hb dL_law_109 ?_
    refine zz_as (nI (i + 1)) (nI_add _ _) ?_
    refine zz_sld hx hb hX hbl hbA hS (j := i + 1) (by omega) (by omega) dL_law_110 ?_
    refine zz_callMi (As := [.int (xs (i + 1))]) (rest := [.int (-1)]) (wr := [(aR, .inr (0, [.int (nI R), .ref aB, .ref aS, .ref aT, .int (nI (lo % R)), .int (nI (hi - lo)), .int (nI (off hi % R)), .int (nI (off hi - off lo))])), (aB, .inl (cB, R, .inl Bf)), (aS, .inl (cS, R, .inl Sf)), (aT, .inl (cT, R, .inl Tf)), (aO, .inl (cO, 512, .inl Of)), (mO, .inl (eO, 512, .inl Om)), (mT, .inl (eT, 16384, .inl Tm)), (mS, .inl (eS, 16384, .inl Sm)), (mB, .inl (eB, 16384, .inl Bm)), (aP, .inr (1, [.ref aR, .ref aX, .int (nI ts), .ref aO, .int (nI os), .int (nI uw), .int fr, .int to, .int (nI (pa - lo)), .int (nI hi), .int (nI dr), .int (nI de)])), (aX, .inl (cX, 512, .inl Xf))]) ⟨hx, hb, hml, hown, hts⟩ (c_M_put l dC dI mM mX mO mT mS mB R ts os (hi - lo) (off hi - off lo) hi dr de uw fr to pa eX Xm ((xs (i + 1))) hts5 _) (cwV 1 hts gl_M_put rfl rfl rfl (by decide +kernel) ⟨Nat.le_of_ble_eq_true rfl, Nat.le_of_ble_eq_true rfl⟩) hP hD hK hS hA [5, 6] [0, 1, 2, 3, 4, 7, 8, 9, 10, 11, 12] [5] rfl rfl rfl (by decide) (by decide) (by decide) rfl 0 rfl rfl rfl rfl hl.1 rfl (Nat.le_of_ble_eq_true rfl) dL_law_111 ⟨Nat.le_of_ble_eq_true rfl, Nat.le_of_ble_eq_true rfl⟩ (fun r111 u111 H locs e111 hP hD hS => ?_)
    have hP : va_P (dC, dI) vwCl [(aR, .inr (0, [.int (nI R), .ref aB, .ref aS, .ref aT, .int (nI (lo % R)), .int (nI (hi - lo)), .int (nI (off hi % R)), .int (nI (off hi - off lo))])), (aB, .inl (cB, R, .inl Bf)), (aS, .inl (cS, R, .inl Sf)), (aT, .inl (cT, R, .inl Tf)), (aO, .inl (cO, 512, .inl Of)), (mO, .inl (eO, 512, .inl Om)), (mT, .inl (eT, 16384, .inl Tm)), (mS, .inl (eS, 16384, .inl Sm)), (mB, .inl (eB, 16384, .inl Bm)), (aP, .inr (1, [.ref aR, .ref aX, .int (nI ts), .ref aO, .int (nI os), .int (nI uw), .int fr, .int to, .int (nI (pa - lo)), .int (nI hi), .int (nI dr), .int (nI de)])), (aX, .inl (cX, 512, .inl Xf)), (mM, .inr (2, [.int (nI 0), .int (nI R), .ref mX, .int (nI u111.1), .ref mO, .int (nI os), .int (nI (hi - lo)), .ref mT, .ref mS, .ref mB, .int (nI (off hi - off lo)), .int (nI hi), .int (nI dr), .int (nI de), .int (nI uw), .int fr, .int to, .int (nI pa)])), (mX, .inl (eX, 512, .inl u111.2))] H := hP
    have hD : va_D (fun q : Nat => s.heap.size ≤ q) [(aR, .inr (0, [.int (nI R), .ref aB, .ref aS, .ref aT, .int (nI (lo % R)), .int (nI (hi - lo)), .int (nI (off hi % R)), .int (nI (off hi - off lo))])), (aB, .inl (cB, R, .inl Bf)), (aS, .inl (cS, R, .inl Sf)), (aT, .inl (cT, R, .inl Tf)), (aO, .inl (cO, 512, .inl Of)), (mO, .inl (eO, 512, .inl Om)), (mT, .inl (eT, 16384, .inl Tm)), (mS, .inl (eS, 16384, .inl Sm)), (mB, .inl (eB, 16384, .inl Bm)), (aP, .inr (1, [.ref aR, .ref aX, .int (nI ts), .ref aO, .int (nI os), .int (nI uw), .int fr, .int to, .int (nI (pa - lo)), .int (nI hi), .int (nI dr), .int (nI de)])), (aX, .inl (cX, 512, .inl Xf)), (mM, .inr (2, [.int (nI 0), .int (nI R), .ref mX, .int (nI u111.1), .ref mO, .int (nI os), .int (nI (hi - lo)), .ref mT, .ref mS, .ref mB, .int (nI (off hi - off lo)), .int (nI hi), .int (nI dr), .int (nI de), .int (nI uw), .int fr, .int to, .int (nI pa)])), (mX, .inl (eX, 512, .inl u111.2))] := hD
    obtain ⟨t2, X2⟩ := u111
    dsimp only at e111
    obtain ⟨-, q1, q2, q3⟩ := e111.resolve_right (fun z => by omega)
    have q2 := q2.symm
    have q3 := q3.symm
    subst q1; subst q2; subst q3
    have hP : va_P (dC, dI) vwCl [(aR, .inr (0, [.int (nI R), .ref aB, .ref aS, .ref aT, .int (nI (lo % R)), .int (nI (hi - lo)), .int (nI (off hi % R)), .int (nI (off hi - off lo))])), (aB, .inl (cB, R, .inl Bf)), (aS, .inl (cS, R, .inl Sf)), (aT, .inl (cT, R, .inl Tf)), (aO, .inl (cO, 512, .inl Of)), (mO, .inl (eO, 512, .inl Om)), (mT, .inl (eT, 16384, .inl Tm)), (mS, .inl (eS, 16384, .inl Sm)), (mB, .inl (eB, 16384, .inl Bm)), (aP, .inr (1, [.ref aR, .ref aX, .int (nI ts), .ref aO, .int (nI os), .int (nI uw), .int fr, .int to, .int (nI (pa - lo)), .int (nI hi), .int (nI dr), .int (nI de)])), (aX, .inl (cX, 512, .inl Xf)), (mM, .inr (2, [.int (nI 0), .int (nI R), .ref mX, .int (nI ts), .ref mO, .int (nI os), .int (nI (hi - lo)), .ref mT, .ref mS, .ref mB, .int (nI (off hi - off lo)), .int (nI hi), .int (nI dr), .int (nI de), .int (nI uw), .int fr, .int to, .int (nI pa)])), (mX, .inl (eX, 512, .inl Xm))] H := hP
    have hD : va_D (fun q : Nat => s.heap.size ≤ q) [(aR, .inr (0, [.int (nI R), .ref aB, .ref aS, .ref aT, .int (nI (lo % R)), .int (nI (hi - lo)), .int (nI (off hi % R)), .int (nI (off hi - off lo))])), (aB, .inl (cB, R, .inl Bf)), (aS, .inl (cS, R, .inl Sf)), (aT, .inl (cT, R, .inl Tf)), (aO, .inl (cO, 512, .inl Of)), (mO, .inl (eO, 512, .inl Om)), (mT, .inl (eT, 16384, .inl Tm)), (mS, .inl (eS, 16384, .inl Sm)), (mB, .inl (eB, 16384, .inl Bm)), (aP, .inr (1, [.ref aR, .ref aX, .int (nI ts), .ref aO, .int (nI os), .int (nI uw), .int fr, .int to, .int (nI (pa - lo)), .int (nI hi), .int (nI dr), .int (nI de)])), (aX, .inl (cX, 512, .inl Xf)), (mM, .inr (2, [.int (nI 0), .int (nI R), .ref mX, .int (nI ts), .ref mO, .int (nI os), .int (nI (hi - lo)), .ref mT, .ref mS, .ref mB, .int (nI (off hi - off lo)), .int (nI hi), .int (nI dr), .int (nI de), .int (nI uw), .int fr, .int to, .int (nI pa)])), (mX, .inl (eX, 512, .inl Xm))] := hD
    refine lv_icmp_eq (tgt := 346) hx hb dL_law_114 (by decide) (fun c114 => ?_) (fun c114 => ?_)
    · have hP := hP.sub (ws' := [(aP, .inr (1, [.ref aR, .ref aX, .int (nI ts), .ref aO, .int (nI os), .int (nI uw), .int fr, .int to, .int (nI (pa - lo)), .int (nI hi), .int (nI dr), .int (nI de)])), (aR, .inr (0, [.int (nI R), .ref aB, .ref aS, .ref aT, .int (nI (lo % R)), .int (nI (hi - lo)), .int (nI (off hi % R)), .int (nI (off hi - off lo))])), (aB, .inl (cB, R, .inl Bf)), (aS, .inl (cS, R, .inl Sf)), (aT, .inl (cT, R, .inl Tf)), (aX, .inl (cX, 512, .inl Xf)), (aO, .inl (cO, 512, .inl Of)), (mM, .inr (2, [.int (nI 0), .int (nI R), .ref mX, .int (nI ts), .ref mO, .int (nI os), .int (nI (hi - lo)), .ref mT, .ref mS, .ref mB, .int (nI (off hi - off lo)), .int (nI hi), .int (nI dr), .int (nI de), .int (nI uw), .int fr, .int to, .int (nI pa)])), (mX, .inl (eX, 512, .inl Xm)), (mO, .inl (eO, 512, .inl Om)), (mT, .inl (eT, 16384, .inl Tm)), (mS, .inl (eS, 16384, .inl Sm)), (mB, .inl (eB, 16384, .inl Bm))]) [9, 0, 1, 2, 3, 10, 4, 11, 12, 5, 6, 7, 8] rfl
      have hD := hD.sub (ws' := [(aP, .inr (1, [.ref aR, .ref aX, .int (nI ts), .ref aO, .int (nI os), .int (nI uw), .int fr, .int to, .int (nI (pa - lo)), .int (nI hi), .int (nI dr), .int (nI de)])), (aR, .inr (0, [.int (nI R), .ref aB, .ref aS, .ref aT, .int (nI (lo % R)), .int (nI (hi - lo)), .int (nI (off hi % R)), .int (nI (off hi - off lo))])), (aB, .inl (cB, R, .inl Bf)), (aS, .inl (cS, R, .inl Sf)), (aT, .inl (cT, R, .inl Tf)), (aX, .inl (cX, 512, .inl Xf)), (aO, .inl (cO, 512, .inl Of)), (mM, .inr (2, [.int (nI 0), .int (nI R), .ref mX, .int (nI ts), .ref mO, .int (nI os), .int (nI (hi - lo)), .ref mT, .ref mS, .ref mB, .int (nI (off hi - off lo)), .int (nI hi), .int (nI dr), .int (nI de), .int (nI uw), .int fr, .int to, .int (nI pa)])), (mX, .inl (eX, 512, .inl Xm)), (mO, .inl (eO, 512, .inl Om)), (mT, .inl (eT, 16384, .inl Tm)), (mS, .inl (eS, 16384, .inl Sm)), (mB, .inl (eB, 16384, .inl Bm))]) [9, 0, 1, 2, 3, 10, 4, 11, 12, 5, 6, 7, 8] (by decide) rfl
      exact K _ _ _ ⟨lo, hi, off, ts, os, uw, fr, to, pa, dr, de, tm, bz, tz, oz, Bf, Sf, Tf, Xf, Of, Bm, Sm, Tm, Xm, Om, ⟨hok, hrep, hrm, h512, ⟨hpa, by omega⟩, ⟨hts5, htX, htM⟩, ⟨hos5, hoX, hoM⟩, huw⟩, hP, hD, hS, lv_sub hl [0, 1, 2, 3] rfl⟩
    · exact absurd rfl c114
set_option maxHeartbeats 8000000 in
set_option maxRecDepth 100000 in
theorem law_keep {p : Program} {l : Launch} {e : Env} {s : State} {m : MethodId} {below : List Frame} {meth : Method} {c : Code} {dC : Nat → ClassId} {dI : Nat → Nat → Nat} {b L : Nat} {xs : Nat → Int32} (hL : L ≤ 1537) (C0 : lw_At p s m meth c b L xs) {aP aR aB aS aT aX aO mM mX mO mT mS mB : Nat} {cB cS cT cX cO eX eO eT eS eB : ClassId} {R i : Nat} (hK : va_K (dC, dI) vwCl [(cB, .byte), (cS, .int), (cT, .int), (cX, .byte), (cO, .byte), (eX, .byte), (eO, .byte), (eT, .int), (eS, .int), (eB, .byte)] s) (hi3 : i + 3 ≤ L) (K : ∀ (H : Heap) (locs : List Loc) (ls : Array Slot), LI dC dI s b aP aR aB aS aT aX aO mM mX mO mT mS mB cB cS cT cX cO eX eO eT eS eB R (i + 1) i H locs ls → W p l e room_1 s m #[Value.ref b] below meth c H locs 13 100390 (lw_Z below #[Value.ref b] s) (F0 m 346 ls [])) {H : Heap} {locs : List Loc} {ls : Array Slot} (h : LI dC dI s b aP aR aB aS aT aX aO mM mX mO mT mS mB cB cS cT cX cO eX eO eT eS eB R i i H locs ls) : W p l e room_1 s m #[Value.ref b] below meth c H locs 13 100390 (lw_Z below #[Value.ref b] s) (F0 m 119 ls []) := by
  obtain ⟨hx, hb, hr, hml, hown, hts, hX, hbl, hlocks, hgv⟩ := id C0
  have hA : ∀ q : Nat, s.heap.size ≤ q → (fun q : Nat => s.heap.size ≤ q) q := fun _ h => h
  have hbA : ¬ (fun q : Nat => s.heap.size ≤ q) b := Nat.not_le.mpr hbl
  have hown : s.vm.findClass RL = some m.cls := hown
  obtain ⟨lo, hi, off, ts, os, uw, fr, to, pa, dr, de, tm, bz, tz, oz, Bf, Sf, Tf, Xf, Of, Bm, Sm, Tm, Xm, Om, hinv, hP, hD, hS, hl⟩ := h
  obtain ⟨hok, hrep, hrm, h512, ⟨hpa, hcb⟩, ⟨hts5, htX, htM⟩, ⟨hos5, hoX, hoM⟩, huw⟩ := id hinv
  have hll := hok.2.1
  have hRR := hok.1
  rcases (show ts = 0 ∨ R < ts ∨ (1 ≤ ts ∧ ts ≤ R) by omega) with h0 | h0 | ⟨h1, h2⟩
  · refine lv_aload_n hx hb dL_law_119 rfl (lv_at hl 1 rfl) ?_
    refine lv_aload_n hx hb dL_law_120 rfl (lv_at hl 0 rfl) ?_
    refine lv_iload_n hx hb dL_law_121 rfl (lv_at hl 3 rfl) ?_
    refine lv_iconst (v := nI 1) hx hb dL_law_122 (by decide) ?_
    refine lv_iadd hx hb dL_law_123 ?_
    refine zz_as (nI (i + 1)) (nI_add _ _) ?_
    refine zz_sld hx hb hX hbl hbA hS (j := i + 1) (by omega) (by omega) dL_law_124 ?_
    refine zz_callMi (As := [.int (xs (i + 1))]) (rest := []) (wr := [(aR, .inr (0, [.int (nI R), .ref aB, .ref aS, .ref aT, .int (nI (lo % R)), .int (nI (hi - lo)), .int (nI (off hi % R)), .int (nI (off hi - off lo))])), (aB, .inl (cB, R, .inl Bf)), (aS, .inl (cS, R, .inl Sf)), (aT, .inl (cT, R, .inl Tf)), (aX, .inl (cX, 512, .inl Xf)), (aO, .inl (cO, 512, .inl Of)), (mM, .inr (2, [.int (nI 0), .int (nI R), .ref mX, .int (nI ts), .ref mO, .int (nI os), .int (nI (hi - lo)), .ref mT, .ref mS, .ref mB, .int (nI (off hi - off lo)), .int (nI hi), .int (nI dr), .int (nI de), .int (nI uw), .int fr, .int to, .int (nI pa)])), (mX, .inl (eX, 512, .inl Xm)), (mO, .inl (eO, 512, .inl Om)), (mT, .inl (eT, 16384, .inl Tm)), (mS, .inl (eS, 16384, .inl Sm)), (mB, .inl (eB, 16384, .inl Bm))]) ⟨hx, hb, hml, hown, hts⟩ (c_P_keep_none l dC dI aP aR aX aO ts os uw fr to (pa - lo) hi dr de ((xs (i + 1))) h0 _) (cwV 1 hts gl_X1_keep rfl rfl rfl (by decide +kernel) ⟨Nat.le_of_ble_eq_true rfl, Nat.le_of_ble_eq_true rfl⟩) hP hD hK hS hA [0] [1, 2, 3, 4, 5, 6, 7, 8, 9, 10, 11, 12] [] rfl rfl rfl (by decide) (by decide) (by decide) rfl 0 rfl rfl rfl rfl hl.1 rfl (Nat.le_of_ble_eq_true rfl) dL_law_125 ⟨Nat.le_of_ble_eq_true rfl, Nat.le_of_ble_eq_true rfl⟩ (fun r125 u125 H locs e125 hP hD hS => ?_)
    have hP : va_P (dC, dI) vwCl [(aR, .inr (0, [.int (nI R), .ref aB, .ref aS, .ref aT, .int (nI (lo % R)), .int (nI (hi - lo)), .int (nI (off hi % R)), .int (nI (off hi - off lo))])), (aB, .inl (cB, R, .inl Bf)), (aS, .inl (cS, R, .inl Sf)), (aT, .inl (cT, R, .inl Tf)), (aX, .inl (cX, 512, .inl Xf)), (aO, .inl (cO, 512, .inl Of)), (mM, .inr (2, [.int (nI 0), .int (nI R), .ref mX, .int (nI ts), .ref mO, .int (nI os), .int (nI (hi - lo)), .ref mT, .ref mS, .ref mB, .int (nI (off hi - off lo)), .int (nI hi), .int (nI dr), .int (nI de), .int (nI uw), .int fr, .int to, .int (nI pa)])), (mX, .inl (eX, 512, .inl Xm)), (mO, .inl (eO, 512, .inl Om)), (mT, .inl (eT, 16384, .inl Tm)), (mS, .inl (eS, 16384, .inl Sm)), (mB, .inl (eB, 16384, .inl Bm)), (aP, .inr (1, [.ref aR, .ref aX, .int (nI 0), .ref aO, .int (nI os), .int (nI uw), .int fr, .int to, .int (nI (pa - lo)), .int (nI hi), .int (nI dr), .int (nI de)]))] H := hP
    have hD : va_D (fun q : Nat => s.heap.size ≤ q) [(aR, .inr (0, [.int (nI R), .ref aB, .ref aS, .ref aT, .int (nI (lo % R)), .int (nI (hi - lo)), .int (nI (off hi % R)), .int (nI (off hi - off lo))])), (aB, .inl (cB, R, .inl Bf)), (aS, .inl (cS, R, .inl Sf)), (aT, .inl (cT, R, .inl Tf)), (aX, .inl (cX, 512, .inl Xf)), (aO, .inl (cO, 512, .inl Of)), (mM, .inr (2, [.int (nI 0), .int (nI R), .ref mX, .int (nI ts), .ref mO, .int (nI os), .int (nI (hi - lo)), .ref mT, .ref mS, .ref mB, .int (nI (off hi - off lo)), .int (nI hi), .int (nI dr), .int (nI de), .int (nI uw), .int fr, .int to, .int (nI pa)])), (mX, .inl (eX, 512, .inl Xm)), (mO, .inl (eO, 512, .inl Om)), (mT, .inl (eT, 16384, .inl Tm)), (mS, .inl (eS, 16384, .inl Sm)), (mB, .inl (eB, 16384, .inl Bm)), (aP, .inr (1, [.ref aR, .ref aX, .int (nI 0), .ref aO, .int (nI os), .int (nI uw), .int fr, .int to, .int (nI (pa - lo)), .int (nI hi), .int (nI dr), .int (nI de)]))] := hD
    subst e125
    refine lv_aload_n hx hb dL_law_128 rfl (lv_at hl 2 rfl) ?_
    refine lv_aload_n hx hb dL_law_129 rfl (lv_at hl 0 rfl) ?_
    refine lv_iload_n hx hb dL_law_130 rfl (lv_at hl 3 rfl) ?_
    refine lv_iconst (v := nI 1) hx hb dL_law_131 (by decide) ?_
    refine lv_iadd hx hb dL_law_132 ?_
    refine zz_as (nI (i + 1)) (nI_add _ _) ?_
    refine zz_sld hx hb hX hbl hbA hS (j := i + 1) (by omega) (by omega) dL_law_133 ?_
    refine zz_callMi (As := [.int (xs (i + 1))]) (rest := [.int (-1)]) (wr := [(aR, .inr (0, [.int (nI R), .ref aB, .ref aS, .ref aT, .int (nI (lo % R)), .int (nI (hi - lo)), .int (nI (off hi % R)), .int (nI (off hi - off lo))])), (aB, .inl (cB, R, .inl Bf)), (aS, .inl (cS, R, .inl Sf)), (aT, .inl (cT, R, .inl Tf)), (aX, .inl (cX, 512, .inl Xf)), (aO, .inl (cO, 512, .inl Of)), (mX, .inl (eX, 512, .inl Xm)), (mO, .inl (eO, 512, .inl Om)), (mT, .inl (eT, 16384, .inl Tm)), (mS, .inl (eS, 16384, .inl Sm)), (mB, .inl (eB, 16384, .inl Bm)), (aP, .inr (1, [.ref aR, .ref aX, .int (nI 0), .ref aO, .int (nI os), .int (nI uw), .int fr, .int to, .int (nI (pa - lo)), .int (nI hi), .int (nI dr), .int (nI de)]))]) ⟨hx, hb, hml, hown, hts⟩ (c_M_keep_none l dC dI mM mX mO mT mS mB R ts os (hi - lo) (off hi - off lo) hi dr de uw fr to pa ((xs (i + 1))) h0 _) (cwV 1 hts gl_M_keep rfl rfl rfl (by decide +kernel) ⟨Nat.le_of_ble_eq_true rfl, Nat.le_of_ble_eq_true rfl⟩) hP hD hK hS hA [6] [0, 1, 2, 3, 4, 5, 7, 8, 9, 10, 11, 12] [] rfl rfl rfl (by decide) (by decide) (by decide) rfl 0 rfl rfl rfl rfl hl.1 rfl (Nat.le_of_ble_eq_true rfl) dL_law_134 ⟨Nat.le_of_ble_eq_true rfl, Nat.le_of_ble_eq_true rfl⟩ (fun r134 u134 H locs e134 hP hD hS => ?_)
    have hP : va_P (dC, dI) vwCl [(aR, .inr (0, [.int (nI R), .ref aB, .ref aS, .ref aT, .int (nI (lo % R)), .int (nI (hi - lo)), .int (nI (off hi % R)), .int (nI (off hi - off lo))])), (aB, .inl (cB, R, .inl Bf)), (aS, .inl (cS, R, .inl Sf)), (aT, .inl (cT, R, .inl Tf)), (aX, .inl (cX, 512, .inl Xf)), (aO, .inl (cO, 512, .inl Of)), (mX, .inl (eX, 512, .inl Xm)), (mO, .inl (eO, 512, .inl Om)), (mT, .inl (eT, 16384, .inl Tm)), (mS, .inl (eS, 16384, .inl Sm)), (mB, .inl (eB, 16384, .inl Bm)), (aP, .inr (1, [.ref aR, .ref aX, .int (nI 0), .ref aO, .int (nI os), .int (nI uw), .int fr, .int to, .int (nI (pa - lo)), .int (nI hi), .int (nI dr), .int (nI de)])), (mM, .inr (2, [.int (nI 0), .int (nI R), .ref mX, .int (nI 0), .ref mO, .int (nI os), .int (nI (hi - lo)), .ref mT, .ref mS, .ref mB, .int (nI (off hi - off lo)), .int (nI hi), .int (nI dr), .int (nI de), .int (nI uw), .int fr, .int to, .int (nI pa)]))] H := hP
    have hD : va_D (fun q : Nat => s.heap.size ≤ q) [(aR, .inr (0, [.int (nI R), .ref aB, .ref aS, .ref aT, .int (nI (lo % R)), .int (nI (hi - lo)), .int (nI (off hi % R)), .int (nI (off hi - off lo))])), (aB, .inl (cB, R, .inl Bf)), (aS, .inl (cS, R, .inl Sf)), (aT, .inl (cT, R, .inl Tf)), (aX, .inl (cX, 512, .inl Xf)), (aO, .inl (cO, 512, .inl Of)), (mX, .inl (eX, 512, .inl Xm)), (mO, .inl (eO, 512, .inl Om)), (mT, .inl (eT, 16384, .inl Tm)), (mS, .inl (eS, 16384, .inl Sm)), (mB, .inl (eB, 16384, .inl Bm)), (aP, .inr (1, [.ref aR, .ref aX, .int (nI 0), .ref aO, .int (nI os), .int (nI uw), .int fr, .int to, .int (nI (pa - lo)), .int (nI hi), .int (nI dr), .int (nI de)])), (mM, .inr (2, [.int (nI 0), .int (nI R), .ref mX, .int (nI 0), .ref mO, .int (nI os), .int (nI (hi - lo)), .ref mT, .ref mS, .ref mB, .int (nI (off hi - off lo)), .int (nI hi), .int (nI dr), .int (nI de), .int (nI uw), .int fr, .int to, .int (nI pa)]))] := hD
    subst e134
    refine lv_icmp_eq (tgt := 346) hx hb dL_law_137 (by decide) (fun c137 => ?_) (fun c137 => ?_)
    · have hP := hP.sub (ws' := [(aP, .inr (1, [.ref aR, .ref aX, .int (nI 0), .ref aO, .int (nI os), .int (nI uw), .int fr, .int to, .int (nI (pa - lo)), .int (nI hi), .int (nI dr), .int (nI de)])), (aR, .inr (0, [.int (nI R), .ref aB, .ref aS, .ref aT, .int (nI (lo % R)), .int (nI (hi - lo)), .int (nI (off hi % R)), .int (nI (off hi - off lo))])), (aB, .inl (cB, R, .inl Bf)), (aS, .inl (cS, R, .inl Sf)), (aT, .inl (cT, R, .inl Tf)), (aX, .inl (cX, 512, .inl Xf)), (aO, .inl (cO, 512, .inl Of)), (mM, .inr (2, [.int (nI 0), .int (nI R), .ref mX, .int (nI 0), .ref mO, .int (nI os), .int (nI (hi - lo)), .ref mT, .ref mS, .ref mB, .int (nI (off hi - off lo)), .int (nI hi), .int (nI dr), .int (nI de), .int (nI uw), .int fr, .int to, .int (nI pa)])), (mX, .inl (eX, 512, .inl Xm)), (mO, .inl (eO, 512, .inl Om)), (mT, .inl (eT, 16384, .inl Tm)), (mS, .inl (eS, 16384, .inl Sm)), (mB, .inl (eB, 16384, .inl Bm))]) [11, 0, 1, 2, 3, 4, 5, 12, 6, 7, 8, 9, 10] rfl
      have hD := hD.sub (ws' := [(aP, .inr (1, [.ref aR, .ref aX, .int (nI 0), .ref aO, .int (nI os), .int (nI uw), .int fr, .int to, .int (nI (pa - lo)), .int (nI hi), .int (nI dr), .int (nI de)])), (aR, .inr (0, [.int (nI R), .ref aB, .ref aS, .ref aT, .int (nI (lo % R)), .int (nI (hi - lo)), .int (nI (off hi % R)), .int (nI (off hi - off lo))])), (aB, .inl (cB, R, .inl Bf)), (aS, .inl (cS, R, .inl Sf)), (aT, .inl (cT, R, .inl Tf)), (aX, .inl (cX, 512, .inl Xf)), (aO, .inl (cO, 512, .inl Of)), (mM, .inr (2, [.int (nI 0), .int (nI R), .ref mX, .int (nI 0), .ref mO, .int (nI os), .int (nI (hi - lo)), .ref mT, .ref mS, .ref mB, .int (nI (off hi - off lo)), .int (nI hi), .int (nI dr), .int (nI de), .int (nI uw), .int fr, .int to, .int (nI pa)])), (mX, .inl (eX, 512, .inl Xm)), (mO, .inl (eO, 512, .inl Om)), (mT, .inl (eT, 16384, .inl Tm)), (mS, .inl (eS, 16384, .inl Sm)), (mB, .inl (eB, 16384, .inl Bm))]) [11, 0, 1, 2, 3, 4, 5, 12, 6, 7, 8, 9, 10] (by decide) rfl
      exact K _ _ _ ⟨lo, hi, off, 0, os, uw, fr, to, pa, dr, de, tm, bz, tz, oz, Bf, Sf, Tf, Xf, Of, Bm, Sm, Tm, Xm, Om, ⟨hok, hrep, hrm, h512, ⟨hpa, by omega⟩, ⟨Nat.zero_le _, fun t h => absurd h (Nat.not_lt_zero t), fun t h => absurd h (Nat.not_lt_zero t)⟩, ⟨hos5, hoX, hoM⟩, huw⟩, hP, hD, hS, lv_sub hl [0, 1, 2, 3] rfl⟩
    · exact absurd rfl c137
  · refine lv_aload_n hx hb dL_law_119 rfl (lv_at hl 1 rfl) ?_
    refine lv_aload_n hx hb dL_law_120 rfl (lv_at hl 0 rfl) ?_
    refine lv_iload_n hx hb dL_law_121 rfl (lv_at hl 3 rfl) ?_
    refine lv_iconst (v := nI 1) hx hb dL_law_122 (by decide) ?_
    refine lv_iadd hx hb dL_law_123 ?_
    refine zz_as (nI (i + 1)) (nI_add _ _) ?_
    refine zz_sld hx hb hX hbl hbA hS (j := i + 1) (by omega) (by omega) dL_law_124 ?_
    refine zz_callMi (As := [.int (xs (i + 1))]) (rest := []) (wr := [(aB, .inl (cB, R, .inl Bf)), (aS, .inl (cS, R, .inl Sf)), (aT, .inl (cT, R, .inl Tf)), (aX, .inl (cX, 512, .inl Xf)), (aO, .inl (cO, 512, .inl Of)), (mM, .inr (2, [.int (nI 0), .int (nI R), .ref mX, .int (nI ts), .ref mO, .int (nI os), .int (nI (hi - lo)), .ref mT, .ref mS, .ref mB, .int (nI (off hi - off lo)), .int (nI hi), .int (nI dr), .int (nI de), .int (nI uw), .int fr, .int to, .int (nI pa)])), (mX, .inl (eX, 512, .inl Xm)), (mO, .inl (eO, 512, .inl Om)), (mT, .inl (eT, 16384, .inl Tm)), (mS, .inl (eS, 16384, .inl Sm)), (mB, .inl (eB, 16384, .inl Bm))]) ⟨hx, hb, hml, hown, hts⟩ (c_P_keep_full l dC dI aP aR aX aO ts os uw fr to (pa - lo) hi dr de aB aS aT R (lo % R) (hi - lo) (off hi % R) (off hi - off lo) ((xs (i + 1))) h0 hts5 _) (cwV 1 hts gl_X1_keep rfl rfl rfl (by decide +kernel) ⟨Nat.le_of_ble_eq_true rfl, Nat.le_of_ble_eq_true rfl⟩) hP hD hK hS hA [0, 1] [2, 3, 4, 5, 6, 7, 8, 9, 10, 11, 12] [] rfl rfl rfl (by decide) (by decide) (by decide) rfl 0 rfl rfl rfl rfl hl.1 rfl (Nat.le_of_ble_eq_true rfl) dL_law_125 ⟨Nat.le_of_ble_eq_true rfl, Nat.le_of_ble_eq_true rfl⟩ (fun r125 u125 H locs e125 hP hD hS => ?_)
    have hP : va_P (dC, dI) vwCl [(aB, .inl (cB, R, .inl Bf)), (aS, .inl (cS, R, .inl Sf)), (aT, .inl (cT, R, .inl Tf)), (aX, .inl (cX, 512, .inl Xf)), (aO, .inl (cO, 512, .inl Of)), (mM, .inr (2, [.int (nI 0), .int (nI R), .ref mX, .int (nI ts), .ref mO, .int (nI os), .int (nI (hi - lo)), .ref mT, .ref mS, .ref mB, .int (nI (off hi - off lo)), .int (nI hi), .int (nI dr), .int (nI de), .int (nI uw), .int fr, .int to, .int (nI pa)])), (mX, .inl (eX, 512, .inl Xm)), (mO, .inl (eO, 512, .inl Om)), (mT, .inl (eT, 16384, .inl Tm)), (mS, .inl (eS, 16384, .inl Sm)), (mB, .inl (eB, 16384, .inl Bm)), (aP, .inr (1, [.ref aR, .ref aX, .int (nI 0), .ref aO, .int (nI os), .int (nI uw), .int fr, .int to, .int (nI (pa - lo)), .int (nI hi), .int (nI dr), .int (nI de)])), (aR, .inr (0, [.int (nI R), .ref aB, .ref aS, .ref aT, .int (nI (lo % R)), .int (nI (hi - lo)), .int (nI (off hi % R)), .int (nI (off hi - off lo))]))] H := hP
    have hD : va_D (fun q : Nat => s.heap.size ≤ q) [(aB, .inl (cB, R, .inl Bf)), (aS, .inl (cS, R, .inl Sf)), (aT, .inl (cT, R, .inl Tf)), (aX, .inl (cX, 512, .inl Xf)), (aO, .inl (cO, 512, .inl Of)), (mM, .inr (2, [.int (nI 0), .int (nI R), .ref mX, .int (nI ts), .ref mO, .int (nI os), .int (nI (hi - lo)), .ref mT, .ref mS, .ref mB, .int (nI (off hi - off lo)), .int (nI hi), .int (nI dr), .int (nI de), .int (nI uw), .int fr, .int to, .int (nI pa)])), (mX, .inl (eX, 512, .inl Xm)), (mO, .inl (eO, 512, .inl Om)), (mT, .inl (eT, 16384, .inl Tm)), (mS, .inl (eS, 16384, .inl Sm)), (mB, .inl (eB, 16384, .inl Bm)), (aP, .inr (1, [.ref aR, .ref aX, .int (nI 0), .ref aO, .int (nI os), .int (nI uw), .int fr, .int to, .int (nI (pa - lo)), .int (nI hi), .int (nI dr), .int (nI de)])), (aR, .inr (0, [.int (nI R), .ref aB, .ref aS, .ref aT, .int (nI (lo % R)), .int (nI (hi - lo)), .int (nI (off hi % R)), .int (nI (off hi - off lo))]))] := hD
    subst e125
    refine lv_aload_n hx hb dL_law_128 rfl (lv_at hl 2 rfl) ?_
    refine lv_aload_n hx hb dL_law_129 rfl (lv_at hl 0 rfl) ?_
    refine lv_iload_n hx hb dL_law_130 rfl (lv_at hl 3 rfl) ?_
    refine lv_iconst (v := nI 1) hx hb dL_law_131 (by decide) ?_
    refine lv_iadd hx hb dL_law_132 ?_
    refine zz_as (nI (i + 1)) (nI_add _ _) ?_
    refine zz_sld hx hb hX hbl hbA hS (j := i + 1) (by omega) (by omega) dL_law_133 ?_
    refine zz_callMi (As := [.int (xs (i + 1))]) (rest := [.int (-2)]) (wr := [(aB, .inl (cB, R, .inl Bf)), (aS, .inl (cS, R, .inl Sf)), (aT, .inl (cT, R, .inl Tf)), (aX, .inl (cX, 512, .inl Xf)), (aO, .inl (cO, 512, .inl Of)), (mX, .inl (eX, 512, .inl Xm)), (mO, .inl (eO, 512, .inl Om)), (mT, .inl (eT, 16384, .inl Tm)), (mS, .inl (eS, 16384, .inl Sm)), (mB, .inl (eB, 16384, .inl Bm)), (aP, .inr (1, [.ref aR, .ref aX, .int (nI 0), .ref aO, .int (nI os), .int (nI uw), .int fr, .int to, .int (nI (pa - lo)), .int (nI hi), .int (nI dr), .int (nI de)])), (aR, .inr (0, [.int (nI R), .ref aB, .ref aS, .ref aT, .int (nI (lo % R)), .int (nI (hi - lo)), .int (nI (off hi % R)), .int (nI (off hi - off lo))]))]) ⟨hx, hb, hml, hown, hts⟩ (c_M_keep_full l dC dI mM mX mO mT mS mB R ts os (hi - lo) (off hi - off lo) hi dr de uw fr to pa ((xs (i + 1))) h0 hts5 _) (cwV 1 hts gl_M_keep rfl rfl rfl (by decide +kernel) ⟨Nat.le_of_ble_eq_true rfl, Nat.le_of_ble_eq_true rfl⟩) hP hD hK hS hA [5] [0, 1, 2, 3, 4, 6, 7, 8, 9, 10, 11, 12] [] rfl rfl rfl (by decide) (by decide) (by decide) rfl 0 rfl rfl rfl rfl hl.1 rfl (Nat.le_of_ble_eq_true rfl) dL_law_134 ⟨Nat.le_of_ble_eq_true rfl, Nat.le_of_ble_eq_true rfl⟩ (fun r134 u134 H locs e134 hP hD hS => ?_)
    have hP : va_P (dC, dI) vwCl [(aB, .inl (cB, R, .inl Bf)), (aS, .inl (cS, R, .inl Sf)), (aT, .inl (cT, R, .inl Tf)), (aX, .inl (cX, 512, .inl Xf)), (aO, .inl (cO, 512, .inl Of)), (mX, .inl (eX, 512, .inl Xm)), (mO, .inl (eO, 512, .inl Om)), (mT, .inl (eT, 16384, .inl Tm)), (mS, .inl (eS, 16384, .inl Sm)), (mB, .inl (eB, 16384, .inl Bm)), (aP, .inr (1, [.ref aR, .ref aX, .int (nI 0), .ref aO, .int (nI os), .int (nI uw), .int fr, .int to, .int (nI (pa - lo)), .int (nI hi), .int (nI dr), .int (nI de)])), (aR, .inr (0, [.int (nI R), .ref aB, .ref aS, .ref aT, .int (nI (lo % R)), .int (nI (hi - lo)), .int (nI (off hi % R)), .int (nI (off hi - off lo))])), (mM, .inr (2, [.int (nI 0), .int (nI R), .ref mX, .int (nI 0), .ref mO, .int (nI os), .int (nI (hi - lo)), .ref mT, .ref mS, .ref mB, .int (nI (off hi - off lo)), .int (nI hi), .int (nI dr), .int (nI de), .int (nI uw), .int fr, .int to, .int (nI pa)]))] H := hP
    have hD : va_D (fun q : Nat => s.heap.size ≤ q) [(aB, .inl (cB, R, .inl Bf)), (aS, .inl (cS, R, .inl Sf)), (aT, .inl (cT, R, .inl Tf)), (aX, .inl (cX, 512, .inl Xf)), (aO, .inl (cO, 512, .inl Of)), (mX, .inl (eX, 512, .inl Xm)), (mO, .inl (eO, 512, .inl Om)), (mT, .inl (eT, 16384, .inl Tm)), (mS, .inl (eS, 16384, .inl Sm)), (mB, .inl (eB, 16384, .inl Bm)), (aP, .inr (1, [.ref aR, .ref aX, .int (nI 0), .ref aO, .int (nI os), .int (nI uw), .int fr, .int to, .int (nI (pa - lo)), .int (nI hi), .int (nI dr), .int (nI de)])), (aR, .inr (0, [.int (nI R), .ref aB, .ref aS, .ref aT, .int (nI (lo % R)), .int (nI (hi - lo)), .int (nI (off hi % R)), .int (nI (off hi - off lo))])), (mM, .inr (2, [.int (nI 0), .int (nI R), .ref mX, .int (nI 0), .ref mO, .int (nI os), .int (nI (hi - lo)), .ref mT, .ref mS, .ref mB, .int (nI (off hi - off lo)), .int (nI hi), .int (nI dr), .int (nI de), .int (nI uw), .int fr, .int to, .int (nI pa)]))] := hD
    subst e134
    refine lv_icmp_eq (tgt := 346) hx hb dL_law_137 (by decide) (fun c137 => ?_) (fun c137 => ?_)
    · have hP := hP.sub (ws' := [(aP, .inr (1, [.ref aR, .ref aX, .int (nI 0), .ref aO, .int (nI os), .int (nI uw), .int fr, .int to, .int (nI (pa - lo)), .int (nI hi), .int (nI dr), .int (nI de)])), (aR, .inr (0, [.int (nI R), .ref aB, .ref aS, .ref aT, .int (nI (lo % R)), .int (nI (hi - lo)), .int (nI (off hi % R)), .int (nI (off hi - off lo))])), (aB, .inl (cB, R, .inl Bf)), (aS, .inl (cS, R, .inl Sf)), (aT, .inl (cT, R, .inl Tf)), (aX, .inl (cX, 512, .inl Xf)), (aO, .inl (cO, 512, .inl Of)), (mM, .inr (2, [.int (nI 0), .int (nI R), .ref mX, .int (nI 0), .ref mO, .int (nI os), .int (nI (hi - lo)), .ref mT, .ref mS, .ref mB, .int (nI (off hi - off lo)), .int (nI hi), .int (nI dr), .int (nI de), .int (nI uw), .int fr, .int to, .int (nI pa)])), (mX, .inl (eX, 512, .inl Xm)), (mO, .inl (eO, 512, .inl Om)), (mT, .inl (eT, 16384, .inl Tm)), (mS, .inl (eS, 16384, .inl Sm)), (mB, .inl (eB, 16384, .inl Bm))]) [10, 11, 0, 1, 2, 3, 4, 12, 5, 6, 7, 8, 9] rfl
      have hD := hD.sub (ws' := [(aP, .inr (1, [.ref aR, .ref aX, .int (nI 0), .ref aO, .int (nI os), .int (nI uw), .int fr, .int to, .int (nI (pa - lo)), .int (nI hi), .int (nI dr), .int (nI de)])), (aR, .inr (0, [.int (nI R), .ref aB, .ref aS, .ref aT, .int (nI (lo % R)), .int (nI (hi - lo)), .int (nI (off hi % R)), .int (nI (off hi - off lo))])), (aB, .inl (cB, R, .inl Bf)), (aS, .inl (cS, R, .inl Sf)), (aT, .inl (cT, R, .inl Tf)), (aX, .inl (cX, 512, .inl Xf)), (aO, .inl (cO, 512, .inl Of)), (mM, .inr (2, [.int (nI 0), .int (nI R), .ref mX, .int (nI 0), .ref mO, .int (nI os), .int (nI (hi - lo)), .ref mT, .ref mS, .ref mB, .int (nI (off hi - off lo)), .int (nI hi), .int (nI dr), .int (nI de), .int (nI uw), .int fr, .int to, .int (nI pa)])), (mX, .inl (eX, 512, .inl Xm)), (mO, .inl (eO, 512, .inl Om)), (mT, .inl (eT, 16384, .inl Tm)), (mS, .inl (eS, 16384, .inl Sm)), (mB, .inl (eB, 16384, .inl Bm))]) [10, 11, 0, 1, 2, 3, 4, 12, 5, 6, 7, 8, 9] (by decide) rfl
      exact K _ _ _ ⟨lo, hi, off, 0, os, uw, fr, to, pa, dr, de, tm, bz, tz, oz, Bf, Sf, Tf, Xf, Of, Bm, Sm, Tm, Xm, Om, ⟨hok, hrep, hrm, h512, ⟨hpa, by omega⟩, ⟨Nat.zero_le _, fun t h => absurd h (Nat.not_lt_zero t), fun t h => absurd h (Nat.not_lt_zero t)⟩, ⟨hos5, hoX, hoM⟩, huw⟩, hP, hD, hS, lv_sub hl [0, 1, 2, 3] rfl⟩
    · exact absurd rfl c137
  · refine lv_aload_n hx hb dL_law_119 rfl (lv_at hl 1 rfl) ?_
    refine lv_aload_n hx hb dL_law_120 rfl (lv_at hl 0 rfl) ?_
    refine lv_iload_n hx hb dL_law_121 rfl (lv_at hl 3 rfl) ?_
    refine lv_iconst (v := nI 1) hx hb dL_law_122 (by decide) ?_
    refine lv_iadd hx hb dL_law_123 ?_
    refine zz_as (nI (i + 1)) (nI_add _ _) ?_
    refine zz_sld hx hb hX hbl hbA hS (j := i + 1) (by omega) (by omega) dL_law_124 ?_
    refine zz_callMi (As := [.int (xs (i + 1))]) (rest := []) (wr := [(aO, .inl (cO, 512, .inl Of)), (mM, .inr (2, [.int (nI 0), .int (nI R), .ref mX, .int (nI ts), .ref mO, .int (nI os), .int (nI (hi - lo)), .ref mT, .ref mS, .ref mB, .int (nI (off hi - off lo)), .int (nI hi), .int (nI dr), .int (nI de), .int (nI uw), .int fr, .int to, .int (nI pa)])), (mX, .inl (eX, 512, .inl Xm)), (mO, .inl (eO, 512, .inl Om)), (mT, .inl (eT, 16384, .inl Tm)), (mS, .inl (eS, 16384, .inl Sm)), (mB, .inl (eB, 16384, .inl Bm))]) ⟨hx, hb, hml, hown, hts⟩ (c_P_keep_ok l dC dI aP aR aB aS aT aX aO R lo hi off ts os uw fr to pa hi dr de cB cS cT cX Bf Sf Tf Xf ((xs (i + 1))) tm bz tz hok hrep hpa h1 h2 hts5 htX _) (cwV 1 hts gl_X1_keep rfl rfl rfl (by decide +kernel) ⟨Nat.le_of_ble_eq_true rfl, Nat.le_of_ble_eq_true rfl⟩) hP hD hK hS hA [0, 1, 2, 3, 4, 5] [6, 7, 8, 9, 10, 11, 12] [0, 1, 2, 3] rfl rfl rfl (by decide) (by decide) (by decide) rfl 0 rfl rfl rfl rfl hl.1 rfl (Nat.le_of_ble_eq_true rfl) dL_law_125 ⟨Nat.le_of_ble_eq_true rfl, Nat.le_of_ble_eq_true rfl⟩ (fun r125 u125 H locs e125 hP hD hS => ?_)
    have hP : va_P (dC, dI) vwCl [(aO, .inl (cO, 512, .inl Of)), (mM, .inr (2, [.int (nI 0), .int (nI R), .ref mX, .int (nI ts), .ref mO, .int (nI os), .int (nI (hi - lo)), .ref mT, .ref mS, .ref mB, .int (nI (off hi - off lo)), .int (nI hi), .int (nI dr), .int (nI de), .int (nI uw), .int fr, .int to, .int (nI pa)])), (mX, .inl (eX, 512, .inl Xm)), (mO, .inl (eO, 512, .inl Om)), (mT, .inl (eT, 16384, .inl Tm)), (mS, .inl (eS, 16384, .inl Sm)), (mB, .inl (eB, 16384, .inl Bm)), (aP, .inr (1, [.ref aR, .ref aX, .int (nI 0), .ref aO, .int (nI os), .int (nI uw), .int fr, .int to, .int (nI (pa - u125.1)), .int (nI (hi + 1)), .int (nI (dr + (u125.1 - lo))), .int (nI de)])), (aR, .inr (0, [.int (nI R), .ref aB, .ref aS, .ref aT, .int (nI (u125.1 % R)), .int (nI (hi + 1 - u125.1)), .int (nI ((off hi + ts) % R)), .int (nI (off hi + ts - off u125.1))])), (aB, .inl (cB, R, .inl u125.2)), (aS, .inl (cS, R, .inl (upd Sf (hi % R) (nI (off hi % R))))), (aT, .inl (cT, R, .inl (upd Tf (hi % R) (xs (i + 1))))), (aX, .inl (cX, 512, .inl Xf))] H := hP
    have hD : va_D (fun q : Nat => s.heap.size ≤ q) [(aO, .inl (cO, 512, .inl Of)), (mM, .inr (2, [.int (nI 0), .int (nI R), .ref mX, .int (nI ts), .ref mO, .int (nI os), .int (nI (hi - lo)), .ref mT, .ref mS, .ref mB, .int (nI (off hi - off lo)), .int (nI hi), .int (nI dr), .int (nI de), .int (nI uw), .int fr, .int to, .int (nI pa)])), (mX, .inl (eX, 512, .inl Xm)), (mO, .inl (eO, 512, .inl Om)), (mT, .inl (eT, 16384, .inl Tm)), (mS, .inl (eS, 16384, .inl Sm)), (mB, .inl (eB, 16384, .inl Bm)), (aP, .inr (1, [.ref aR, .ref aX, .int (nI 0), .ref aO, .int (nI os), .int (nI uw), .int fr, .int to, .int (nI (pa - u125.1)), .int (nI (hi + 1)), .int (nI (dr + (u125.1 - lo))), .int (nI de)])), (aR, .inr (0, [.int (nI R), .ref aB, .ref aS, .ref aT, .int (nI (u125.1 % R)), .int (nI (hi + 1 - u125.1)), .int (nI ((off hi + ts) % R)), .int (nI (off hi + ts - off u125.1))])), (aB, .inl (cB, R, .inl u125.2)), (aS, .inl (cS, R, .inl (upd Sf (hi % R) (nI (off hi % R))))), (aT, .inl (cT, R, .inl (upd Tf (hi % R) (xs (i + 1))))), (aX, .inl (cX, 512, .inl Xf))] := hD
    obtain ⟨u1, B1⟩ := u125
    dsimp only at e125
    obtain ⟨q1, q2, q3, q4, q5, q6⟩ := e125
    subst q1
    have hP : va_P (dC, dI) vwCl [(aO, .inl (cO, 512, .inl Of)), (mM, .inr (2, [.int (nI 0), .int (nI R), .ref mX, .int (nI ts), .ref mO, .int (nI os), .int (nI (hi - lo)), .ref mT, .ref mS, .ref mB, .int (nI (off hi - off lo)), .int (nI hi), .int (nI dr), .int (nI de), .int (nI uw), .int fr, .int to, .int (nI pa)])), (mX, .inl (eX, 512, .inl Xm)), (mO, .inl (eO, 512, .inl Om)), (mT, .inl (eT, 16384, .inl Tm)), (mS, .inl (eS, 16384, .inl Sm)), (mB, .inl (eB, 16384, .inl Bm)), (aP, .inr (1, [.ref aR, .ref aX, .int (nI 0), .ref aO, .int (nI os), .int (nI uw), .int fr, .int to, .int (nI (pa - u1)), .int (nI (hi + 1)), .int (nI (dr + (u1 - lo))), .int (nI de)])), (aR, .inr (0, [.int (nI R), .ref aB, .ref aS, .ref aT, .int (nI (u1 % R)), .int (nI (hi + 1 - u1)), .int (nI ((off hi + ts) % R)), .int (nI (off hi + ts - off u1))])), (aB, .inl (cB, R, .inl B1)), (aS, .inl (cS, R, .inl (upd Sf (hi % R) (nI (off hi % R))))), (aT, .inl (cT, R, .inl (upd Tf (hi % R) (xs (i + 1))))), (aX, .inl (cX, 512, .inl Xf))] H := hP
    have hD : va_D (fun q : Nat => s.heap.size ≤ q) [(aO, .inl (cO, 512, .inl Of)), (mM, .inr (2, [.int (nI 0), .int (nI R), .ref mX, .int (nI ts), .ref mO, .int (nI os), .int (nI (hi - lo)), .ref mT, .ref mS, .ref mB, .int (nI (off hi - off lo)), .int (nI hi), .int (nI dr), .int (nI de), .int (nI uw), .int fr, .int to, .int (nI pa)])), (mX, .inl (eX, 512, .inl Xm)), (mO, .inl (eO, 512, .inl Om)), (mT, .inl (eT, 16384, .inl Tm)), (mS, .inl (eS, 16384, .inl Sm)), (mB, .inl (eB, 16384, .inl Bm)), (aP, .inr (1, [.ref aR, .ref aX, .int (nI 0), .ref aO, .int (nI os), .int (nI uw), .int fr, .int to, .int (nI (pa - u1)), .int (nI (hi + 1)), .int (nI (dr + (u1 - lo))), .int (nI de)])), (aR, .inr (0, [.int (nI R), .ref aB, .ref aS, .ref aT, .int (nI (u1 % R)), .int (nI (hi + 1 - u1)), .int (nI ((off hi + ts) % R)), .int (nI (off hi + ts - off u1))])), (aB, .inl (cB, R, .inl B1)), (aS, .inl (cS, R, .inl (upd Sf (hi % R) (nI (off hi % R))))), (aT, .inl (cT, R, .inl (upd Tf (hi % R) (xs (i + 1))))), (aX, .inl (cX, 512, .inl Xf))] := hD
    refine lv_aload_n hx hb dL_law_128 rfl (lv_at hl 2 rfl) ?_
    refine lv_aload_n hx hb dL_law_129 rfl (lv_at hl 0 rfl) ?_
    refine lv_iload_n hx hb dL_law_130 rfl (lv_at hl 3 rfl) ?_
    refine lv_iconst (v := nI 1) hx hb dL_law_131 (by decide) ?_
    refine lv_iadd hx hb dL_law_132 ?_
    refine zz_as (nI (i + 1)) (nI_add _ _) ?_
    refine zz_sld hx hb hX hbl hbA hS (j := i + 1) (by omega) (by omega) dL_law_133 ?_
    refine zz_callMi (As := [.int (xs (i + 1))]) (rest := [.int (nI (u1 - lo))]) (wr := [(aO, .inl (cO, 512, .inl Of)), (mO, .inl (eO, 512, .inl Om)), (aP, .inr (1, [.ref aR, .ref aX, .int (nI 0), .ref aO, .int (nI os), .int (nI uw), .int fr, .int to, .int (nI (pa - u1)), .int (nI (hi + 1)), .int (nI (dr + (u1 - lo))), .int (nI de)])), (aR, .inr (0, [.int (nI R), .ref aB, .ref aS, .ref aT, .int (nI (u1 % R)), .int (nI (hi + 1 - u1)), .int (nI ((off hi + ts) % R)), .int (nI (off hi + ts - off u1))])), (aB, .inl (cB, R, .inl B1)), (aS, .inl (cS, R, .inl (upd Sf (hi % R) (nI (off hi % R))))), (aT, .inl (cT, R, .inl (upd Tf (hi % R) (xs (i + 1))))), (aX, .inl (cX, 512, .inl Xf))]) ⟨hx, hb, hml, hown, hts⟩ (c_M_keep_ok l dC dI mM mX mO mT mS mB R lo hi off ts os dr de uw fr to pa eX eT eS eB Xm Tm Sm Bm tm bz tz ((xs (i + 1))) hok hrm h1 h2 hts5 htM _) (cwV 1 hts gl_M_keep rfl rfl rfl (by decide +kernel) ⟨Nat.le_of_ble_eq_true rfl, Nat.le_of_ble_eq_true rfl⟩) hP hD hK hS hA [1, 2, 4, 5, 6] [0, 3, 7, 8, 9, 10, 11, 12] [5, 7, 8, 9] rfl rfl rfl (by decide) (by decide) (by decide) rfl 0 rfl rfl rfl rfl hl.1 rfl (Nat.le_of_ble_eq_true rfl) dL_law_134 ⟨Nat.le_of_ble_eq_true rfl, Nat.le_of_ble_eq_true rfl⟩ (fun r134 u134 H locs e134 hP hD hS => ?_)
    have hP : va_P (dC, dI) vwCl [(aO, .inl (cO, 512, .inl Of)), (mO, .inl (eO, 512, .inl Om)), (aP, .inr (1, [.ref aR, .ref aX, .int (nI 0), .ref aO, .int (nI os), .int (nI uw), .int fr, .int to, .int (nI (pa - u1)), .int (nI (hi + 1)), .int (nI (dr + (u1 - lo))), .int (nI de)])), (aR, .inr (0, [.int (nI R), .ref aB, .ref aS, .ref aT, .int (nI (u1 % R)), .int (nI (hi + 1 - u1)), .int (nI ((off hi + ts) % R)), .int (nI (off hi + ts - off u1))])), (aB, .inl (cB, R, .inl B1)), (aS, .inl (cS, R, .inl (upd Sf (hi % R) (nI (off hi % R))))), (aT, .inl (cT, R, .inl (upd Tf (hi % R) (xs (i + 1))))), (aX, .inl (cX, 512, .inl Xf)), (mM, .inr (2, [.int (nI 0), .int (nI R), .ref mX, .int (nI 0), .ref mO, .int (nI os), .int (nI (hi + 1 - u134.1)), .ref mT, .ref mS, .ref mB, .int (nI (off hi + ts - off u134.1)), .int (nI (hi + 1)), .int (nI (dr + (u134.1 - lo))), .int (nI de), .int (nI uw), .int fr, .int to, .int (nI pa)])), (mX, .inl (eX, 512, .inl Xm)), (mT, .inl (eT, 16384, .inl u134.2.1)), (mS, .inl (eS, 16384, .inl u134.2.2.1)), (mB, .inl (eB, 16384, .inl u134.2.2.2))] H := hP
    have hD : va_D (fun q : Nat => s.heap.size ≤ q) [(aO, .inl (cO, 512, .inl Of)), (mO, .inl (eO, 512, .inl Om)), (aP, .inr (1, [.ref aR, .ref aX, .int (nI 0), .ref aO, .int (nI os), .int (nI uw), .int fr, .int to, .int (nI (pa - u1)), .int (nI (hi + 1)), .int (nI (dr + (u1 - lo))), .int (nI de)])), (aR, .inr (0, [.int (nI R), .ref aB, .ref aS, .ref aT, .int (nI (u1 % R)), .int (nI (hi + 1 - u1)), .int (nI ((off hi + ts) % R)), .int (nI (off hi + ts - off u1))])), (aB, .inl (cB, R, .inl B1)), (aS, .inl (cS, R, .inl (upd Sf (hi % R) (nI (off hi % R))))), (aT, .inl (cT, R, .inl (upd Tf (hi % R) (xs (i + 1))))), (aX, .inl (cX, 512, .inl Xf)), (mM, .inr (2, [.int (nI 0), .int (nI R), .ref mX, .int (nI 0), .ref mO, .int (nI os), .int (nI (hi + 1 - u134.1)), .ref mT, .ref mS, .ref mB, .int (nI (off hi + ts - off u134.1)), .int (nI (hi + 1)), .int (nI (dr + (u134.1 - lo))), .int (nI de), .int (nI uw), .int fr, .int to, .int (nI pa)])), (mX, .inl (eX, 512, .inl Xm)), (mT, .inl (eT, 16384, .inl u134.2.1)), (mS, .inl (eS, 16384, .inl u134.2.2.1)), (mB, .inl (eB, 16384, .inl u134.2.2.2))] := hD
    obtain ⟨u2, T2, S2, B2⟩ := u134
    dsimp only at e134
    obtain ⟨g1, g2, g3, g4, g5, g6⟩ := e134
    have eu : u2 = u1 := kp_uniq (f := fun k => off hi - off k + ts) g2 g4 g5 q2 q4 q5
    subst eu
    subst g1
    have hP : va_P (dC, dI) vwCl [(aO, .inl (cO, 512, .inl Of)), (mO, .inl (eO, 512, .inl Om)), (aP, .inr (1, [.ref aR, .ref aX, .int (nI 0), .ref aO, .int (nI os), .int (nI uw), .int fr, .int to, .int (nI (pa - u2)), .int (nI (hi + 1)), .int (nI (dr + (u2 - lo))), .int (nI de)])), (aR, .inr (0, [.int (nI R), .ref aB, .ref aS, .ref aT, .int (nI (u2 % R)), .int (nI (hi + 1 - u2)), .int (nI ((off hi + ts) % R)), .int (nI (off hi + ts - off u2))])), (aB, .inl (cB, R, .inl B1)), (aS, .inl (cS, R, .inl (upd Sf (hi % R) (nI (off hi % R))))), (aT, .inl (cT, R, .inl (upd Tf (hi % R) (xs (i + 1))))), (aX, .inl (cX, 512, .inl Xf)), (mM, .inr (2, [.int (nI 0), .int (nI R), .ref mX, .int (nI 0), .ref mO, .int (nI os), .int (nI (hi + 1 - u2)), .ref mT, .ref mS, .ref mB, .int (nI (off hi + ts - off u2)), .int (nI (hi + 1)), .int (nI (dr + (u2 - lo))), .int (nI de), .int (nI uw), .int fr, .int to, .int (nI pa)])), (mX, .inl (eX, 512, .inl Xm)), (mT, .inl (eT, 16384, .inl T2)), (mS, .inl (eS, 16384, .inl S2)), (mB, .inl (eB, 16384, .inl B2))] H := hP
    have hD : va_D (fun q : Nat => s.heap.size ≤ q) [(aO, .inl (cO, 512, .inl Of)), (mO, .inl (eO, 512, .inl Om)), (aP, .inr (1, [.ref aR, .ref aX, .int (nI 0), .ref aO, .int (nI os), .int (nI uw), .int fr, .int to, .int (nI (pa - u2)), .int (nI (hi + 1)), .int (nI (dr + (u2 - lo))), .int (nI de)])), (aR, .inr (0, [.int (nI R), .ref aB, .ref aS, .ref aT, .int (nI (u2 % R)), .int (nI (hi + 1 - u2)), .int (nI ((off hi + ts) % R)), .int (nI (off hi + ts - off u2))])), (aB, .inl (cB, R, .inl B1)), (aS, .inl (cS, R, .inl (upd Sf (hi % R) (nI (off hi % R))))), (aT, .inl (cT, R, .inl (upd Tf (hi % R) (xs (i + 1))))), (aX, .inl (cX, 512, .inl Xf)), (mM, .inr (2, [.int (nI 0), .int (nI R), .ref mX, .int (nI 0), .ref mO, .int (nI os), .int (nI (hi + 1 - u2)), .ref mT, .ref mS, .ref mB, .int (nI (off hi + ts - off u2)), .int (nI (hi + 1)), .int (nI (dr + (u2 - lo))), .int (nI de), .int (nI uw), .int fr, .int to, .int (nI pa)])), (mX, .inl (eX, 512, .inl Xm)), (mT, .inl (eT, 16384, .inl T2)), (mS, .inl (eS, 16384, .inl S2)), (mB, .inl (eB, 16384, .inl B2))] := hD
    refine lv_icmp_eq (tgt := 346) hx hb dL_law_137 (by decide) (fun c137 => ?_) (fun c137 => ?_)
    · have hP := hP.sub (ws' := [(aP, .inr (1, [.ref aR, .ref aX, .int (nI 0), .ref aO, .int (nI os), .int (nI uw), .int fr, .int to, .int (nI (pa - u2)), .int (nI (hi + 1)), .int (nI (dr + (u2 - lo))), .int (nI de)])), (aR, .inr (0, [.int (nI R), .ref aB, .ref aS, .ref aT, .int (nI (u2 % R)), .int (nI (hi + 1 - u2)), .int (nI ((off hi + ts) % R)), .int (nI (off hi + ts - off u2))])), (aB, .inl (cB, R, .inl B1)), (aS, .inl (cS, R, .inl (upd Sf (hi % R) (nI (off hi % R))))), (aT, .inl (cT, R, .inl (upd Tf (hi % R) (xs (i + 1))))), (aX, .inl (cX, 512, .inl Xf)), (aO, .inl (cO, 512, .inl Of)), (mM, .inr (2, [.int (nI 0), .int (nI R), .ref mX, .int (nI 0), .ref mO, .int (nI os), .int (nI (hi + 1 - u2)), .ref mT, .ref mS, .ref mB, .int (nI (off hi + ts - off u2)), .int (nI (hi + 1)), .int (nI (dr + (u2 - lo))), .int (nI de), .int (nI uw), .int fr, .int to, .int (nI pa)])), (mX, .inl (eX, 512, .inl Xm)), (mO, .inl (eO, 512, .inl Om)), (mT, .inl (eT, 16384, .inl T2)), (mS, .inl (eS, 16384, .inl S2)), (mB, .inl (eB, 16384, .inl B2))]) [2, 3, 4, 5, 6, 7, 0, 8, 9, 1, 10, 11, 12] rfl
      have hD := hD.sub (ws' := [(aP, .inr (1, [.ref aR, .ref aX, .int (nI 0), .ref aO, .int (nI os), .int (nI uw), .int fr, .int to, .int (nI (pa - u2)), .int (nI (hi + 1)), .int (nI (dr + (u2 - lo))), .int (nI de)])), (aR, .inr (0, [.int (nI R), .ref aB, .ref aS, .ref aT, .int (nI (u2 % R)), .int (nI (hi + 1 - u2)), .int (nI ((off hi + ts) % R)), .int (nI (off hi + ts - off u2))])), (aB, .inl (cB, R, .inl B1)), (aS, .inl (cS, R, .inl (upd Sf (hi % R) (nI (off hi % R))))), (aT, .inl (cT, R, .inl (upd Tf (hi % R) (xs (i + 1))))), (aX, .inl (cX, 512, .inl Xf)), (aO, .inl (cO, 512, .inl Of)), (mM, .inr (2, [.int (nI 0), .int (nI R), .ref mX, .int (nI 0), .ref mO, .int (nI os), .int (nI (hi + 1 - u2)), .ref mT, .ref mS, .ref mB, .int (nI (off hi + ts - off u2)), .int (nI (hi + 1)), .int (nI (dr + (u2 - lo))), .int (nI de), .int (nI uw), .int fr, .int to, .int (nI pa)])), (mX, .inl (eX, 512, .inl Xm)), (mO, .inl (eO, 512, .inl Om)), (mT, .inl (eT, 16384, .inl T2)), (mS, .inl (eS, 16384, .inl S2)), (mB, .inl (eB, 16384, .inl B2))]) [2, 3, 4, 5, 6, 7, 0, 8, 9, 1, 10, 11, 12] (by decide) rfl
      have eo1 : (zu off (hi + 1) (off hi + ts)) (hi + 1) = off hi + ts := zu_s
      have eo2 : (zu off (hi + 1) (off hi + ts)) u2 = off u2 := zu_n (by omega)
      have hP : va_P (dC, dI) vwCl [(aP, .inr (1, [.ref aR, .ref aX, .int (nI 0), .ref aO, .int (nI os), .int (nI uw), .int fr, .int to, .int (nI (pa - u2)), .int (nI (hi + 1)), .int (nI (dr + (u2 - lo))), .int (nI de)])), (aR, .inr (0, [.int (nI R), .ref aB, .ref aS, .ref aT, .int (nI (u2 % R)), .int (nI (hi + 1 - u2)), .int (nI ((zu off (hi + 1) (off hi + ts)) (hi + 1) % R)), .int (nI ((zu off (hi + 1) (off hi + ts)) (hi + 1) - (zu off (hi + 1) (off hi + ts)) u2))])), (aB, .inl (cB, R, .inl B1)), (aS, .inl (cS, R, .inl (upd Sf (hi % R) (nI (off hi % R))))), (aT, .inl (cT, R, .inl (upd Tf (hi % R) (xs (i + 1))))), (aX, .inl (cX, 512, .inl Xf)), (aO, .inl (cO, 512, .inl Of)), (mM, .inr (2, [.int (nI 0), .int (nI R), .ref mX, .int (nI 0), .ref mO, .int (nI os), .int (nI (hi + 1 - u2)), .ref mT, .ref mS, .ref mB, .int (nI ((zu off (hi + 1) (off hi + ts)) (hi + 1) - (zu off (hi + 1) (off hi + ts)) u2)), .int (nI (hi + 1)), .int (nI (dr + (u2 - lo))), .int (nI de), .int (nI uw), .int fr, .int to, .int (nI pa)])), (mX, .inl (eX, 512, .inl Xm)), (mO, .inl (eO, 512, .inl Om)), (mT, .inl (eT, 16384, .inl T2)), (mS, .inl (eS, 16384, .inl S2)), (mB, .inl (eB, 16384, .inl B2))] H := by rw [eo1, eo2]; exact hP
      have hD : va_D (fun q : Nat => s.heap.size ≤ q) [(aP, .inr (1, [.ref aR, .ref aX, .int (nI 0), .ref aO, .int (nI os), .int (nI uw), .int fr, .int to, .int (nI (pa - u2)), .int (nI (hi + 1)), .int (nI (dr + (u2 - lo))), .int (nI de)])), (aR, .inr (0, [.int (nI R), .ref aB, .ref aS, .ref aT, .int (nI (u2 % R)), .int (nI (hi + 1 - u2)), .int (nI ((zu off (hi + 1) (off hi + ts)) (hi + 1) % R)), .int (nI ((zu off (hi + 1) (off hi + ts)) (hi + 1) - (zu off (hi + 1) (off hi + ts)) u2))])), (aB, .inl (cB, R, .inl B1)), (aS, .inl (cS, R, .inl (upd Sf (hi % R) (nI (off hi % R))))), (aT, .inl (cT, R, .inl (upd Tf (hi % R) (xs (i + 1))))), (aX, .inl (cX, 512, .inl Xf)), (aO, .inl (cO, 512, .inl Of)), (mM, .inr (2, [.int (nI 0), .int (nI R), .ref mX, .int (nI 0), .ref mO, .int (nI os), .int (nI (hi + 1 - u2)), .ref mT, .ref mS, .ref mB, .int (nI ((zu off (hi + 1) (off hi + ts)) (hi + 1) - (zu off (hi + 1) (off hi + ts)) u2)), .int (nI (hi + 1)), .int (nI (dr + (u2 - lo))), .int (nI de), .int (nI uw), .int fr, .int to, .int (nI pa)])), (mX, .inl (eX, 512, .inl Xm)), (mO, .inl (eO, 512, .inl Om)), (mT, .inl (eT, 16384, .inl T2)), (mS, .inl (eS, 16384, .inl S2)), (mB, .inl (eB, 16384, .inl B2))] := by rw [eo1, eo2]; exact hD
      exact K _ _ _ ⟨u2, hi + 1, zu off (hi + 1) (off hi + ts), 0, os, uw, fr, to, pa, dr + (u2 - lo), de, zu tm hi (xs (i + 1)), zcat bz (off hi) tz, tz, oz, B1, upd Sf (hi % R) (nI (off hi % R)), upd Tf (hi % R) (xs (i + 1)), Xf, Of, B2, S2, T2, Xm, Om, ⟨(hok.drop q2 q3).add h1 q4, q6, g6, st_512 h512 q2 hts5, ⟨by omega, by omega⟩, ⟨Nat.zero_le _, fun t h => absurd h (Nat.not_lt_zero t), fun t h => absurd h (Nat.not_lt_zero t)⟩, ⟨hos5, hoX, hoM⟩, huw⟩, hP, hD, hS, lv_sub hl [0, 1, 2, 3] rfl⟩
    · exact absurd rfl c137
end
section
set_option maxHeartbeats 8000000 in
set_option maxRecDepth 100000 in
theorem law_delete {p : Program} {l : Launch} {e : Env} {s : State} {m : MethodId} {below : List Frame} {meth : Method} {c : Code} {dC : Nat → ClassId} {dI : Nat → Nat → Nat} {b L : Nat} {xs : Nat → Int32} (hL : L ≤ 1537) (C0 : lw_At p s m meth c b L xs) {aP aR aB aS aT aX aO mM mX mO mT mS mB : Nat} {cB cS cT cX cO eX eO eT eS eB : ClassId} {R i : Nat} (hK : va_K (dC, dI) vwCl [(cB, .byte), (cS, .int), (cT, .int), (cX, .byte), (cO, .byte), (eX, .byte), (eO, .byte), (eT, .int), (eS, .int), (eB, .byte)] s) (hi3 : i + 3 ≤ L) (K : ∀ (H : Heap) (locs : List Loc) (ls : Array Slot), LI dC dI s b aP aR aB aS aT aX aO mM mX mO mT mS mB cB cS cT cX cO eX eO eT eS eB R (i + 1) i H locs ls → W p l e room_1 s m #[Value.ref b] below meth c H locs 13 100390 (lw_Z below #[Value.ref b] s) (F0 m 346 ls [])) {H : Heap} {locs : List Loc} {ls : Array Slot} (h : LI dC dI s b aP aR aB aS aT aX aO mM mX mO mT mS mB cB cS cT cX cO eX eO eT eS eB R i i H locs ls) : W p l e room_1 s m #[Value.ref b] below meth c H locs 13 100390 (lw_Z below #[Value.ref b] s) (F0 m 142 ls []) := by
  obtain ⟨hx, hb, hr, hml, hown, hts, hX, hbl, hlocks, hgv⟩ := id C0
  have hA : ∀ q : Nat, s.heap.size ≤ q → (fun q : Nat => s.heap.size ≤ q) q := fun _ h => h
  have hbA : ¬ (fun q : Nat => s.heap.size ≤ q) b := Nat.not_le.mpr hbl
  have hown : s.vm.findClass RL = some m.cls := hown
  obtain ⟨lo, hi, off, ts, os, uw, fr, to, pa, dr, de, tm, bz, tz, oz, Bf, Sf, Tf, Xf, Of, Bm, Sm, Tm, Xm, Om, hinv, hP, hD, hS, hl⟩ := h
  obtain ⟨hok, hrep, hrm, h512, ⟨hpa, hcb⟩, ⟨hts5, htX, htM⟩, ⟨hos5, hoX, hoM⟩, huw⟩ := id hinv
  have hll := hok.2.1
  have hRR := hok.1
  refine lv_aload_n hx hb dL_law_142 rfl (lv_at hl 1 rfl) ?_
  refine lv_aload_n hx hb dL_law_143 rfl (lv_at hl 0 rfl) ?_
  refine lv_iload_n hx hb dL_law_144 rfl (lv_at hl 3 rfl) ?_
  refine lv_iconst (v := nI 1) hx hb dL_law_145 (by decide) ?_
  refine lv_iadd hx hb dL_law_146 ?_
  refine zz_as (nI (i + 1)) (nI_add _ _) ?_
  refine zz_sld hx hb hX hbl hbA hS (j := i + 1) (by omega) (by omega) dL_law_147 ?_
  refine zz_callMi (As := [.int (xs (i + 1))]) (rest := []) (wr := [(aB, .inl (cB, R, .inl Bf)), (aX, .inl (cX, 512, .inl Xf)), (aO, .inl (cO, 512, .inl Of)), (mM, .inr (2, [.int (nI 0), .int (nI R), .ref mX, .int (nI ts), .ref mO, .int (nI os), .int (nI (hi - lo)), .ref mT, .ref mS, .ref mB, .int (nI (off hi - off lo)), .int (nI hi), .int (nI dr), .int (nI de), .int (nI uw), .int fr, .int to, .int (nI pa)])), (mX, .inl (eX, 512, .inl Xm)), (mO, .inl (eO, 512, .inl Om)), (mT, .inl (eT, 16384, .inl Tm)), (mS, .inl (eS, 16384, .inl Sm)), (mB, .inl (eB, 16384, .inl Bm))]) ⟨hx, hb, hml, hown, hts⟩ (c_P_delete l dC dI aP aR aB aS aT aX aO R lo hi off ts os uw fr to pa hi dr de cS cT Sf Tf tm ((xs (i + 1))) hok hrep.2.1 hrep.1 hpa _) (cwV 1 hts gl_X1_delete rfl rfl rfl (by decide +kernel) ⟨Nat.le_of_ble_eq_true rfl, Nat.le_of_ble_eq_true rfl⟩) hP hD hK hS hA [0, 1, 3, 4] [2, 5, 6, 7, 8, 9, 10, 11, 12] [1, 2] rfl rfl rfl (by decide) (by decide) (by decide) rfl 0 rfl rfl rfl rfl hl.1 rfl (Nat.le_of_ble_eq_true rfl) dL_law_148 ⟨Nat.le_of_ble_eq_true rfl, Nat.le_of_ble_eq_true rfl⟩ (fun r148 u148 H locs e148 hP hD hS => ?_)
  have hP : va_P (dC, dI) vwCl [(aB, .inl (cB, R, .inl Bf)), (aX, .inl (cX, 512, .inl Xf)), (aO, .inl (cO, 512, .inl Of)), (mM, .inr (2, [.int (nI 0), .int (nI R), .ref mX, .int (nI ts), .ref mO, .int (nI os), .int (nI (hi - lo)), .ref mT, .ref mS, .ref mB, .int (nI (off hi - off lo)), .int (nI hi), .int (nI dr), .int (nI de), .int (nI uw), .int fr, .int to, .int (nI pa)])), (mX, .inl (eX, 512, .inl Xm)), (mO, .inl (eO, 512, .inl Om)), (mT, .inl (eT, 16384, .inl Tm)), (mS, .inl (eS, 16384, .inl Sm)), (mB, .inl (eB, 16384, .inl Bm)), (aP, .inr (1, [.ref aR, .ref aX, .int (nI ts), .ref aO, .int (nI os), .int (nI uw), .int fr, .int to, .int (nI (pa - u148)), .int (nI hi), .int (nI dr), .int (nI (de + (u148 - lo)))])), (aR, .inr (0, [.int (nI R), .ref aB, .ref aS, .ref aT, .int (nI (u148 % R)), .int (nI (hi - u148)), .int (nI (off hi % R)), .int (nI (off hi - off u148))])), (aS, .inl (cS, R, .inl Sf)), (aT, .inl (cT, R, .inl Tf))] H := hP
  have hD : va_D (fun q : Nat => s.heap.size ≤ q) [(aB, .inl (cB, R, .inl Bf)), (aX, .inl (cX, 512, .inl Xf)), (aO, .inl (cO, 512, .inl Of)), (mM, .inr (2, [.int (nI 0), .int (nI R), .ref mX, .int (nI ts), .ref mO, .int (nI os), .int (nI (hi - lo)), .ref mT, .ref mS, .ref mB, .int (nI (off hi - off lo)), .int (nI hi), .int (nI dr), .int (nI de), .int (nI uw), .int fr, .int to, .int (nI pa)])), (mX, .inl (eX, 512, .inl Xm)), (mO, .inl (eO, 512, .inl Om)), (mT, .inl (eT, 16384, .inl Tm)), (mS, .inl (eS, 16384, .inl Sm)), (mB, .inl (eB, 16384, .inl Bm)), (aP, .inr (1, [.ref aR, .ref aX, .int (nI ts), .ref aO, .int (nI os), .int (nI uw), .int fr, .int to, .int (nI (pa - u148)), .int (nI hi), .int (nI dr), .int (nI (de + (u148 - lo)))])), (aR, .inr (0, [.int (nI R), .ref aB, .ref aS, .ref aT, .int (nI (u148 % R)), .int (nI (hi - u148)), .int (nI (off hi % R)), .int (nI (off hi - off u148))])), (aS, .inl (cS, R, .inl Sf)), (aT, .inl (cT, R, .inl Tf))] := hD
  obtain ⟨q1, q2, q3, q4, q5⟩ := e148
  subst q1
  refine lv_aload_n hx hb dL_law_151 rfl (lv_at hl 2 rfl) ?_
  refine lv_aload_n hx hb dL_law_152 rfl (lv_at hl 0 rfl) ?_
  refine lv_iload_n hx hb dL_law_153 rfl (lv_at hl 3 rfl) ?_
  refine lv_iconst (v := nI 1) hx hb dL_law_154 (by decide) ?_
  refine lv_iadd hx hb dL_law_155 ?_
  refine zz_as (nI (i + 1)) (nI_add _ _) ?_
  refine zz_sld hx hb hX hbl hbA hS (j := i + 1) (by omega) (by omega) dL_law_156 ?_
  refine zz_callMi (As := [.int (xs (i + 1))]) (rest := [.int (nI (u148 - lo))]) (wr := [(aB, .inl (cB, R, .inl Bf)), (aX, .inl (cX, 512, .inl Xf)), (aO, .inl (cO, 512, .inl Of)), (mX, .inl (eX, 512, .inl Xm)), (mO, .inl (eO, 512, .inl Om)), (aP, .inr (1, [.ref aR, .ref aX, .int (nI ts), .ref aO, .int (nI os), .int (nI uw), .int fr, .int to, .int (nI (pa - u148)), .int (nI hi), .int (nI dr), .int (nI (de + (u148 - lo)))])), (aR, .inr (0, [.int (nI R), .ref aB, .ref aS, .ref aT, .int (nI (u148 % R)), .int (nI (hi - u148)), .int (nI (off hi % R)), .int (nI (off hi - off u148))])), (aS, .inl (cS, R, .inl Sf)), (aT, .inl (cT, R, .inl Tf))]) ⟨hx, hb, hml, hown, hts⟩ (c_M_delete l dC dI mM mX mO mT mS mB R lo hi off ts os dr de uw fr to pa eT eS eB Tm Sm Bm tm bz ((xs (i + 1))) hok hrm _) (cwV 1 hts gl_M_delete rfl rfl rfl (by decide +kernel) ⟨Nat.le_of_ble_eq_true rfl, Nat.le_of_ble_eq_true rfl⟩) hP hD hK hS hA [3, 6, 7, 8] [0, 1, 2, 4, 5, 9, 10, 11, 12] [7, 8, 9] rfl rfl rfl (by decide) (by decide) (by decide) rfl 0 rfl rfl rfl rfl hl.1 rfl (Nat.le_of_ble_eq_true rfl) dL_law_157 ⟨Nat.le_of_ble_eq_true rfl, Nat.le_of_ble_eq_true rfl⟩ (fun r157 u157 H locs e157 hP hD hS => ?_)
  have hP : va_P (dC, dI) vwCl [(aB, .inl (cB, R, .inl Bf)), (aX, .inl (cX, 512, .inl Xf)), (aO, .inl (cO, 512, .inl Of)), (mX, .inl (eX, 512, .inl Xm)), (mO, .inl (eO, 512, .inl Om)), (aP, .inr (1, [.ref aR, .ref aX, .int (nI ts), .ref aO, .int (nI os), .int (nI uw), .int fr, .int to, .int (nI (pa - u148)), .int (nI hi), .int (nI dr), .int (nI (de + (u148 - lo)))])), (aR, .inr (0, [.int (nI R), .ref aB, .ref aS, .ref aT, .int (nI (u148 % R)), .int (nI (hi - u148)), .int (nI (off hi % R)), .int (nI (off hi - off u148))])), (aS, .inl (cS, R, .inl Sf)), (aT, .inl (cT, R, .inl Tf)), (mM, .inr (2, [.int (nI 0), .int (nI R), .ref mX, .int (nI ts), .ref mO, .int (nI os), .int (nI (hi - u157.1)), .ref mT, .ref mS, .ref mB, .int (nI (off hi - off u157.1)), .int (nI hi), .int (nI dr), .int (nI (de + (u157.1 - lo))), .int (nI uw), .int fr, .int to, .int (nI pa)])), (mT, .inl (eT, 16384, .inl u157.2.1)), (mS, .inl (eS, 16384, .inl u157.2.2.1)), (mB, .inl (eB, 16384, .inl u157.2.2.2))] H := hP
  have hD : va_D (fun q : Nat => s.heap.size ≤ q) [(aB, .inl (cB, R, .inl Bf)), (aX, .inl (cX, 512, .inl Xf)), (aO, .inl (cO, 512, .inl Of)), (mX, .inl (eX, 512, .inl Xm)), (mO, .inl (eO, 512, .inl Om)), (aP, .inr (1, [.ref aR, .ref aX, .int (nI ts), .ref aO, .int (nI os), .int (nI uw), .int fr, .int to, .int (nI (pa - u148)), .int (nI hi), .int (nI dr), .int (nI (de + (u148 - lo)))])), (aR, .inr (0, [.int (nI R), .ref aB, .ref aS, .ref aT, .int (nI (u148 % R)), .int (nI (hi - u148)), .int (nI (off hi % R)), .int (nI (off hi - off u148))])), (aS, .inl (cS, R, .inl Sf)), (aT, .inl (cT, R, .inl Tf)), (mM, .inr (2, [.int (nI 0), .int (nI R), .ref mX, .int (nI ts), .ref mO, .int (nI os), .int (nI (hi - u157.1)), .ref mT, .ref mS, .ref mB, .int (nI (off hi - off u157.1)), .int (nI hi), .int (nI dr), .int (nI (de + (u157.1 - lo))), .int (nI uw), .int fr, .int to, .int (nI pa)])), (mT, .inl (eT, 16384, .inl u157.2.1)), (mS, .inl (eS, 16384, .inl u157.2.2.1)), (mB, .inl (eB, 16384, .inl u157.2.2.2))] := hD
  obtain ⟨u2, T2, S2, B2⟩ := u157
  dsimp only at e157
  obtain ⟨g1, g2, g3, g4, g5, g6⟩ := e157
  have eu : u2 = u148 := dl_uniq (P := fun k => xs (i + 1) < tm k) g2 g3 g4 g5 q2 q3 q4 q5
  subst eu
  subst g1
  have hP : va_P (dC, dI) vwCl [(aB, .inl (cB, R, .inl Bf)), (aX, .inl (cX, 512, .inl Xf)), (aO, .inl (cO, 512, .inl Of)), (mX, .inl (eX, 512, .inl Xm)), (mO, .inl (eO, 512, .inl Om)), (aP, .inr (1, [.ref aR, .ref aX, .int (nI ts), .ref aO, .int (nI os), .int (nI uw), .int fr, .int to, .int (nI (pa - u2)), .int (nI hi), .int (nI dr), .int (nI (de + (u2 - lo)))])), (aR, .inr (0, [.int (nI R), .ref aB, .ref aS, .ref aT, .int (nI (u2 % R)), .int (nI (hi - u2)), .int (nI (off hi % R)), .int (nI (off hi - off u2))])), (aS, .inl (cS, R, .inl Sf)), (aT, .inl (cT, R, .inl Tf)), (mM, .inr (2, [.int (nI 0), .int (nI R), .ref mX, .int (nI ts), .ref mO, .int (nI os), .int (nI (hi - u2)), .ref mT, .ref mS, .ref mB, .int (nI (off hi - off u2)), .int (nI hi), .int (nI dr), .int (nI (de + (u2 - lo))), .int (nI uw), .int fr, .int to, .int (nI pa)])), (mT, .inl (eT, 16384, .inl T2)), (mS, .inl (eS, 16384, .inl S2)), (mB, .inl (eB, 16384, .inl B2))] H := hP
  have hD : va_D (fun q : Nat => s.heap.size ≤ q) [(aB, .inl (cB, R, .inl Bf)), (aX, .inl (cX, 512, .inl Xf)), (aO, .inl (cO, 512, .inl Of)), (mX, .inl (eX, 512, .inl Xm)), (mO, .inl (eO, 512, .inl Om)), (aP, .inr (1, [.ref aR, .ref aX, .int (nI ts), .ref aO, .int (nI os), .int (nI uw), .int fr, .int to, .int (nI (pa - u2)), .int (nI hi), .int (nI dr), .int (nI (de + (u2 - lo)))])), (aR, .inr (0, [.int (nI R), .ref aB, .ref aS, .ref aT, .int (nI (u2 % R)), .int (nI (hi - u2)), .int (nI (off hi % R)), .int (nI (off hi - off u2))])), (aS, .inl (cS, R, .inl Sf)), (aT, .inl (cT, R, .inl Tf)), (mM, .inr (2, [.int (nI 0), .int (nI R), .ref mX, .int (nI ts), .ref mO, .int (nI os), .int (nI (hi - u2)), .ref mT, .ref mS, .ref mB, .int (nI (off hi - off u2)), .int (nI hi), .int (nI dr), .int (nI (de + (u2 - lo))), .int (nI uw), .int fr, .int to, .int (nI pa)])), (mT, .inl (eT, 16384, .inl T2)), (mS, .inl (eS, 16384, .inl S2)), (mB, .inl (eB, 16384, .inl B2))] := hD
  refine lv_icmp_eq (tgt := 346) hx hb dL_law_160 (by decide) (fun c160 => ?_) (fun c160 => ?_)
  · have hP := hP.sub (ws' := [(aP, .inr (1, [.ref aR, .ref aX, .int (nI ts), .ref aO, .int (nI os), .int (nI uw), .int fr, .int to, .int (nI (pa - u2)), .int (nI hi), .int (nI dr), .int (nI (de + (u2 - lo)))])), (aR, .inr (0, [.int (nI R), .ref aB, .ref aS, .ref aT, .int (nI (u2 % R)), .int (nI (hi - u2)), .int (nI (off hi % R)), .int (nI (off hi - off u2))])), (aB, .inl (cB, R, .inl Bf)), (aS, .inl (cS, R, .inl Sf)), (aT, .inl (cT, R, .inl Tf)), (aX, .inl (cX, 512, .inl Xf)), (aO, .inl (cO, 512, .inl Of)), (mM, .inr (2, [.int (nI 0), .int (nI R), .ref mX, .int (nI ts), .ref mO, .int (nI os), .int (nI (hi - u2)), .ref mT, .ref mS, .ref mB, .int (nI (off hi - off u2)), .int (nI hi), .int (nI dr), .int (nI (de + (u2 - lo))), .int (nI uw), .int fr, .int to, .int (nI pa)])), (mX, .inl (eX, 512, .inl Xm)), (mO, .inl (eO, 512, .inl Om)), (mT, .inl (eT, 16384, .inl T2)), (mS, .inl (eS, 16384, .inl S2)), (mB, .inl (eB, 16384, .inl B2))]) [5, 6, 0, 7, 8, 1, 2, 9, 3, 4, 10, 11, 12] rfl
    have hD := hD.sub (ws' := [(aP, .inr (1, [.ref aR, .ref aX, .int (nI ts), .ref aO, .int (nI os), .int (nI uw), .int fr, .int to, .int (nI (pa - u2)), .int (nI hi), .int (nI dr), .int (nI (de + (u2 - lo)))])), (aR, .inr (0, [.int (nI R), .ref aB, .ref aS, .ref aT, .int (nI (u2 % R)), .int (nI (hi - u2)), .int (nI (off hi % R)), .int (nI (off hi - off u2))])), (aB, .inl (cB, R, .inl Bf)), (aS, .inl (cS, R, .inl Sf)), (aT, .inl (cT, R, .inl Tf)), (aX, .inl (cX, 512, .inl Xf)), (aO, .inl (cO, 512, .inl Of)), (mM, .inr (2, [.int (nI 0), .int (nI R), .ref mX, .int (nI ts), .ref mO, .int (nI os), .int (nI (hi - u2)), .ref mT, .ref mS, .ref mB, .int (nI (off hi - off u2)), .int (nI hi), .int (nI dr), .int (nI (de + (u2 - lo))), .int (nI uw), .int fr, .int to, .int (nI pa)])), (mX, .inl (eX, 512, .inl Xm)), (mO, .inl (eO, 512, .inl Om)), (mT, .inl (eT, 16384, .inl T2)), (mS, .inl (eS, 16384, .inl S2)), (mB, .inl (eB, 16384, .inl B2))]) [5, 6, 0, 7, 8, 1, 2, 9, 3, 4, 10, 11, 12] (by decide) rfl
    exact K _ _ _ ⟨u2, hi, off, ts, os, uw, fr, to, pa, dr, de + (u2 - lo), tm, bz, tz, oz, Bf, Sf, Tf, Xf, Of, B2, S2, T2, Xm, Om, ⟨hok.drop q2 q3, hrep.drop hok q2 q3, g6, fun i a b => h512 i (by omega) b, ⟨hpa, by omega⟩, ⟨hts5, htX, htM⟩, ⟨hos5, hoX, hoM⟩, huw⟩, hP, hD, hS, lv_sub hl [0, 1, 2, 3] rfl⟩
  · exact absurd rfl c160
set_option maxHeartbeats 8000000 in
set_option maxRecDepth 100000 in
theorem law_begin {p : Program} {l : Launch} {e : Env} {s : State} {m : MethodId} {below : List Frame} {meth : Method} {c : Code} {dC : Nat → ClassId} {dI : Nat → Nat → Nat} {b L : Nat} {xs : Nat → Int32} (hL : L ≤ 1537) (C0 : lw_At p s m meth c b L xs) {aP aR aB aS aT aX aO mM mX mO mT mS mB : Nat} {cB cS cT cX cO eX eO eT eS eB : ClassId} {R i : Nat} (hK : va_K (dC, dI) vwCl [(cB, .byte), (cS, .int), (cT, .int), (cX, .byte), (cO, .byte), (eX, .byte), (eO, .byte), (eT, .int), (eS, .int), (eB, .byte)] s) (hi3 : i + 3 ≤ L) (K : ∀ (H : Heap) (locs : List Loc) (ls : Array Slot), LI dC dI s b aP aR aB aS aT aX aO mM mX mO mT mS mB cB cS cT cX cO eX eO eT eS eB R (i + 1) i H locs ls → W p l e room_1 s m #[Value.ref b] below meth c H locs 13 100390 (lw_Z below #[Value.ref b] s) (F0 m 346 ls [])) {H : Heap} {locs : List Loc} {ls : Array Slot} (h : LI dC dI s b aP aR aB aS aT aX aO mM mX mO mT mS mB cB cS cT cX cO eX eO eT eS eB R i i H locs ls) : W p l e room_1 s m #[Value.ref b] below meth c H locs 13 100390 (lw_Z below #[Value.ref b] s) (F0 m 165 ls []) := by
  obtain ⟨hx, hb, hr, hml, hown, hts, hX, hbl, hlocks, hgv⟩ := id C0
  have hA : ∀ q : Nat, s.heap.size ≤ q → (fun q : Nat => s.heap.size ≤ q) q := fun _ h => h
  have hbA : ¬ (fun q : Nat => s.heap.size ≤ q) b := Nat.not_le.mpr hbl
  have hown : s.vm.findClass RL = some m.cls := hown
  obtain ⟨lo, hi, off, ts, os, uw, fr, to, pa, dr, de, tm, bz, tz, oz, Bf, Sf, Tf, Xf, Of, Bm, Sm, Tm, Xm, Om, hinv, hP, hD, hS, hl⟩ := h
  obtain ⟨hok, hrep, hrm, h512, ⟨hpa, hcb⟩, ⟨hts5, htX, htM⟩, ⟨hos5, hoX, hoM⟩, huw⟩ := id hinv
  have hll := hok.2.1
  have hRR := hok.1
  rcases Nat.decEq uw 0 with hcase | hcase
  · refine lv_aload_n hx hb dL_law_165 rfl (lv_at hl 1 rfl) ?_
    refine lv_aload_n hx hb dL_law_166 rfl (lv_at hl 0 rfl) ?_
    refine lv_iload_n hx hb dL_law_167 rfl (lv_at hl 3 rfl) ?_
    refine lv_iconst (v := nI 1) hx hb dL_law_168 (by decide) ?_
    refine lv_iadd hx hb dL_law_169 ?_
    refine zz_as (nI (i + 1)) (nI_add _ _) ?_
    refine zz_sld hx hb hX hbl hbA hS (j := i + 1) (by omega) (by omega) dL_law_170 ?_
    refine lv_aload_n hx hb dL_law_171 rfl (lv_at hl 0 rfl) ?_
    refine lv_iload_n hx hb dL_law_172 rfl (lv_at hl 3 rfl) ?_
    refine lv_iconst (v := nI 2) hx hb dL_law_173 (by decide) ?_
    refine lv_iadd hx hb dL_law_174 ?_
    refine zz_as (nI (i + 2)) (nI_add _ _) ?_
    refine zz_sld hx hb hX hbl hbA hS (j := i + 2) (by omega) (by omega) dL_law_175 ?_
    refine zz_callMi (As := [.int (xs (i + 1)), .int (xs (i + 2))]) (rest := []) (wr := [(aR, .inr (0, [.int (nI R), .ref aB, .ref aS, .ref aT, .int (nI (lo % R)), .int (nI (hi - lo)), .int (nI (off hi % R)), .int (nI (off hi - off lo))])), (aB, .inl (cB, R, .inl Bf)), (aS, .inl (cS, R, .inl Sf)), (aT, .inl (cT, R, .inl Tf)), (aX, .inl (cX, 512, .inl Xf)), (aO, .inl (cO, 512, .inl Of)), (mM, .inr (2, [.int (nI 0), .int (nI R), .ref mX, .int (nI ts), .ref mO, .int (nI os), .int (nI (hi - lo)), .ref mT, .ref mS, .ref mB, .int (nI (off hi - off lo)), .int (nI hi), .int (nI dr), .int (nI de), .int (nI uw), .int fr, .int to, .int (nI pa)])), (mX, .inl (eX, 512, .inl Xm)), (mO, .inl (eO, 512, .inl Om)), (mT, .inl (eT, 16384, .inl Tm)), (mS, .inl (eS, 16384, .inl Sm)), (mB, .inl (eB, 16384, .inl Bm))]) ⟨hx, hb, hml, hown, hts⟩ (c_P_begin l dC dI aP aR aX aO ts os uw fr to (pa - lo) hi dr de ((xs (i + 1))) ((xs (i + 2))) huw _) (cwV 2 hts gl_X1_begin rfl rfl rfl (by decide +kernel) ⟨Nat.le_of_ble_eq_true rfl, Nat.le_of_ble_eq_true rfl⟩) hP hD hK hS hA [0] [1, 2, 3, 4, 5, 6, 7, 8, 9, 10, 11, 12] [] rfl rfl rfl (by decide) (by decide) (by decide) rfl 0 rfl rfl rfl rfl hl.1 rfl (Nat.le_of_ble_eq_true rfl) dL_law_176 ⟨Nat.le_of_ble_eq_true rfl, Nat.le_of_ble_eq_true rfl⟩ (fun r176 u176 H locs e176 hP hD hS => ?_)
    have hP : va_P (dC, dI) vwCl [(aR, .inr (0, [.int (nI R), .ref aB, .ref aS, .ref aT, .int (nI (lo % R)), .int (nI (hi - lo)), .int (nI (off hi % R)), .int (nI (off hi - off lo))])), (aB, .inl (cB, R, .inl Bf)), (aS, .inl (cS, R, .inl Sf)), (aT, .inl (cT, R, .inl Tf)), (aX, .inl (cX, 512, .inl Xf)), (aO, .inl (cO, 512, .inl Of)), (mM, .inr (2, [.int (nI 0), .int (nI R), .ref mX, .int (nI ts), .ref mO, .int (nI os), .int (nI (hi - lo)), .ref mT, .ref mS, .ref mB, .int (nI (off hi - off lo)), .int (nI hi), .int (nI dr), .int (nI de), .int (nI uw), .int fr, .int to, .int (nI pa)])), (mX, .inl (eX, 512, .inl Xm)), (mO, .inl (eO, 512, .inl Om)), (mT, .inl (eT, 16384, .inl Tm)), (mS, .inl (eS, 16384, .inl Sm)), (mB, .inl (eB, 16384, .inl Bm)), (aP, .inr (1, [.ref aR, .ref aX, .int (nI ts), .ref aO, .int (nI os), .int (nI u176.1), .int u176.2.1, .int u176.2.2.1, .int (nI u176.2.2.2), .int (nI hi), .int (nI dr), .int (nI de)]))] H := hP
    have hD : va_D (fun q : Nat => s.heap.size ≤ q) [(aR, .inr (0, [.int (nI R), .ref aB, .ref aS, .ref aT, .int (nI (lo % R)), .int (nI (hi - lo)), .int (nI (off hi % R)), .int (nI (off hi - off lo))])), (aB, .inl (cB, R, .inl Bf)), (aS, .inl (cS, R, .inl Sf)), (aT, .inl (cT, R, .inl Tf)), (aX, .inl (cX, 512, .inl Xf)), (aO, .inl (cO, 512, .inl Of)), (mM, .inr (2, [.int (nI 0), .int (nI R), .ref mX, .int (nI ts), .ref mO, .int (nI os), .int (nI (hi - lo)), .ref mT, .ref mS, .ref mB, .int (nI (off hi - off lo)), .int (nI hi), .int (nI dr), .int (nI de), .int (nI uw), .int fr, .int to, .int (nI pa)])), (mX, .inl (eX, 512, .inl Xm)), (mO, .inl (eO, 512, .inl Om)), (mT, .inl (eT, 16384, .inl Tm)), (mS, .inl (eS, 16384, .inl Sm)), (mB, .inl (eB, 16384, .inl Bm)), (aP, .inr (1, [.ref aR, .ref aX, .int (nI ts), .ref aO, .int (nI os), .int (nI u176.1), .int u176.2.1, .int u176.2.2.1, .int (nI u176.2.2.2), .int (nI hi), .int (nI dr), .int (nI de)]))] := hD
    obtain ⟨-, z1, z2⟩ := e176.resolve_right (fun z => hcase z.1)
    subst z1; subst z2
    have hP : va_P (dC, dI) vwCl [(aR, .inr (0, [.int (nI R), .ref aB, .ref aS, .ref aT, .int (nI (lo % R)), .int (nI (hi - lo)), .int (nI (off hi % R)), .int (nI (off hi - off lo))])), (aB, .inl (cB, R, .inl Bf)), (aS, .inl (cS, R, .inl Sf)), (aT, .inl (cT, R, .inl Tf)), (aX, .inl (cX, 512, .inl Xf)), (aO, .inl (cO, 512, .inl Of)), (mM, .inr (2, [.int (nI 0), .int (nI R), .ref mX, .int (nI ts), .ref mO, .int (nI os), .int (nI (hi - lo)), .ref mT, .ref mS, .ref mB, .int (nI (off hi - off lo)), .int (nI hi), .int (nI dr), .int (nI de), .int (nI uw), .int fr, .int to, .int (nI pa)])), (mX, .inl (eX, 512, .inl Xm)), (mO, .inl (eO, 512, .inl Om)), (mT, .inl (eT, 16384, .inl Tm)), (mS, .inl (eS, 16384, .inl Sm)), (mB, .inl (eB, 16384, .inl Bm)), (aP, .inr (1, [.ref aR, .ref aX, .int (nI ts), .ref aO, .int (nI os), .int (nI uw), .int fr, .int to, .int (nI (pa - lo)), .int (nI hi), .int (nI dr), .int (nI de)]))] H := hP
    have hD : va_D (fun q : Nat => s.heap.size ≤ q) [(aR, .inr (0, [.int (nI R), .ref aB, .ref aS, .ref aT, .int (nI (lo % R)), .int (nI (hi - lo)), .int (nI (off hi % R)), .int (nI (off hi - off lo))])), (aB, .inl (cB, R, .inl Bf)), (aS, .inl (cS, R, .inl Sf)), (aT, .inl (cT, R, .inl Tf)), (aX, .inl (cX, 512, .inl Xf)), (aO, .inl (cO, 512, .inl Of)), (mM, .inr (2, [.int (nI 0), .int (nI R), .ref mX, .int (nI ts), .ref mO, .int (nI os), .int (nI (hi - lo)), .ref mT, .ref mS, .ref mB, .int (nI (off hi - off lo)), .int (nI hi), .int (nI dr), .int (nI de), .int (nI uw), .int fr, .int to, .int (nI pa)])), (mX, .inl (eX, 512, .inl Xm)), (mO, .inl (eO, 512, .inl Om)), (mT, .inl (eT, 16384, .inl Tm)), (mS, .inl (eS, 16384, .inl Sm)), (mB, .inl (eB, 16384, .inl Bm)), (aP, .inr (1, [.ref aR, .ref aX, .int (nI ts), .ref aO, .int (nI os), .int (nI uw), .int fr, .int to, .int (nI (pa - lo)), .int (nI hi), .int (nI dr), .int (nI de)]))] := hD
    refine lv_aload_n hx hb dL_law_179 rfl (lv_at hl 2 rfl) ?_
    refine lv_aload_n hx hb dL_law_180 rfl (lv_at hl 0 rfl) ?_
    refine lv_iload_n hx hb dL_law_181 rfl (lv_at hl 3 rfl) ?_
    refine lv_iconst (v := nI 1) hx hb dL_law_182 (by decide) ?_
    refine lv_iadd hx hb dL_law_183 ?_
    refine zz_as (nI (i + 1)) (nI_add _ _) ?_
    refine zz_sld hx hb hX hbl hbA hS (j := i + 1) (by omega) (by omega) dL_law_184 ?_
    refine lv_aload_n hx hb dL_law_185 rfl (lv_at hl 0 rfl) ?_
    refine lv_iload_n hx hb dL_law_186 rfl (lv_at hl 3 rfl) ?_
    refine lv_iconst (v := nI 2) hx hb dL_law_187 (by decide) ?_
    refine lv_iadd hx hb dL_law_188 ?_
    refine zz_as (nI (i + 2)) (nI_add _ _) ?_
    refine zz_sld hx hb hX hbl hbA hS (j := i + 2) (by omega) (by omega) dL_law_189 ?_
    refine zz_callMi (As := [.int (xs (i + 1)), .int (xs (i + 2))]) (rest := [.int (nI 0)]) (wr := [(aR, .inr (0, [.int (nI R), .ref aB, .ref aS, .ref aT, .int (nI (lo % R)), .int (nI (hi - lo)), .int (nI (off hi % R)), .int (nI (off hi - off lo))])), (aB, .inl (cB, R, .inl Bf)), (aS, .inl (cS, R, .inl Sf)), (aT, .inl (cT, R, .inl Tf)), (aX, .inl (cX, 512, .inl Xf)), (aO, .inl (cO, 512, .inl Of)), (mX, .inl (eX, 512, .inl Xm)), (mO, .inl (eO, 512, .inl Om)), (mT, .inl (eT, 16384, .inl Tm)), (mS, .inl (eS, 16384, .inl Sm)), (mB, .inl (eB, 16384, .inl Bm)), (aP, .inr (1, [.ref aR, .ref aX, .int (nI ts), .ref aO, .int (nI os), .int (nI uw), .int fr, .int to, .int (nI (pa - lo)), .int (nI hi), .int (nI dr), .int (nI de)]))]) ⟨hx, hb, hml, hown, hts⟩ (c_M_begin l dC dI mM mX mO mT mS mB R ts os (hi - lo) (off hi - off lo) hi dr de uw fr to pa ((xs (i + 1))) ((xs (i + 2))) huw (by omega) _) (cwV 2 hts gl_M_begin rfl rfl rfl (by decide +kernel) ⟨Nat.le_of_ble_eq_true rfl, Nat.le_of_ble_eq_true rfl⟩) hP hD hK hS hA [6] [0, 1, 2, 3, 4, 5, 7, 8, 9, 10, 11, 12] [] rfl rfl rfl (by decide) (by decide) (by decide) rfl 0 rfl rfl rfl rfl hl.1 rfl (Nat.le_of_ble_eq_true rfl) dL_law_190 ⟨Nat.le_of_ble_eq_true rfl, Nat.le_of_ble_eq_true rfl⟩ (fun r190 u190 H locs e190 hP hD hS => ?_)
    have hP : va_P (dC, dI) vwCl [(aR, .inr (0, [.int (nI R), .ref aB, .ref aS, .ref aT, .int (nI (lo % R)), .int (nI (hi - lo)), .int (nI (off hi % R)), .int (nI (off hi - off lo))])), (aB, .inl (cB, R, .inl Bf)), (aS, .inl (cS, R, .inl Sf)), (aT, .inl (cT, R, .inl Tf)), (aX, .inl (cX, 512, .inl Xf)), (aO, .inl (cO, 512, .inl Of)), (mX, .inl (eX, 512, .inl Xm)), (mO, .inl (eO, 512, .inl Om)), (mT, .inl (eT, 16384, .inl Tm)), (mS, .inl (eS, 16384, .inl Sm)), (mB, .inl (eB, 16384, .inl Bm)), (aP, .inr (1, [.ref aR, .ref aX, .int (nI ts), .ref aO, .int (nI os), .int (nI uw), .int fr, .int to, .int (nI (pa - lo)), .int (nI hi), .int (nI dr), .int (nI de)])), (mM, .inr (2, [.int (nI 0), .int (nI R), .ref mX, .int (nI ts), .ref mO, .int (nI os), .int (nI (hi - lo)), .ref mT, .ref mS, .ref mB, .int (nI (off hi - off lo)), .int (nI hi), .int (nI dr), .int (nI de), .int (nI u190.1), .int u190.2.1, .int u190.2.2.1, .int (nI u190.2.2.2)]))] H := hP
    have hD : va_D (fun q : Nat => s.heap.size ≤ q) [(aR, .inr (0, [.int (nI R), .ref aB, .ref aS, .ref aT, .int (nI (lo % R)), .int (nI (hi - lo)), .int (nI (off hi % R)), .int (nI (off hi - off lo))])), (aB, .inl (cB, R, .inl Bf)), (aS, .inl (cS, R, .inl Sf)), (aT, .inl (cT, R, .inl Tf)), (aX, .inl (cX, 512, .inl Xf)), (aO, .inl (cO, 512, .inl Of)), (mX, .inl (eX, 512, .inl Xm)), (mO, .inl (eO, 512, .inl Om)), (mT, .inl (eT, 16384, .inl Tm)), (mS, .inl (eS, 16384, .inl Sm)), (mB, .inl (eB, 16384, .inl Bm)), (aP, .inr (1, [.ref aR, .ref aX, .int (nI ts), .ref aO, .int (nI os), .int (nI uw), .int fr, .int to, .int (nI (pa - lo)), .int (nI hi), .int (nI dr), .int (nI de)])), (mM, .inr (2, [.int (nI 0), .int (nI R), .ref mX, .int (nI ts), .ref mO, .int (nI os), .int (nI (hi - lo)), .ref mT, .ref mS, .ref mB, .int (nI (off hi - off lo)), .int (nI hi), .int (nI dr), .int (nI de), .int (nI u190.1), .int u190.2.1, .int u190.2.2.1, .int (nI u190.2.2.2)]))] := hD
    obtain ⟨-, z1, z2⟩ := e190.resolve_right (fun z => hcase z.1)
    subst z1; subst z2
    have hP : va_P (dC, dI) vwCl [(aR, .inr (0, [.int (nI R), .ref aB, .ref aS, .ref aT, .int (nI (lo % R)), .int (nI (hi - lo)), .int (nI (off hi % R)), .int (nI (off hi - off lo))])), (aB, .inl (cB, R, .inl Bf)), (aS, .inl (cS, R, .inl Sf)), (aT, .inl (cT, R, .inl Tf)), (aX, .inl (cX, 512, .inl Xf)), (aO, .inl (cO, 512, .inl Of)), (mX, .inl (eX, 512, .inl Xm)), (mO, .inl (eO, 512, .inl Om)), (mT, .inl (eT, 16384, .inl Tm)), (mS, .inl (eS, 16384, .inl Sm)), (mB, .inl (eB, 16384, .inl Bm)), (aP, .inr (1, [.ref aR, .ref aX, .int (nI ts), .ref aO, .int (nI os), .int (nI uw), .int fr, .int to, .int (nI (pa - lo)), .int (nI hi), .int (nI dr), .int (nI de)])), (mM, .inr (2, [.int (nI 0), .int (nI R), .ref mX, .int (nI ts), .ref mO, .int (nI os), .int (nI (hi - lo)), .ref mT, .ref mS, .ref mB, .int (nI (off hi - off lo)), .int (nI hi), .int (nI dr), .int (nI de), .int (nI uw), .int fr, .int to, .int (nI pa)]))] H := hP
    have hD : va_D (fun q : Nat => s.heap.size ≤ q) [(aR, .inr (0, [.int (nI R), .ref aB, .ref aS, .ref aT, .int (nI (lo % R)), .int (nI (hi - lo)), .int (nI (off hi % R)), .int (nI (off hi - off lo))])), (aB, .inl (cB, R, .inl Bf)), (aS, .inl (cS, R, .inl Sf)), (aT, .inl (cT, R, .inl Tf)), (aX, .inl (cX, 512, .inl Xf)), (aO, .inl (cO, 512, .inl Of)), (mX, .inl (eX, 512, .inl Xm)), (mO, .inl (eO, 512, .inl Om)), (mT, .inl (eT, 16384, .inl Tm)), (mS, .inl (eS, 16384, .inl Sm)), (mB, .inl (eB, 16384, .inl Bm)), (aP, .inr (1, [.ref aR, .ref aX, .int (nI ts), .ref aO, .int (nI os), .int (nI uw), .int fr, .int to, .int (nI (pa - lo)), .int (nI hi), .int (nI dr), .int (nI de)])), (mM, .inr (2, [.int (nI 0), .int (nI R), .ref mX, .int (nI ts), .ref mO, .int (nI os), .int (nI (hi - lo)), .ref mT, .ref mS, .ref mB, .int (nI (off hi - off lo)), .int (nI hi), .int (nI dr), .int (nI de), .int (nI uw), .int fr, .int to, .int (nI pa)]))] := hD
    refine lv_icmp_eq (tgt := 346) hx hb dL_law_193 (by decide) (fun c193 => ?_) (fun c193 => ?_)
    · have hP := hP.sub (ws' := [(aP, .inr (1, [.ref aR, .ref aX, .int (nI ts), .ref aO, .int (nI os), .int (nI uw), .int fr, .int to, .int (nI (pa - lo)), .int (nI hi), .int (nI dr), .int (nI de)])), (aR, .inr (0, [.int (nI R), .ref aB, .ref aS, .ref aT, .int (nI (lo % R)), .int (nI (hi - lo)), .int (nI (off hi % R)), .int (nI (off hi - off lo))])), (aB, .inl (cB, R, .inl Bf)), (aS, .inl (cS, R, .inl Sf)), (aT, .inl (cT, R, .inl Tf)), (aX, .inl (cX, 512, .inl Xf)), (aO, .inl (cO, 512, .inl Of)), (mM, .inr (2, [.int (nI 0), .int (nI R), .ref mX, .int (nI ts), .ref mO, .int (nI os), .int (nI (hi - lo)), .ref mT, .ref mS, .ref mB, .int (nI (off hi - off lo)), .int (nI hi), .int (nI dr), .int (nI de), .int (nI uw), .int fr, .int to, .int (nI pa)])), (mX, .inl (eX, 512, .inl Xm)), (mO, .inl (eO, 512, .inl Om)), (mT, .inl (eT, 16384, .inl Tm)), (mS, .inl (eS, 16384, .inl Sm)), (mB, .inl (eB, 16384, .inl Bm))]) [11, 0, 1, 2, 3, 4, 5, 12, 6, 7, 8, 9, 10] rfl
      have hD := hD.sub (ws' := [(aP, .inr (1, [.ref aR, .ref aX, .int (nI ts), .ref aO, .int (nI os), .int (nI uw), .int fr, .int to, .int (nI (pa - lo)), .int (nI hi), .int (nI dr), .int (nI de)])), (aR, .inr (0, [.int (nI R), .ref aB, .ref aS, .ref aT, .int (nI (lo % R)), .int (nI (hi - lo)), .int (nI (off hi % R)), .int (nI (off hi - off lo))])), (aB, .inl (cB, R, .inl Bf)), (aS, .inl (cS, R, .inl Sf)), (aT, .inl (cT, R, .inl Tf)), (aX, .inl (cX, 512, .inl Xf)), (aO, .inl (cO, 512, .inl Of)), (mM, .inr (2, [.int (nI 0), .int (nI R), .ref mX, .int (nI ts), .ref mO, .int (nI os), .int (nI (hi - lo)), .ref mT, .ref mS, .ref mB, .int (nI (off hi - off lo)), .int (nI hi), .int (nI dr), .int (nI de), .int (nI uw), .int fr, .int to, .int (nI pa)])), (mX, .inl (eX, 512, .inl Xm)), (mO, .inl (eO, 512, .inl Om)), (mT, .inl (eT, 16384, .inl Tm)), (mS, .inl (eS, 16384, .inl Sm)), (mB, .inl (eB, 16384, .inl Bm))]) [11, 0, 1, 2, 3, 4, 5, 12, 6, 7, 8, 9, 10] (by decide) rfl
      exact K _ _ _ ⟨lo, hi, off, ts, os, uw, fr, to, pa, dr, de, tm, bz, tz, oz, Bf, Sf, Tf, Xf, Of, Bm, Sm, Tm, Xm, Om, ⟨hok, hrep, hrm, h512, ⟨hpa, by omega⟩, ⟨hts5, htX, htM⟩, ⟨hos5, hoX, hoM⟩, huw⟩, hP, hD, hS, lv_sub hl [0, 1, 2, 3] rfl⟩
    · exact absurd rfl c193
  · refine lv_aload_n hx hb dL_law_165 rfl (lv_at hl 1 rfl) ?_
    refine lv_aload_n hx hb dL_law_166 rfl (lv_at hl 0 rfl) ?_
    refine lv_iload_n hx hb dL_law_167 rfl (lv_at hl 3 rfl) ?_
    refine lv_iconst (v := nI 1) hx hb dL_law_168 (by decide) ?_
    refine lv_iadd hx hb dL_law_169 ?_
    refine zz_as (nI (i + 1)) (nI_add _ _) ?_
    refine zz_sld hx hb hX hbl hbA hS (j := i + 1) (by omega) (by omega) dL_law_170 ?_
    refine lv_aload_n hx hb dL_law_171 rfl (lv_at hl 0 rfl) ?_
    refine lv_iload_n hx hb dL_law_172 rfl (lv_at hl 3 rfl) ?_
    refine lv_iconst (v := nI 2) hx hb dL_law_173 (by decide) ?_
    refine lv_iadd hx hb dL_law_174 ?_
    refine zz_as (nI (i + 2)) (nI_add _ _) ?_
    refine zz_sld hx hb hX hbl hbA hS (j := i + 2) (by omega) (by omega) dL_law_175 ?_
    refine zz_callMi (As := [.int (xs (i + 1)), .int (xs (i + 2))]) (rest := []) (wr := [(aR, .inr (0, [.int (nI R), .ref aB, .ref aS, .ref aT, .int (nI (lo % R)), .int (nI (hi - lo)), .int (nI (off hi % R)), .int (nI (off hi - off lo))])), (aB, .inl (cB, R, .inl Bf)), (aS, .inl (cS, R, .inl Sf)), (aT, .inl (cT, R, .inl Tf)), (aX, .inl (cX, 512, .inl Xf)), (aO, .inl (cO, 512, .inl Of)), (mM, .inr (2, [.int (nI 0), .int (nI R), .ref mX, .int (nI ts), .ref mO, .int (nI os), .int (nI (hi - lo)), .ref mT, .ref mS, .ref mB, .int (nI (off hi - off lo)), .int (nI hi), .int (nI dr), .int (nI de), .int (nI uw), .int fr, .int to, .int (nI pa)])), (mX, .inl (eX, 512, .inl Xm)), (mO, .inl (eO, 512, .inl Om)), (mT, .inl (eT, 16384, .inl Tm)), (mS, .inl (eS, 16384, .inl Sm)), (mB, .inl (eB, 16384, .inl Bm))]) ⟨hx, hb, hml, hown, hts⟩ (c_P_begin l dC dI aP aR aX aO ts os uw fr to (pa - lo) hi dr de ((xs (i + 1))) ((xs (i + 2))) huw _) (cwV 2 hts gl_X1_begin rfl rfl rfl (by decide +kernel) ⟨Nat.le_of_ble_eq_true rfl, Nat.le_of_ble_eq_true rfl⟩) hP hD hK hS hA [0] [1, 2, 3, 4, 5, 6, 7, 8, 9, 10, 11, 12] [] rfl rfl rfl (by decide) (by decide) (by decide) rfl 0 rfl rfl rfl rfl hl.1 rfl (Nat.le_of_ble_eq_true rfl) dL_law_176 ⟨Nat.le_of_ble_eq_true rfl, Nat.le_of_ble_eq_true rfl⟩ (fun r176 u176 H locs e176 hP hD hS => ?_)
    have hP : va_P (dC, dI) vwCl [(aR, .inr (0, [.int (nI R), .ref aB, .ref aS, .ref aT, .int (nI (lo % R)), .int (nI (hi - lo)), .int (nI (off hi % R)), .int (nI (off hi - off lo))])), (aB, .inl (cB, R, .inl Bf)), (aS, .inl (cS, R, .inl Sf)), (aT, .inl (cT, R, .inl Tf)), (aX, .inl (cX, 512, .inl Xf)), (aO, .inl (cO, 512, .inl Of)), (mM, .inr (2, [.int (nI 0), .int (nI R), .ref mX, .int (nI ts), .ref mO, .int (nI os), .int (nI (hi - lo)), .ref mT, .ref mS, .ref mB, .int (nI (off hi - off lo)), .int (nI hi), .int (nI dr), .int (nI de), .int (nI uw), .int fr, .int to, .int (nI pa)])), (mX, .inl (eX, 512, .inl Xm)), (mO, .inl (eO, 512, .inl Om)), (mT, .inl (eT, 16384, .inl Tm)), (mS, .inl (eS, 16384, .inl Sm)), (mB, .inl (eB, 16384, .inl Bm)), (aP, .inr (1, [.ref aR, .ref aX, .int (nI ts), .ref aO, .int (nI os), .int (nI u176.1), .int u176.2.1, .int u176.2.2.1, .int (nI u176.2.2.2), .int (nI hi), .int (nI dr), .int (nI de)]))] H := hP
    have hD : va_D (fun q : Nat => s.heap.size ≤ q) [(aR, .inr (0, [.int (nI R), .ref aB, .ref aS, .ref aT, .int (nI (lo % R)), .int (nI (hi - lo)), .int (nI (off hi % R)), .int (nI (off hi - off lo))])), (aB, .inl (cB, R, .inl Bf)), (aS, .inl (cS, R, .inl Sf)), (aT, .inl (cT, R, .inl Tf)), (aX, .inl (cX, 512, .inl Xf)), (aO, .inl (cO, 512, .inl Of)), (mM, .inr (2, [.int (nI 0), .int (nI R), .ref mX, .int (nI ts), .ref mO, .int (nI os), .int (nI (hi - lo)), .ref mT, .ref mS, .ref mB, .int (nI (off hi - off lo)), .int (nI hi), .int (nI dr), .int (nI de), .int (nI uw), .int fr, .int to, .int (nI pa)])), (mX, .inl (eX, 512, .inl Xm)), (mO, .inl (eO, 512, .inl Om)), (mT, .inl (eT, 16384, .inl Tm)), (mS, .inl (eS, 16384, .inl Sm)), (mB, .inl (eB, 16384, .inl Bm)), (aP, .inr (1, [.ref aR, .ref aX, .int (nI ts), .ref aO, .int (nI os), .int (nI u176.1), .int u176.2.1, .int u176.2.2.1, .int (nI u176.2.2.2), .int (nI hi), .int (nI dr), .int (nI de)]))] := hD
    obtain ⟨-, z1, z2⟩ := e176.resolve_left (fun z => z.1 hcase)
    subst z1; subst z2
    have hP : va_P (dC, dI) vwCl [(aR, .inr (0, [.int (nI R), .ref aB, .ref aS, .ref aT, .int (nI (lo % R)), .int (nI (hi - lo)), .int (nI (off hi % R)), .int (nI (off hi - off lo))])), (aB, .inl (cB, R, .inl Bf)), (aS, .inl (cS, R, .inl Sf)), (aT, .inl (cT, R, .inl Tf)), (aX, .inl (cX, 512, .inl Xf)), (aO, .inl (cO, 512, .inl Of)), (mM, .inr (2, [.int (nI 0), .int (nI R), .ref mX, .int (nI ts), .ref mO, .int (nI os), .int (nI (hi - lo)), .ref mT, .ref mS, .ref mB, .int (nI (off hi - off lo)), .int (nI hi), .int (nI dr), .int (nI de), .int (nI uw), .int fr, .int to, .int (nI pa)])), (mX, .inl (eX, 512, .inl Xm)), (mO, .inl (eO, 512, .inl Om)), (mT, .inl (eT, 16384, .inl Tm)), (mS, .inl (eS, 16384, .inl Sm)), (mB, .inl (eB, 16384, .inl Bm)), (aP, .inr (1, [.ref aR, .ref aX, .int (nI ts), .ref aO, .int (nI os), .int (nI 1), .int (xs (i + 1)), .int (xs (i + 2)), .int (nI 0), .int (nI hi), .int (nI dr), .int (nI de)]))] H := hP
    have hD : va_D (fun q : Nat => s.heap.size ≤ q) [(aR, .inr (0, [.int (nI R), .ref aB, .ref aS, .ref aT, .int (nI (lo % R)), .int (nI (hi - lo)), .int (nI (off hi % R)), .int (nI (off hi - off lo))])), (aB, .inl (cB, R, .inl Bf)), (aS, .inl (cS, R, .inl Sf)), (aT, .inl (cT, R, .inl Tf)), (aX, .inl (cX, 512, .inl Xf)), (aO, .inl (cO, 512, .inl Of)), (mM, .inr (2, [.int (nI 0), .int (nI R), .ref mX, .int (nI ts), .ref mO, .int (nI os), .int (nI (hi - lo)), .ref mT, .ref mS, .ref mB, .int (nI (off hi - off lo)), .int (nI hi), .int (nI dr), .int (nI de), .int (nI uw), .int fr, .int to, .int (nI pa)])), (mX, .inl (eX, 512, .inl Xm)), (mO, .inl (eO, 512, .inl Om)), (mT, .inl (eT, 16384, .inl Tm)), (mS, .inl (eS, 16384, .inl Sm)), (mB, .inl (eB, 16384, .inl Bm)), (aP, .inr (1, [.ref aR, .ref aX, .int (nI ts), .ref aO, .int (nI os), .int (nI 1), .int (xs (i + 1)), .int (xs (i + 2)), .int (nI 0), .int (nI hi), .int (nI dr), .int (nI de)]))] := hD
    refine lv_aload_n hx hb dL_law_179 rfl (lv_at hl 2 rfl) ?_
    refine lv_aload_n hx hb dL_law_180 rfl (lv_at hl 0 rfl) ?_
    refine lv_iload_n hx hb dL_law_181 rfl (lv_at hl 3 rfl) ?_
    refine lv_iconst (v := nI 1) hx hb dL_law_182 (by decide) ?_
    refine lv_iadd hx hb dL_law_183 ?_
    refine zz_as (nI (i + 1)) (nI_add _ _) ?_
    refine zz_sld hx hb hX hbl hbA hS (j := i + 1) (by omega) (by omega) dL_law_184 ?_
    refine lv_aload_n hx hb dL_law_185 rfl (lv_at hl 0 rfl) ?_
    refine lv_iload_n hx hb dL_law_186 rfl (lv_at hl 3 rfl) ?_
    refine lv_iconst (v := nI 2) hx hb dL_law_187 (by decide) ?_
    refine lv_iadd hx hb dL_law_188 ?_
    refine zz_as (nI (i + 2)) (nI_add _ _) ?_
    refine zz_sld hx hb hX hbl hbA hS (j := i + 2) (by omega) (by omega) dL_law_189 ?_
    refine zz_callMi (As := [.int (xs (i + 1)), .int (xs (i + 2))]) (rest := [.int (nI 1)]) (wr := [(aR, .inr (0, [.int (nI R), .ref aB, .ref aS, .ref aT, .int (nI (lo % R)), .int (nI (hi - lo)), .int (nI (off hi % R)), .int (nI (off hi - off lo))])), (aB, .inl (cB, R, .inl Bf)), (aS, .inl (cS, R, .inl Sf)), (aT, .inl (cT, R, .inl Tf)), (aX, .inl (cX, 512, .inl Xf)), (aO, .inl (cO, 512, .inl Of)), (mX, .inl (eX, 512, .inl Xm)), (mO, .inl (eO, 512, .inl Om)), (mT, .inl (eT, 16384, .inl Tm)), (mS, .inl (eS, 16384, .inl Sm)), (mB, .inl (eB, 16384, .inl Bm)), (aP, .inr (1, [.ref aR, .ref aX, .int (nI ts), .ref aO, .int (nI os), .int (nI 1), .int (xs (i + 1)), .int (xs (i + 2)), .int (nI 0), .int (nI hi), .int (nI dr), .int (nI de)]))]) ⟨hx, hb, hml, hown, hts⟩ (c_M_begin l dC dI mM mX mO mT mS mB R ts os (hi - lo) (off hi - off lo) hi dr de uw fr to pa ((xs (i + 1))) ((xs (i + 2))) huw (by omega) _) (cwV 2 hts gl_M_begin rfl rfl rfl (by decide +kernel) ⟨Nat.le_of_ble_eq_true rfl, Nat.le_of_ble_eq_true rfl⟩) hP hD hK hS hA [6] [0, 1, 2, 3, 4, 5, 7, 8, 9, 10, 11, 12] [] rfl rfl rfl (by decide) (by decide) (by decide) rfl 0 rfl rfl rfl rfl hl.1 rfl (Nat.le_of_ble_eq_true rfl) dL_law_190 ⟨Nat.le_of_ble_eq_true rfl, Nat.le_of_ble_eq_true rfl⟩ (fun r190 u190 H locs e190 hP hD hS => ?_)
    have hP : va_P (dC, dI) vwCl [(aR, .inr (0, [.int (nI R), .ref aB, .ref aS, .ref aT, .int (nI (lo % R)), .int (nI (hi - lo)), .int (nI (off hi % R)), .int (nI (off hi - off lo))])), (aB, .inl (cB, R, .inl Bf)), (aS, .inl (cS, R, .inl Sf)), (aT, .inl (cT, R, .inl Tf)), (aX, .inl (cX, 512, .inl Xf)), (aO, .inl (cO, 512, .inl Of)), (mX, .inl (eX, 512, .inl Xm)), (mO, .inl (eO, 512, .inl Om)), (mT, .inl (eT, 16384, .inl Tm)), (mS, .inl (eS, 16384, .inl Sm)), (mB, .inl (eB, 16384, .inl Bm)), (aP, .inr (1, [.ref aR, .ref aX, .int (nI ts), .ref aO, .int (nI os), .int (nI 1), .int (xs (i + 1)), .int (xs (i + 2)), .int (nI 0), .int (nI hi), .int (nI dr), .int (nI de)])), (mM, .inr (2, [.int (nI 0), .int (nI R), .ref mX, .int (nI ts), .ref mO, .int (nI os), .int (nI (hi - lo)), .ref mT, .ref mS, .ref mB, .int (nI (off hi - off lo)), .int (nI hi), .int (nI dr), .int (nI de), .int (nI u190.1), .int u190.2.1, .int u190.2.2.1, .int (nI u190.2.2.2)]))] H := hP
    have hD : va_D (fun q : Nat => s.heap.size ≤ q) [(aR, .inr (0, [.int (nI R), .ref aB, .ref aS, .ref aT, .int (nI (lo % R)), .int (nI (hi - lo)), .int (nI (off hi % R)), .int (nI (off hi - off lo))])), (aB, .inl (cB, R, .inl Bf)), (aS, .inl (cS, R, .inl Sf)), (aT, .inl (cT, R, .inl Tf)), (aX, .inl (cX, 512, .inl Xf)), (aO, .inl (cO, 512, .inl Of)), (mX, .inl (eX, 512, .inl Xm)), (mO, .inl (eO, 512, .inl Om)), (mT, .inl (eT, 16384, .inl Tm)), (mS, .inl (eS, 16384, .inl Sm)), (mB, .inl (eB, 16384, .inl Bm)), (aP, .inr (1, [.ref aR, .ref aX, .int (nI ts), .ref aO, .int (nI os), .int (nI 1), .int (xs (i + 1)), .int (xs (i + 2)), .int (nI 0), .int (nI hi), .int (nI dr), .int (nI de)])), (mM, .inr (2, [.int (nI 0), .int (nI R), .ref mX, .int (nI ts), .ref mO, .int (nI os), .int (nI (hi - lo)), .ref mT, .ref mS, .ref mB, .int (nI (off hi - off lo)), .int (nI hi), .int (nI dr), .int (nI de), .int (nI u190.1), .int u190.2.1, .int u190.2.2.1, .int (nI u190.2.2.2)]))] := hD
    obtain ⟨-, z1, z2⟩ := e190.resolve_left (fun z => z.1 hcase)
    subst z1; subst z2
    have hP : va_P (dC, dI) vwCl [(aR, .inr (0, [.int (nI R), .ref aB, .ref aS, .ref aT, .int (nI (lo % R)), .int (nI (hi - lo)), .int (nI (off hi % R)), .int (nI (off hi - off lo))])), (aB, .inl (cB, R, .inl Bf)), (aS, .inl (cS, R, .inl Sf)), (aT, .inl (cT, R, .inl Tf)), (aX, .inl (cX, 512, .inl Xf)), (aO, .inl (cO, 512, .inl Of)), (mX, .inl (eX, 512, .inl Xm)), (mO, .inl (eO, 512, .inl Om)), (mT, .inl (eT, 16384, .inl Tm)), (mS, .inl (eS, 16384, .inl Sm)), (mB, .inl (eB, 16384, .inl Bm)), (aP, .inr (1, [.ref aR, .ref aX, .int (nI ts), .ref aO, .int (nI os), .int (nI 1), .int (xs (i + 1)), .int (xs (i + 2)), .int (nI 0), .int (nI hi), .int (nI dr), .int (nI de)])), (mM, .inr (2, [.int (nI 0), .int (nI R), .ref mX, .int (nI ts), .ref mO, .int (nI os), .int (nI (hi - lo)), .ref mT, .ref mS, .ref mB, .int (nI (off hi - off lo)), .int (nI hi), .int (nI dr), .int (nI de), .int (nI 1), .int (xs (i + 1)), .int (xs (i + 2)), .int (nI (hi - (hi - lo)))]))] H := hP
    have hD : va_D (fun q : Nat => s.heap.size ≤ q) [(aR, .inr (0, [.int (nI R), .ref aB, .ref aS, .ref aT, .int (nI (lo % R)), .int (nI (hi - lo)), .int (nI (off hi % R)), .int (nI (off hi - off lo))])), (aB, .inl (cB, R, .inl Bf)), (aS, .inl (cS, R, .inl Sf)), (aT, .inl (cT, R, .inl Tf)), (aX, .inl (cX, 512, .inl Xf)), (aO, .inl (cO, 512, .inl Of)), (mX, .inl (eX, 512, .inl Xm)), (mO, .inl (eO, 512, .inl Om)), (mT, .inl (eT, 16384, .inl Tm)), (mS, .inl (eS, 16384, .inl Sm)), (mB, .inl (eB, 16384, .inl Bm)), (aP, .inr (1, [.ref aR, .ref aX, .int (nI ts), .ref aO, .int (nI os), .int (nI 1), .int (xs (i + 1)), .int (xs (i + 2)), .int (nI 0), .int (nI hi), .int (nI dr), .int (nI de)])), (mM, .inr (2, [.int (nI 0), .int (nI R), .ref mX, .int (nI ts), .ref mO, .int (nI os), .int (nI (hi - lo)), .ref mT, .ref mS, .ref mB, .int (nI (off hi - off lo)), .int (nI hi), .int (nI dr), .int (nI de), .int (nI 1), .int (xs (i + 1)), .int (xs (i + 2)), .int (nI (hi - (hi - lo)))]))] := hD
    refine lv_icmp_eq (tgt := 346) hx hb dL_law_193 (by decide) (fun c193 => ?_) (fun c193 => ?_)
    · have hP := hP.sub (ws' := [(aP, .inr (1, [.ref aR, .ref aX, .int (nI ts), .ref aO, .int (nI os), .int (nI 1), .int (xs (i + 1)), .int (xs (i + 2)), .int (nI 0), .int (nI hi), .int (nI dr), .int (nI de)])), (aR, .inr (0, [.int (nI R), .ref aB, .ref aS, .ref aT, .int (nI (lo % R)), .int (nI (hi - lo)), .int (nI (off hi % R)), .int (nI (off hi - off lo))])), (aB, .inl (cB, R, .inl Bf)), (aS, .inl (cS, R, .inl Sf)), (aT, .inl (cT, R, .inl Tf)), (aX, .inl (cX, 512, .inl Xf)), (aO, .inl (cO, 512, .inl Of)), (mM, .inr (2, [.int (nI 0), .int (nI R), .ref mX, .int (nI ts), .ref mO, .int (nI os), .int (nI (hi - lo)), .ref mT, .ref mS, .ref mB, .int (nI (off hi - off lo)), .int (nI hi), .int (nI dr), .int (nI de), .int (nI 1), .int (xs (i + 1)), .int (xs (i + 2)), .int (nI (hi - (hi - lo)))])), (mX, .inl (eX, 512, .inl Xm)), (mO, .inl (eO, 512, .inl Om)), (mT, .inl (eT, 16384, .inl Tm)), (mS, .inl (eS, 16384, .inl Sm)), (mB, .inl (eB, 16384, .inl Bm))]) [11, 0, 1, 2, 3, 4, 5, 12, 6, 7, 8, 9, 10] rfl
      have hD := hD.sub (ws' := [(aP, .inr (1, [.ref aR, .ref aX, .int (nI ts), .ref aO, .int (nI os), .int (nI 1), .int (xs (i + 1)), .int (xs (i + 2)), .int (nI 0), .int (nI hi), .int (nI dr), .int (nI de)])), (aR, .inr (0, [.int (nI R), .ref aB, .ref aS, .ref aT, .int (nI (lo % R)), .int (nI (hi - lo)), .int (nI (off hi % R)), .int (nI (off hi - off lo))])), (aB, .inl (cB, R, .inl Bf)), (aS, .inl (cS, R, .inl Sf)), (aT, .inl (cT, R, .inl Tf)), (aX, .inl (cX, 512, .inl Xf)), (aO, .inl (cO, 512, .inl Of)), (mM, .inr (2, [.int (nI 0), .int (nI R), .ref mX, .int (nI ts), .ref mO, .int (nI os), .int (nI (hi - lo)), .ref mT, .ref mS, .ref mB, .int (nI (off hi - off lo)), .int (nI hi), .int (nI dr), .int (nI de), .int (nI 1), .int (xs (i + 1)), .int (xs (i + 2)), .int (nI (hi - (hi - lo)))])), (mX, .inl (eX, 512, .inl Xm)), (mO, .inl (eO, 512, .inl Om)), (mT, .inl (eT, 16384, .inl Tm)), (mS, .inl (eS, 16384, .inl Sm)), (mB, .inl (eB, 16384, .inl Bm))]) [11, 0, 1, 2, 3, 4, 5, 12, 6, 7, 8, 9, 10] (by decide) rfl
      have eo1 : lo - lo = 0 := Nat.sub_self lo
      have eo2 : hi - (hi - lo) = lo := by omega
      rw [eo2] at hP hD
      have hP : va_P (dC, dI) vwCl [(aP, .inr (1, [.ref aR, .ref aX, .int (nI ts), .ref aO, .int (nI os), .int (nI 1), .int (xs (i + 1)), .int (xs (i + 2)), .int (nI (lo - lo)), .int (nI hi), .int (nI dr), .int (nI de)])), (aR, .inr (0, [.int (nI R), .ref aB, .ref aS, .ref aT, .int (nI (lo % R)), .int (nI (hi - lo)), .int (nI (off hi % R)), .int (nI (off hi - off lo))])), (aB, .inl (cB, R, .inl Bf)), (aS, .inl (cS, R, .inl Sf)), (aT, .inl (cT, R, .inl Tf)), (aX, .inl (cX, 512, .inl Xf)), (aO, .inl (cO, 512, .inl Of)), (mM, .inr (2, [.int (nI 0), .int (nI R), .ref mX, .int (nI ts), .ref mO, .int (nI os), .int (nI (hi - lo)), .ref mT, .ref mS, .ref mB, .int (nI (off hi - off lo)), .int (nI hi), .int (nI dr), .int (nI de), .int (nI 1), .int (xs (i + 1)), .int (xs (i + 2)), .int (nI lo)])), (mX, .inl (eX, 512, .inl Xm)), (mO, .inl (eO, 512, .inl Om)), (mT, .inl (eT, 16384, .inl Tm)), (mS, .inl (eS, 16384, .inl Sm)), (mB, .inl (eB, 16384, .inl Bm))] H := by rw [eo1]; exact hP
      have hD : va_D (fun q : Nat => s.heap.size ≤ q) [(aP, .inr (1, [.ref aR, .ref aX, .int (nI ts), .ref aO, .int (nI os), .int (nI 1), .int (xs (i + 1)), .int (xs (i + 2)), .int (nI (lo - lo)), .int (nI hi), .int (nI dr), .int (nI de)])), (aR, .inr (0, [.int (nI R), .ref aB, .ref aS, .ref aT, .int (nI (lo % R)), .int (nI (hi - lo)), .int (nI (off hi % R)), .int (nI (off hi - off lo))])), (aB, .inl (cB, R, .inl Bf)), (aS, .inl (cS, R, .inl Sf)), (aT, .inl (cT, R, .inl Tf)), (aX, .inl (cX, 512, .inl Xf)), (aO, .inl (cO, 512, .inl Of)), (mM, .inr (2, [.int (nI 0), .int (nI R), .ref mX, .int (nI ts), .ref mO, .int (nI os), .int (nI (hi - lo)), .ref mT, .ref mS, .ref mB, .int (nI (off hi - off lo)), .int (nI hi), .int (nI dr), .int (nI de), .int (nI 1), .int (xs (i + 1)), .int (xs (i + 2)), .int (nI lo)])), (mX, .inl (eX, 512, .inl Xm)), (mO, .inl (eO, 512, .inl Om)), (mT, .inl (eT, 16384, .inl Tm)), (mS, .inl (eS, 16384, .inl Sm)), (mB, .inl (eB, 16384, .inl Bm))] := by rw [eo1]; exact hD
      exact K _ _ _ ⟨lo, hi, off, ts, os, 1, (xs (i + 1)), (xs (i + 2)), lo, dr, de, tm, bz, tz, oz, Bf, Sf, Tf, Xf, Of, Bm, Sm, Tm, Xm, Om, ⟨hok, hrep, hrm, h512, ⟨hll, by omega⟩, ⟨hts5, htX, htM⟩, ⟨hos5, hoX, hoM⟩, Nat.le_refl 1⟩, hP, hD, hS, lv_sub hl [0, 1, 2, 3] rfl⟩
    · exact absurd rfl c193
set_option maxHeartbeats 8000000 in
set_option maxRecDepth 100000 in
theorem law_next {p : Program} {l : Launch} {e : Env} {s : State} {m : MethodId} {below : List Frame} {meth : Method} {c : Code} {dC : Nat → ClassId} {dI : Nat → Nat → Nat} {b L : Nat} {xs : Nat → Int32} (hL : L ≤ 1537) (C0 : lw_At p s m meth c b L xs) {aP aR aB aS aT aX aO mM mX mO mT mS mB : Nat} {cB cS cT cX cO eX eO eT eS eB : ClassId} {R i : Nat} (hK : va_K (dC, dI) vwCl [(cB, .byte), (cS, .int), (cT, .int), (cX, .byte), (cO, .byte), (eX, .byte), (eO, .byte), (eT, .int), (eS, .int), (eB, .byte)] s) (hi3 : i + 3 ≤ L) (K : ∀ (H : Heap) (locs : List Loc) (ls : Array Slot), LI dC dI s b aP aR aB aS aT aX aO mM mX mO mT mS mB cB cS cT cX cO eX eO eT eS eB R (i + 1) i H locs ls → W p l e room_1 s m #[Value.ref b] below meth c H locs 13 100390 (lw_Z below #[Value.ref b] s) (F0 m 346 ls [])) {H : Heap} {locs : List Loc} {ls : Array Slot} (h : LI dC dI s b aP aR aB aS aT aX aO mM mX mO mT mS mB cB cS cT cX cO eX eO eT eS eB R i i H locs ls) : W p l e room_1 s m #[Value.ref b] below meth c H locs 13 100390 (lw_Z below #[Value.ref b] s) (F0 m 211 ls []) := by
  obtain ⟨hx, hb, hr, hml, hown, hts, hX, hbl, hlocks, hgv⟩ := id C0
  have hA : ∀ q : Nat, s.heap.size ≤ q → (fun q : Nat => s.heap.size ≤ q) q := fun _ h => h
  have hbA : ¬ (fun q : Nat => s.heap.size ≤ q) b := Nat.not_le.mpr hbl
  have hown : s.vm.findClass RL = some m.cls := hown
  obtain ⟨lo, hi, off, ts, os, uw, fr, to, pa, dr, de, tm, bz, tz, oz, Bf, Sf, Tf, Xf, Of, Bm, Sm, Tm, Xm, Om, hinv, hP, hD, hS, hl⟩ := h
  obtain ⟨hok, hrep, hrm, h512, ⟨hpa, hcb⟩, ⟨hts5, htX, htM⟩, ⟨hos5, hoX, hoM⟩, huw⟩ := id hinv
  have hll := hok.2.1
  have hRR := hok.1
  rcases (show uw = 1 ∨ uw = 0 by omega) with hcase | hcase
  · subst hcase
    refine lv_aload_n hx hb dL_law_211 rfl (lv_at hl 1 rfl) ?_
    refine lv_aload_n hx hb dL_law_212 rfl (lv_at hl 0 rfl) ?_
    refine lv_iload_n hx hb dL_law_213 rfl (lv_at hl 3 rfl) ?_
    refine lv_iconst (v := nI 1) hx hb dL_law_214 (by decide) ?_
    refine lv_iadd hx hb dL_law_215 ?_
    refine zz_as (nI (i + 1)) (nI_add _ _) ?_
    refine zz_sld hx hb hX hbl hbA hS (j := i + 1) (by omega) (by omega) dL_law_216 ?_
    refine zz_callMi (As := [.int (xs (i + 1))]) (rest := []) (wr := [(aX, .inl (cX, 512, .inl Xf)), (mM, .inr (2, [.int (nI 0), .int (nI R), .ref mX, .int (nI ts), .ref mO, .int (nI os), .int (nI (hi - lo)), .ref mT, .ref mS, .ref mB, .int (nI (off hi - off lo)), .int (nI hi), .int (nI dr), .int (nI de), .int (nI 1), .int fr, .int to, .int (nI pa)])), (mX, .inl (eX, 512, .inl Xm)), (mO, .inl (eO, 512, .inl Om)), (mT, .inl (eT, 16384, .inl Tm)), (mS, .inl (eS, 16384, .inl Sm)), (mB, .inl (eB, 16384, .inl Bm))]) ⟨hx, hb, hml, hown, hts⟩ (c_P_next l dC dI aP aR aB aS aT aX aO R lo hi off ts os fr to pa hi dr de cB cS cT cO Bf Sf Tf Of tm bz ((xs (i + 1))) hok hrep hpa h512 _) (cwV 1 hts gl_X1_next rfl rfl rfl (by decide +kernel) ⟨Nat.le_of_ble_eq_true rfl, Nat.le_of_ble_eq_true rfl⟩) hP hD hK hS hA [0, 1, 2, 3, 4, 6] [5, 7, 8, 9, 10, 11, 12] [0, 1, 2, 4] rfl rfl rfl (by decide) (by decide) (by decide) rfl 0 rfl rfl rfl rfl hl.1 rfl (Nat.le_of_ble_eq_true rfl) dL_law_217 ⟨Nat.le_of_ble_eq_true rfl, Nat.le_of_ble_eq_true rfl⟩ (fun r217 u217 H locs e217 hP hD hS => ?_)
    have hP : va_P (dC, dI) vwCl [(aX, .inl (cX, 512, .inl Xf)), (mM, .inr (2, [.int (nI 0), .int (nI R), .ref mX, .int (nI ts), .ref mO, .int (nI os), .int (nI (hi - lo)), .ref mT, .ref mS, .ref mB, .int (nI (off hi - off lo)), .int (nI hi), .int (nI dr), .int (nI de), .int (nI 1), .int fr, .int to, .int (nI pa)])), (mX, .inl (eX, 512, .inl Xm)), (mO, .inl (eO, 512, .inl Om)), (mT, .inl (eT, 16384, .inl Tm)), (mS, .inl (eS, 16384, .inl Sm)), (mB, .inl (eB, 16384, .inl Bm)), (aP, .inr (1, [.ref aR, .ref aX, .int (nI ts), .ref aO, .int (nI u217.2.2.1), .int (nI u217.2.1), .int fr, .int to, .int (nI u217.1), .int (nI hi), .int (nI dr), .int (nI de)])), (aR, .inr (0, [.int (nI R), .ref aB, .ref aS, .ref aT, .int (nI (lo % R)), .int (nI (hi - lo)), .int (nI (off hi % R)), .int (nI (off hi - off lo))])), (aB, .inl (cB, R, .inl Bf)), (aS, .inl (cS, R, .inl Sf)), (aT, .inl (cT, R, .inl Tf)), (aO, .inl (cO, 512, .inl u217.2.2.2))] H := hP
    have hD : va_D (fun q : Nat => s.heap.size ≤ q) [(aX, .inl (cX, 512, .inl Xf)), (mM, .inr (2, [.int (nI 0), .int (nI R), .ref mX, .int (nI ts), .ref mO, .int (nI os), .int (nI (hi - lo)), .ref mT, .ref mS, .ref mB, .int (nI (off hi - off lo)), .int (nI hi), .int (nI dr), .int (nI de), .int (nI 1), .int fr, .int to, .int (nI pa)])), (mX, .inl (eX, 512, .inl Xm)), (mO, .inl (eO, 512, .inl Om)), (mT, .inl (eT, 16384, .inl Tm)), (mS, .inl (eS, 16384, .inl Sm)), (mB, .inl (eB, 16384, .inl Bm)), (aP, .inr (1, [.ref aR, .ref aX, .int (nI ts), .ref aO, .int (nI u217.2.2.1), .int (nI u217.2.1), .int fr, .int to, .int (nI u217.1), .int (nI hi), .int (nI dr), .int (nI de)])), (aR, .inr (0, [.int (nI R), .ref aB, .ref aS, .ref aT, .int (nI (lo % R)), .int (nI (hi - lo)), .int (nI (off hi % R)), .int (nI (off hi - off lo))])), (aB, .inl (cB, R, .inl Bf)), (aS, .inl (cS, R, .inl Sf)), (aT, .inl (cT, R, .inl Tf)), (aO, .inl (cO, 512, .inl u217.2.2.2))] := hD
    refine lv_aload_n hx hb dL_law_220 rfl (lv_at hl 2 rfl) ?_
    refine lv_aload_n hx hb dL_law_221 rfl (lv_at hl 0 rfl) ?_
    refine lv_iload_n hx hb dL_law_222 rfl (lv_at hl 3 rfl) ?_
    refine lv_iconst (v := nI 1) hx hb dL_law_223 (by decide) ?_
    refine lv_iadd hx hb dL_law_224 ?_
    refine zz_as (nI (i + 1)) (nI_add _ _) ?_
    refine zz_sld hx hb hX hbl hbA hS (j := i + 1) (by omega) (by omega) dL_law_225 ?_
    refine zz_callMi (As := [.int (xs (i + 1))]) (rest := [.int r217]) (wr := [(aX, .inl (cX, 512, .inl Xf)), (mX, .inl (eX, 512, .inl Xm)), (aP, .inr (1, [.ref aR, .ref aX, .int (nI ts), .ref aO, .int (nI u217.2.2.1), .int (nI u217.2.1), .int fr, .int to, .int (nI u217.1), .int (nI hi), .int (nI dr), .int (nI de)])), (aR, .inr (0, [.int (nI R), .ref aB, .ref aS, .ref aT, .int (nI (lo % R)), .int (nI (hi - lo)), .int (nI (off hi % R)), .int (nI (off hi - off lo))])), (aB, .inl (cB, R, .inl Bf)), (aS, .inl (cS, R, .inl Sf)), (aT, .inl (cT, R, .inl Tf)), (aO, .inl (cO, 512, .inl u217.2.2.2))]) ⟨hx, hb, hml, hown, hts⟩ (c_M_next l dC dI mM mX mO mT mS mB R lo hi off ts os dr de fr to pa eO eT eS eB Om Tm Sm Bm tm bz ((xs (i + 1))) hok hrm hpa (by omega) h512 _) (cwV 1 hts gl_M_next rfl rfl rfl (by decide +kernel) ⟨Nat.le_of_ble_eq_true rfl, Nat.le_of_ble_eq_true rfl⟩) hP hD hK hS hA [1, 3, 4, 5, 6] [0, 2, 7, 8, 9, 10, 11, 12] [6, 7, 8, 9] rfl rfl rfl (by decide) (by decide) (by decide) rfl 0 rfl rfl rfl rfl hl.1 rfl (Nat.le_of_ble_eq_true rfl) dL_law_226 ⟨Nat.le_of_ble_eq_true rfl, Nat.le_of_ble_eq_true rfl⟩ (fun r226 u226 H locs e226 hP hD hS => ?_)
    have hP : va_P (dC, dI) vwCl [(aX, .inl (cX, 512, .inl Xf)), (mX, .inl (eX, 512, .inl Xm)), (aP, .inr (1, [.ref aR, .ref aX, .int (nI ts), .ref aO, .int (nI u217.2.2.1), .int (nI u217.2.1), .int fr, .int to, .int (nI u217.1), .int (nI hi), .int (nI dr), .int (nI de)])), (aR, .inr (0, [.int (nI R), .ref aB, .ref aS, .ref aT, .int (nI (lo % R)), .int (nI (hi - lo)), .int (nI (off hi % R)), .int (nI (off hi - off lo))])), (aB, .inl (cB, R, .inl Bf)), (aS, .inl (cS, R, .inl Sf)), (aT, .inl (cT, R, .inl Tf)), (aO, .inl (cO, 512, .inl u217.2.2.2)), (mM, .inr (2, [.int (nI 0), .int (nI R), .ref mX, .int (nI ts), .ref mO, .int (nI u226.2.2.1), .int (nI (hi - lo)), .ref mT, .ref mS, .ref mB, .int (nI (off hi - off lo)), .int (nI hi), .int (nI dr), .int (nI de), .int (nI u226.2.1), .int fr, .int to, .int (nI (lo + u226.1))])), (mO, .inl (eO, 512, .inl u226.2.2.2)), (mT, .inl (eT, 16384, .inl Tm)), (mS, .inl (eS, 16384, .inl Sm)), (mB, .inl (eB, 16384, .inl Bm))] H := hP
    have hD : va_D (fun q : Nat => s.heap.size ≤ q) [(aX, .inl (cX, 512, .inl Xf)), (mX, .inl (eX, 512, .inl Xm)), (aP, .inr (1, [.ref aR, .ref aX, .int (nI ts), .ref aO, .int (nI u217.2.2.1), .int (nI u217.2.1), .int fr, .int to, .int (nI u217.1), .int (nI hi), .int (nI dr), .int (nI de)])), (aR, .inr (0, [.int (nI R), .ref aB, .ref aS, .ref aT, .int (nI (lo % R)), .int (nI (hi - lo)), .int (nI (off hi % R)), .int (nI (off hi - off lo))])), (aB, .inl (cB, R, .inl Bf)), (aS, .inl (cS, R, .inl Sf)), (aT, .inl (cT, R, .inl Tf)), (aO, .inl (cO, 512, .inl u217.2.2.2)), (mM, .inr (2, [.int (nI 0), .int (nI R), .ref mX, .int (nI ts), .ref mO, .int (nI u226.2.2.1), .int (nI (hi - lo)), .ref mT, .ref mS, .ref mB, .int (nI (off hi - off lo)), .int (nI hi), .int (nI dr), .int (nI de), .int (nI u226.2.1), .int fr, .int to, .int (nI (lo + u226.1))])), (mO, .inl (eO, 512, .inl u226.2.2.2)), (mT, .inl (eT, 16384, .inl Tm)), (mS, .inl (eS, 16384, .inl Sm)), (mB, .inl (eB, 16384, .inl Bm))] := hD
    obtain ⟨n1, n2, n3, n4, n5, n6, oz2, n7, n8, n9⟩ := md_next_both (u := u217) (u' := u226) (r := r217) (r' := r226) e217 e226 ⟨hos5, hoX, hoM⟩ h512
    refine lv_icmp_eq (tgt := 346) hx hb dL_law_229 (by decide) (fun c229 => ?_) (fun c229 => ?_)
    · have hP := hP.sub (ws' := [(aP, .inr (1, [.ref aR, .ref aX, .int (nI ts), .ref aO, .int (nI u217.2.2.1), .int (nI u217.2.1), .int fr, .int to, .int (nI u217.1), .int (nI hi), .int (nI dr), .int (nI de)])), (aR, .inr (0, [.int (nI R), .ref aB, .ref aS, .ref aT, .int (nI (lo % R)), .int (nI (hi - lo)), .int (nI (off hi % R)), .int (nI (off hi - off lo))])), (aB, .inl (cB, R, .inl Bf)), (aS, .inl (cS, R, .inl Sf)), (aT, .inl (cT, R, .inl Tf)), (aX, .inl (cX, 512, .inl Xf)), (aO, .inl (cO, 512, .inl u217.2.2.2)), (mM, .inr (2, [.int (nI 0), .int (nI R), .ref mX, .int (nI ts), .ref mO, .int (nI u226.2.2.1), .int (nI (hi - lo)), .ref mT, .ref mS, .ref mB, .int (nI (off hi - off lo)), .int (nI hi), .int (nI dr), .int (nI de), .int (nI u226.2.1), .int fr, .int to, .int (nI (lo + u226.1))])), (mX, .inl (eX, 512, .inl Xm)), (mO, .inl (eO, 512, .inl u226.2.2.2)), (mT, .inl (eT, 16384, .inl Tm)), (mS, .inl (eS, 16384, .inl Sm)), (mB, .inl (eB, 16384, .inl Bm))]) [2, 3, 4, 5, 6, 0, 7, 8, 1, 9, 10, 11, 12] rfl
      have hD := hD.sub (ws' := [(aP, .inr (1, [.ref aR, .ref aX, .int (nI ts), .ref aO, .int (nI u217.2.2.1), .int (nI u217.2.1), .int fr, .int to, .int (nI u217.1), .int (nI hi), .int (nI dr), .int (nI de)])), (aR, .inr (0, [.int (nI R), .ref aB, .ref aS, .ref aT, .int (nI (lo % R)), .int (nI (hi - lo)), .int (nI (off hi % R)), .int (nI (off hi - off lo))])), (aB, .inl (cB, R, .inl Bf)), (aS, .inl (cS, R, .inl Sf)), (aT, .inl (cT, R, .inl Tf)), (aX, .inl (cX, 512, .inl Xf)), (aO, .inl (cO, 512, .inl u217.2.2.2)), (mM, .inr (2, [.int (nI 0), .int (nI R), .ref mX, .int (nI ts), .ref mO, .int (nI u226.2.2.1), .int (nI (hi - lo)), .ref mT, .ref mS, .ref mB, .int (nI (off hi - off lo)), .int (nI hi), .int (nI dr), .int (nI de), .int (nI u226.2.1), .int fr, .int to, .int (nI (lo + u226.1))])), (mX, .inl (eX, 512, .inl Xm)), (mO, .inl (eO, 512, .inl u226.2.2.2)), (mT, .inl (eT, 16384, .inl Tm)), (mS, .inl (eS, 16384, .inl Sm)), (mB, .inl (eB, 16384, .inl Bm))]) [2, 3, 4, 5, 6, 0, 7, 8, 1, 9, 10, 11, 12] (by decide) rfl
      rw [← n2, ← n3, ← n4] at hP hD
      have eo1 : lo + u217.1 - lo = u217.1 := Nat.add_sub_cancel_left _ _
      have hP : va_P (dC, dI) vwCl [(aP, .inr (1, [.ref aR, .ref aX, .int (nI ts), .ref aO, .int (nI u217.2.2.1), .int (nI u217.2.1), .int fr, .int to, .int (nI ((lo + u217.1) - lo)), .int (nI hi), .int (nI dr), .int (nI de)])), (aR, .inr (0, [.int (nI R), .ref aB, .ref aS, .ref aT, .int (nI (lo % R)), .int (nI (hi - lo)), .int (nI (off hi % R)), .int (nI (off hi - off lo))])), (aB, .inl (cB, R, .inl Bf)), (aS, .inl (cS, R, .inl Sf)), (aT, .inl (cT, R, .inl Tf)), (aX, .inl (cX, 512, .inl Xf)), (aO, .inl (cO, 512, .inl u217.2.2.2)), (mM, .inr (2, [.int (nI 0), .int (nI R), .ref mX, .int (nI ts), .ref mO, .int (nI u217.2.2.1), .int (nI (hi - lo)), .ref mT, .ref mS, .ref mB, .int (nI (off hi - off lo)), .int (nI hi), .int (nI dr), .int (nI de), .int (nI u217.2.1), .int fr, .int to, .int (nI ((lo + u217.1)))])), (mX, .inl (eX, 512, .inl Xm)), (mO, .inl (eO, 512, .inl u226.2.2.2)), (mT, .inl (eT, 16384, .inl Tm)), (mS, .inl (eS, 16384, .inl Sm)), (mB, .inl (eB, 16384, .inl Bm))] H := by rw [eo1]; exact hP
      have hD : va_D (fun q : Nat => s.heap.size ≤ q) [(aP, .inr (1, [.ref aR, .ref aX, .int (nI ts), .ref aO, .int (nI u217.2.2.1), .int (nI u217.2.1), .int fr, .int to, .int (nI ((lo + u217.1) - lo)), .int (nI hi), .int (nI dr), .int (nI de)])), (aR, .inr (0, [.int (nI R), .ref aB, .ref aS, .ref aT, .int (nI (lo % R)), .int (nI (hi - lo)), .int (nI (off hi % R)), .int (nI (off hi - off lo))])), (aB, .inl (cB, R, .inl Bf)), (aS, .inl (cS, R, .inl Sf)), (aT, .inl (cT, R, .inl Tf)), (aX, .inl (cX, 512, .inl Xf)), (aO, .inl (cO, 512, .inl u217.2.2.2)), (mM, .inr (2, [.int (nI 0), .int (nI R), .ref mX, .int (nI ts), .ref mO, .int (nI u217.2.2.1), .int (nI (hi - lo)), .ref mT, .ref mS, .ref mB, .int (nI (off hi - off lo)), .int (nI hi), .int (nI dr), .int (nI de), .int (nI u217.2.1), .int fr, .int to, .int (nI ((lo + u217.1)))])), (mX, .inl (eX, 512, .inl Xm)), (mO, .inl (eO, 512, .inl u226.2.2.2)), (mT, .inl (eT, 16384, .inl Tm)), (mS, .inl (eS, 16384, .inl Sm)), (mB, .inl (eB, 16384, .inl Bm))] := by rw [eo1]; exact hD
      exact K _ _ _ ⟨lo, hi, off, ts, u217.2.2.1, u217.2.1, fr, to, lo + u217.1, dr, de, tm, bz, tz, oz2, Bf, Sf, Tf, Xf, u217.2.2.2, Bm, Sm, Tm, Xm, u226.2.2.2, ⟨hok, hrep, hrm, h512, ⟨by omega, by omega⟩, ⟨hts5, htX, htM⟩, ⟨n7, n8, n9⟩, n6⟩, hP, hD, hS, lv_sub hl [0, 1, 2, 3] rfl⟩
    · exact absurd n1 c229
  · refine lv_aload_n hx hb dL_law_211 rfl (lv_at hl 1 rfl) ?_
    refine lv_aload_n hx hb dL_law_212 rfl (lv_at hl 0 rfl) ?_
    refine lv_iload_n hx hb dL_law_213 rfl (lv_at hl 3 rfl) ?_
    refine lv_iconst (v := nI 1) hx hb dL_law_214 (by decide) ?_
    refine lv_iadd hx hb dL_law_215 ?_
    refine zz_as (nI (i + 1)) (nI_add _ _) ?_
    refine zz_sld hx hb hX hbl hbA hS (j := i + 1) (by omega) (by omega) dL_law_216 ?_
    refine zz_callR (As := [.int (xs (i + 1))]) (rest := []) ⟨hx, hb, hml, hown, hts⟩ (c_P_next_none l dC dI aP aR aX aO ts os uw fr to (pa - lo) hi dr de ((xs (i + 1))) hcase) (cwV 1 hts gl_X1_next rfl rfl rfl (by decide +kernel) ⟨Nat.le_of_ble_eq_true rfl, Nat.le_of_ble_eq_true rfl⟩) (hP.sub [0] rfl) (hK.sub [] rfl) 0 rfl rfl rfl rfl hl.1 rfl (Nat.le_of_ble_eq_true rfl) dL_law_217 ⟨Nat.le_of_ble_eq_true rfl, Nat.le_of_ble_eq_true rfl⟩ (fun r217 e217 => ?_)
    subst e217
    refine lv_aload_n hx hb dL_law_220 rfl (lv_at hl 2 rfl) ?_
    refine lv_aload_n hx hb dL_law_221 rfl (lv_at hl 0 rfl) ?_
    refine lv_iload_n hx hb dL_law_222 rfl (lv_at hl 3 rfl) ?_
    refine lv_iconst (v := nI 1) hx hb dL_law_223 (by decide) ?_
    refine lv_iadd hx hb dL_law_224 ?_
    refine zz_as (nI (i + 1)) (nI_add _ _) ?_
    refine zz_sld hx hb hX hbl hbA hS (j := i + 1) (by omega) (by omega) dL_law_225 ?_
    refine zz_callMi (As := [.int (xs (i + 1))]) (rest := [.int (-1)]) (wr := [(aP, .inr (1, [.ref aR, .ref aX, .int (nI ts), .ref aO, .int (nI os), .int (nI uw), .int fr, .int to, .int (nI (pa - lo)), .int (nI hi), .int (nI dr), .int (nI de)])), (aR, .inr (0, [.int (nI R), .ref aB, .ref aS, .ref aT, .int (nI (lo % R)), .int (nI (hi - lo)), .int (nI (off hi % R)), .int (nI (off hi - off lo))])), (aB, .inl (cB, R, .inl Bf)), (aS, .inl (cS, R, .inl Sf)), (aT, .inl (cT, R, .inl Tf)), (aX, .inl (cX, 512, .inl Xf)), (aO, .inl (cO, 512, .inl Of)), (mX, .inl (eX, 512, .inl Xm)), (mO, .inl (eO, 512, .inl Om)), (mT, .inl (eT, 16384, .inl Tm)), (mS, .inl (eS, 16384, .inl Sm)), (mB, .inl (eB, 16384, .inl Bm))]) ⟨hx, hb, hml, hown, hts⟩ (c_M_next_none l dC dI mM mX mO mT mS mB R ts os (hi - lo) (off hi - off lo) hi dr de uw fr to pa ((xs (i + 1))) hcase _) (cwV 1 hts gl_M_next rfl rfl rfl (by decide +kernel) ⟨Nat.le_of_ble_eq_true rfl, Nat.le_of_ble_eq_true rfl⟩) hP hD hK hS hA [7] [0, 1, 2, 3, 4, 5, 6, 8, 9, 10, 11, 12] [] rfl rfl rfl (by decide) (by decide) (by decide) rfl 0 rfl rfl rfl rfl hl.1 rfl (Nat.le_of_ble_eq_true rfl) dL_law_226 ⟨Nat.le_of_ble_eq_true rfl, Nat.le_of_ble_eq_true rfl⟩ (fun r226 u226 H locs e226 hP hD hS => ?_)
    have hP : va_P (dC, dI) vwCl [(aP, .inr (1, [.ref aR, .ref aX, .int (nI ts), .ref aO, .int (nI os), .int (nI uw), .int fr, .int to, .int (nI (pa - lo)), .int (nI hi), .int (nI dr), .int (nI de)])), (aR, .inr (0, [.int (nI R), .ref aB, .ref aS, .ref aT, .int (nI (lo % R)), .int (nI (hi - lo)), .int (nI (off hi % R)), .int (nI (off hi - off lo))])), (aB, .inl (cB, R, .inl Bf)), (aS, .inl (cS, R, .inl Sf)), (aT, .inl (cT, R, .inl Tf)), (aX, .inl (cX, 512, .inl Xf)), (aO, .inl (cO, 512, .inl Of)), (mX, .inl (eX, 512, .inl Xm)), (mO, .inl (eO, 512, .inl Om)), (mT, .inl (eT, 16384, .inl Tm)), (mS, .inl (eS, 16384, .inl Sm)), (mB, .inl (eB, 16384, .inl Bm)), (mM, .inr (2, [.int (nI 0), .int (nI R), .ref mX, .int (nI ts), .ref mO, .int (nI os), .int (nI (hi - lo)), .ref mT, .ref mS, .ref mB, .int (nI (off hi - off lo)), .int (nI hi), .int (nI dr), .int (nI de), .int (nI uw), .int fr, .int to, .int (nI pa)]))] H := hP
    have hD : va_D (fun q : Nat => s.heap.size ≤ q) [(aP, .inr (1, [.ref aR, .ref aX, .int (nI ts), .ref aO, .int (nI os), .int (nI uw), .int fr, .int to, .int (nI (pa - lo)), .int (nI hi), .int (nI dr), .int (nI de)])), (aR, .inr (0, [.int (nI R), .ref aB, .ref aS, .ref aT, .int (nI (lo % R)), .int (nI (hi - lo)), .int (nI (off hi % R)), .int (nI (off hi - off lo))])), (aB, .inl (cB, R, .inl Bf)), (aS, .inl (cS, R, .inl Sf)), (aT, .inl (cT, R, .inl Tf)), (aX, .inl (cX, 512, .inl Xf)), (aO, .inl (cO, 512, .inl Of)), (mX, .inl (eX, 512, .inl Xm)), (mO, .inl (eO, 512, .inl Om)), (mT, .inl (eT, 16384, .inl Tm)), (mS, .inl (eS, 16384, .inl Sm)), (mB, .inl (eB, 16384, .inl Bm)), (mM, .inr (2, [.int (nI 0), .int (nI R), .ref mX, .int (nI ts), .ref mO, .int (nI os), .int (nI (hi - lo)), .ref mT, .ref mS, .ref mB, .int (nI (off hi - off lo)), .int (nI hi), .int (nI dr), .int (nI de), .int (nI uw), .int fr, .int to, .int (nI pa)]))] := hD
    subst e226
    refine lv_icmp_eq (tgt := 346) hx hb dL_law_229 (by decide) (fun c229 => ?_) (fun c229 => ?_)
    · have hP := hP.sub (ws' := [(aP, .inr (1, [.ref aR, .ref aX, .int (nI ts), .ref aO, .int (nI os), .int (nI uw), .int fr, .int to, .int (nI (pa - lo)), .int (nI hi), .int (nI dr), .int (nI de)])), (aR, .inr (0, [.int (nI R), .ref aB, .ref aS, .ref aT, .int (nI (lo % R)), .int (nI (hi - lo)), .int (nI (off hi % R)), .int (nI (off hi - off lo))])), (aB, .inl (cB, R, .inl Bf)), (aS, .inl (cS, R, .inl Sf)), (aT, .inl (cT, R, .inl Tf)), (aX, .inl (cX, 512, .inl Xf)), (aO, .inl (cO, 512, .inl Of)), (mM, .inr (2, [.int (nI 0), .int (nI R), .ref mX, .int (nI ts), .ref mO, .int (nI os), .int (nI (hi - lo)), .ref mT, .ref mS, .ref mB, .int (nI (off hi - off lo)), .int (nI hi), .int (nI dr), .int (nI de), .int (nI uw), .int fr, .int to, .int (nI pa)])), (mX, .inl (eX, 512, .inl Xm)), (mO, .inl (eO, 512, .inl Om)), (mT, .inl (eT, 16384, .inl Tm)), (mS, .inl (eS, 16384, .inl Sm)), (mB, .inl (eB, 16384, .inl Bm))]) [0, 1, 2, 3, 4, 5, 6, 12, 7, 8, 9, 10, 11] rfl
      have hD := hD.sub (ws' := [(aP, .inr (1, [.ref aR, .ref aX, .int (nI ts), .ref aO, .int (nI os), .int (nI uw), .int fr, .int to, .int (nI (pa - lo)), .int (nI hi), .int (nI dr), .int (nI de)])), (aR, .inr (0, [.int (nI R), .ref aB, .ref aS, .ref aT, .int (nI (lo % R)), .int (nI (hi - lo)), .int (nI (off hi % R)), .int (nI (off hi - off lo))])), (aB, .inl (cB, R, .inl Bf)), (aS, .inl (cS, R, .inl Sf)), (aT, .inl (cT, R, .inl Tf)), (aX, .inl (cX, 512, .inl Xf)), (aO, .inl (cO, 512, .inl Of)), (mM, .inr (2, [.int (nI 0), .int (nI R), .ref mX, .int (nI ts), .ref mO, .int (nI os), .int (nI (hi - lo)), .ref mT, .ref mS, .ref mB, .int (nI (off hi - off lo)), .int (nI hi), .int (nI dr), .int (nI de), .int (nI uw), .int fr, .int to, .int (nI pa)])), (mX, .inl (eX, 512, .inl Xm)), (mO, .inl (eO, 512, .inl Om)), (mT, .inl (eT, 16384, .inl Tm)), (mS, .inl (eS, 16384, .inl Sm)), (mB, .inl (eB, 16384, .inl Bm))]) [0, 1, 2, 3, 4, 5, 6, 12, 7, 8, 9, 10, 11] (by decide) rfl
      exact K _ _ _ ⟨lo, hi, off, ts, os, uw, fr, to, pa, dr, de, tm, bz, tz, oz, Bf, Sf, Tf, Xf, Of, Bm, Sm, Tm, Xm, Om, ⟨hok, hrep, hrm, h512, ⟨hpa, by omega⟩, ⟨hts5, htX, htM⟩, ⟨hos5, hoX, hoM⟩, huw⟩, hP, hD, hS, lv_sub hl [0, 1, 2, 3] rfl⟩
    · exact absurd rfl c229
end
section
set_option maxHeartbeats 4000000 in
set_option maxRecDepth 100000 in
/-- cell(s, 0): the script's first int, or 0 -/
theorem c_L_cell (l : Launch) (b L : Nat) (xs : Nat → Int32) (hL : L < 2 ^ 31) : Met l yL_cell wsL_cell ({ frames := 0, cells := 0, slots := 0, locals := 0 }) (va_Pc [.ref b, .int (nI 0)] (fun U => va_X b L xs U U.heap)) (vp_Si (fun r => r = if 0 < L then xs 0 else nI 0)) 0 0 (fun _ => False) := by
  refine Met.ofW (cc := cL_cell) (maxL := 2) (ret := (some .int)) (by decide) rfl ?_
  intro p e s m args below meth c s₁ B hml hv
  obtain ⟨rfl, hX⟩ := hv
  have hx := B.exec
  have hb := B.bytes
  have hr := B.returns
  have hlocks := B.notSynchronized
  have hbl : b < s.heap.size := by
    obtain ⟨scr, h1, -⟩ := hX
    exact (Array.getElem?_eq_some_iff.mp h1).1
  have hbA : ¬ (fun _ : Nat => False) b := id
  have hS : va_S (fun _ : Nat => False) s.heap s.heap [] := va_S.rf
  have hl := lv_entry ([.ref b, .int (nI 0)]) (n := 2) (Nat.le_of_ble_eq_true rfl)
  rw [lg_entry_eq]
  generalize (lg_sl ([.ref b, .int (nI 0)]) ++ List.replicate (2 - (lg_sl ([.ref b, .int (nI 0)])).length) Slot.unset).toArray = ls at hl ⊢
  have hl : lv_has ls 2 [(0, .ref b), (1, .int (nI 0))] := hl
  refine lv_iload_n hx hb dL_cell_0 rfl (lv_at hl 1 rfl) ?_
  refine lv_aload_n hx hb dL_cell_1 rfl (lv_at hl 0 rfl) ?_
  refine va_slen hx hb hX hbl hbA hS dL_cell_2 ?_
  refine zz_as (nI L) rfl ?_
  refine zz_icmp_ge (a := 0) (b := L) (tgt := 12) hx hb dL_cell_3 (by decide) (by decide) hL (fun c3 => ?_) (fun c3 => ?_)
  · refine lv_iconst (v := nI 0) hx hb dL_cell_12 (by decide) ?_
    exact W.iret (v := nI 0) hx hb hr (fun t ht hW => ⟨_, rfl, by rw [if_neg (Nat.not_lt.mpr c3)], ht⟩) (fun q hq => by cases hq) dL_cell_13
  · refine lv_aload_n hx hb dL_cell_6 rfl (lv_at hl 0 rfl) ?_
    refine lv_iload_n hx hb dL_cell_7 rfl (lv_at hl 1 rfl) ?_
    refine zz_sld hx hb hX hbl hbA hS (j := 0) c3 hL dL_cell_8 ?_
    refine lv_goto (tgt := 13) hx hb dL_cell_9 (by decide) ?_
    exact W.iret (v := xs 0) hx hb hr (fun t ht hW => ⟨_, rfl, by rw [if_pos c3], ht⟩) (fun q hq => by cases hq) dL_cell_13
set_option maxHeartbeats 8000000 in
set_option maxRecDepth 100000 in
/-- the law's loop -/
theorem law_loop {p : Program} {l : Launch} {e : Env} {s : State} {m : MethodId} {below : List Frame} {meth : Method} {c : Code} {dC : Nat → ClassId} {dI : Nat → Nat → Nat} {b L : Nat} {xs : Nat → Int32} (hL : L ≤ 1537) (C0 : lw_At p s m meth c b L xs) {aP aR aB aS aT aX aO mM mX mO mT mS mB : Nat} {cB cS cT cX cO eX eO eT eS eB : ClassId} {R : Nat} (hK : va_K (dC, dI) vwCl [(cB, .byte), (cS, .int), (cT, .int), (cX, .byte), (cO, .byte), (eX, .byte), (eO, .byte), (eT, .int), (eS, .int), (eB, .byte)] s) : ∀ (n : Nat) (i : Nat) (H : Heap) (locs : List Loc) (ls : Array Slot), (1 ≤ i ∧ i ≤ L + 1 ∧ L + 2 ≤ i + n ∧ LI dC dI s b aP aR aB aS aT aX aO mM mX mO mT mS mB cB cS cT cX cO eX eO eT eS eB R i i H locs ls) → W p l e room_1 s m #[Value.ref b] below meth c H locs 13 100390 (lw_Z below #[Value.ref b] s) (F0 m 28 ls []) := by
  obtain ⟨hx, hb, hr, hml, hown, hts, hX, hbl, hlocks, hgv⟩ := id C0
  have hbA : ¬ (fun q : Nat => s.heap.size ≤ q) b := Nat.not_le.mpr hbl
  intro n
  induction n with
  | zero =>
    intro i H locs ls h
    obtain ⟨h1, h2, h3, -⟩ := h
    omega
  | succ n ih =>
    intro i H locs ls h
    obtain ⟨h1, h2, h3, hI⟩ := h
    obtain ⟨lo, hi, off, ts, os, uw, fr, to, pa, dr, de, tm, bz, tz, oz, Bf, Sf, Tf, Xf, Of, Bm, Sm, Tm, Xm, Om, hinv, hP, hD, hS, hl⟩ := id hI
    refine lv_iload_n hx hb dL_law_28 rfl (lv_at hl 3 rfl) ?_
    refine lv_aload_n hx hb dL_law_29 rfl (lv_at hl 0 rfl) ?_
    refine va_slen hx hb hX hbl hbA hS dL_law_30 ?_
    refine zz_as (nI L) rfl ?_
    refine lv_iconst (v := nI 3) hx hb dL_law_31 (by decide) ?_
    refine lv_isub hx hb dL_law_32 ?_
    refine lv_icmp_gt (tgt := 352) hx hb dL_law_33 (by decide) (fun c33 => ?_) (fun c33 => ?_)
    · refine lv_iconst (v := 1) hx hb dL_law_352 (by decide) ?_
      refine va_forget (fun q hq => hS.2.2 q hq) ?_
      refine W.widen (k := 600000) (n := 7302250) (by decide) (by decide) ?_
      exact lw_ret hx hb hr hlocks dL_law_353
    · have hi3 : i + 3 ≤ L := by
        have h9 := mt (rg_lt3 (a := L) (b := 3) (c := i) (by omega) (by omega) (by omega)).mpr c33
        omega
      have K : ∀ (H : Heap) (locs : List Loc) (ls : Array Slot), LI dC dI s b aP aR aB aS aT aX aO mM mX mO mT mS mB cB cS cT cX cO eX eO eT eS eB R (i + 1) i H locs ls → W p l e room_1 s m #[Value.ref b] below meth c H locs 13 100390 (lw_Z below #[Value.ref b] s) (F0 m 346 ls []) := by
        intro H locs ls hJ
        obtain ⟨lo, hi, off, ts, os, uw, fr, to, pa, dr, de, tm, bz, tz, oz, Bf, Sf, Tf, Xf, Of, Bm, Sm, Tm, Xm, Om, hinv, hP, hD, hS, hl⟩ := hJ
        refine lv_iinc (v := nI (i + 3)) (lv' := [(3, .int (nI (i + 3))), (0, .ref b), (1, .ref aP), (2, .ref mM)]) hx hb dL_law_346 hl (k := 3) rfl (show nI i + nI 3 = nI (i + 3) from nI_add _ _) (by decide) rfl (fun ls hl => ?_)
        refine lv_goto (tgt := 28) hx hb dL_law_349 (by decide) ?_
        obtain ⟨a1, a2, a3, a4, ⟨a5, a6⟩, a7⟩ := hinv
        exact ih (i + 3) _ _ _ ⟨by omega, by omega, by omega, lo, hi, off, ts, os, uw, fr, to, pa, dr, de, tm, bz, tz, oz, Bf, Sf, Tf, Xf, Of, Bm, Sm, Tm, Xm, Om, ⟨a1, a2, a3, a4, ⟨a5, by omega⟩, a7⟩, hP, hD, hS, lv_sub hl [1, 2, 3, 0] rfl⟩
      refine lv_aload_n hx hb dL_law_36 rfl (lv_at hl 0 rfl) ?_
      refine lv_iload_n hx hb dL_law_37 rfl (lv_at hl 3 rfl) ?_
      refine zz_sld hx hb hX hbl hbA hS (j := i) (by omega) (by omega) dL_law_38 ?_
      refine lv_bipush (v := nI 15) hx hb dL_law_39 (by decide) ?_
      refine lv_iand hx hb dL_law_41 ?_
      obtain ⟨k, hk, ek⟩ := pk_andE (xs i) (m := nI 15) 4 (by decide)
      refine zz_as (nI k) ek ?_
      rcases (show k = 0 ∨ k = 1 ∨ k = 2 ∨ k = 3 ∨ k = 4 ∨ k = 5 ∨ k = 6 ∨ k = 7 ∨ k = 8 ∨ k = 9 ∨ 10 ≤ k by omega) with rfl | rfl | rfl | rfl | rfl | rfl | rfl | rfl | rfl | rfl | h10
      · refine lv_tableIn (off := 54) (tgt := 96) hx hb dL_law_42 (by decide) (by decide) (by decide) (by decide) ?_
        exact law_put hL C0 hK hi3 K hI
      · refine lv_tableIn (off := 77) (tgt := 119) hx hb dL_law_42 (by decide) (by decide) (by decide) (by decide) ?_
        exact law_keep hL C0 hK hi3 K hI
      · refine lv_tableIn (off := 100) (tgt := 142) hx hb dL_law_42 (by decide) (by decide) (by decide) (by decide) ?_
        exact law_delete hL C0 hK hi3 K hI
      · refine lv_tableIn (off := 123) (tgt := 165) hx hb dL_law_42 (by decide) (by decide) (by decide) (by decide) ?_
        exact law_begin hL C0 hK hi3 K hI
      · refine lv_tableIn (off := 156) (tgt := 198) hx hb dL_law_42 (by decide) (by decide) (by decide) (by decide) ?_
        exact law_stop hL C0 hK hi3 K hI
      · refine lv_tableIn (off := 169) (tgt := 211) hx hb dL_law_42 (by decide) (by decide) (by decide) (by decide) ?_
        exact law_next hL C0 hK hi3 K hI
      · refine lv_tableIn (off := 192) (tgt := 234) hx hb dL_law_42 (by decide) (by decide) (by decide) (by decide) ?_
        exact law_out hL C0 hK hi3 K hI
      · refine lv_tableIn (off := 215) (tgt := 257) hx hb dL_law_42 (by decide) (by decide) (by decide) (by decide) ?_
        exact law_count hL C0 hK hi3 K hI
      · refine lv_tableIn (off := 238) (tgt := 280) hx hb dL_law_42 (by decide) (by decide) (by decide) (by decide) ?_
        exact law_about hL C0 hK hi3 K hI
      · refine lv_tableIn (off := 271) (tgt := 313) hx hb dL_law_42 (by decide) (by decide) (by decide) (by decide) ?_
        exact law_byteAt hL C0 hK hi3 K hI
      · refine lv_tableOut (tgt := 346) hx hb dL_law_42 (Or.inr (by rw [nI_toInt (by omega)]; omega)) (by decide) ?_
        obtain ⟨a1, a2, a3, a4, ⟨a5, a6⟩, a7⟩ := hinv
        exact K _ _ _ ⟨lo, hi, off, ts, os, uw, fr, to, pa, dr, de, tm, bz, tz, oz, Bf, Sf, Tf, Xf, Of, Bm, Sm, Tm, Xm, Om, ⟨a1, a2, a3, a4, ⟨a5, by omega⟩, a7⟩, hP, hD, hS, hl⟩
end
section
set_option maxHeartbeats 8000000 in
set_option maxRecDepth 100000 in
/-- THE LAW, from its entry -/
theorem whole_start {p : Program} {e : Env} {s : State} {m : MethodId} {below : List Frame} {meth : Method} {c : Code} (l : Launch) {b L : Nat} {xs : Nat → Int32} (hL : L ≤ 1537) (C0 : lw_At p s m meth c b L xs) : W p l e room_1 s m #[Value.ref b] below meth c s.heap [] 0 0 (lw_Z below #[Value.ref b] s) (entryFrame m ([Value.ref b] : List Value).toArray 4) := by
  obtain ⟨hx, hb, hr, hml, hown, hts, hX, hbl, hlocks, hgv⟩ := id C0
  have hown : s.vm.findClass RL = some m.cls := hown
  have hA : ∀ q : Nat, s.heap.size ≤ q → (fun q : Nat => s.heap.size ≤ q) q := fun _ h => h
  have hbA : ¬ (fun q : Nat => s.heap.size ≤ q) b := Nat.not_le.mpr hbl
  obtain ⟨c0, iS0, hKn0⟩ := u_known (C := RX0) (T := TX0) (N := 8) (n := 8) hts il_X0 (hts (.instantiable RX0 8) (by decide +kernel))
  obtain ⟨c1, iS1, hKn1⟩ := u_known (C := RX1) (T := TX1) (N := 12) (n := 12) hts il_X1 (hts (.instantiable RX1 12) (by decide +kernel))
  obtain ⟨c2, iS2, hKn2⟩ := u_known (C := RM) (T := TM) (N := 18) (n := 18) hts il_M (hts (.instantiable RM 18) (by decide +kernel))
  obtain ⟨dC, dI, hKc⟩ : ∃ (dC : Nat → ClassId) (dI : Nat → Nat → Nat), ∀ (k : Nat) (q : vw_C), vwCl[k]? = some q → u_Kn s q.1 q.2.1 q.2.2 (dC k) (dI k) := by
    refine ⟨fun k => if k = 0 then c0 else if k = 1 then c1 else c2, fun k => if k = 0 then iS0 else if k = 1 then iS1 else iS2, ?_⟩
    intro k q hq
    match k, hq with
    | 0, hq => cases hq; exact hKn0
    | 1, hq => cases hq; exact hKn1
    | 2, hq => cases hq; exact hKn2
    | k + 3, hq => simp [vwCl] at hq
  have hS : va_S (fun q : Nat => s.heap.size ≤ q) s.heap s.heap [] := va_S.rf
  have hK : va_K (dC, dI) vwCl [] s := ⟨hKc, fun k q h => by simp at h⟩
  have hP : va_P (dC, dI) vwCl [] s.heap := fun k q h => by simp at h
  have hD : va_D (fun q : Nat => s.heap.size ≤ q) [] := ⟨fun i j p q h => by simp at h, fun k q h => by simp at h⟩
  have hl := lv_entry ([.ref b]) (n := 4) (Nat.le_of_ble_eq_true rfl)
  rw [lg_entry_eq]
  generalize (lg_sl ([.ref b]) ++ List.replicate (4 - (lg_sl ([.ref b])).length) Slot.unset).toArray = ls at hl ⊢
  have hl : lv_has ls 4 [(0, .ref b)] := hl
  refine va_new (ci := 1) (fs := [.null, .null, .int 0, .null, .int 0, .int 0, .int 0, .int 0, .int 0, .int 0, .int 0, .int 0]) (C := RX1) (T := TX1) (N := 12) hx hb hts il_X1 tyX1 tyX1_ok hown (hts (.classLink RL 7 RX1) (by decide +kernel)) (hts (.instantiable RX1 12) (by decide +kernel)) (hts (.initialized RX1) (by decide +kernel)) hK hP hD hS hA rfl (fun j hj => by rcases (show j = 0 ∨ j = 1 ∨ j = 2 ∨ j = 3 ∨ j = 4 ∨ j = 5 ∨ j = 6 ∨ j = 7 ∨ j = 8 ∨ j = 9 ∨ j = 10 ∨ j = 11 by omega) with rfl | rfl | rfl | rfl | rfl | rfl | rfl | rfl | rfl | rfl | rfl | rfl <;> rfl) (Nat.le_of_ble_eq_true rfl) (Nat.le_of_ble_eq_true rfl) dL_law_0 (fun aP H hP hD hS => ?_)
  have hP : va_P (dC, dI) vwCl [(aP, .inr (1, [.null, .null, .int 0, .null, .int 0, .int 0, .int 0, .int 0, .int 0, .int 0, .int 0, .int 0]))] H := hP
  have hD : va_D (fun q : Nat => s.heap.size ≤ q) [(aP, .inr (1, [.null, .null, .int 0, .null, .int 0, .int 0, .int 0, .int 0, .int 0, .int 0, .int 0, .int 0]))] := hD
  refine W.widen (k := 1) (n := 12) (by omega) (by omega) ?_
  refine lv_dup hx hb dL_law_3 rfl ?_
  refine lv_aload_n hx hb dL_law_4 rfl (lv_at hl 0 rfl) ?_
  refine lv_iconst (v := nI 0) hx hb dL_law_5 (by decide) ?_
  refine vp_callSi (va_runS (As := [.ref b, .int (nI 0)]) (rest := [.ref aP, .ref aP]) ⟨hx, hb, hml, hown, hts⟩ (c_L_cell l b L xs (by omega)) (cwS 2 hts gl_L_cell rfl rfl rfl (by decide +kernel) ⟨Nat.le_of_ble_eq_true rfl, Nat.le_of_ble_eq_true rfl⟩) ⟨fun a U g mk q => ⟨q.1, va_X.moved (u := U) (U := U.calling g mk a) (Vm.Alike.refl U.vm) q.2⟩, fun U hU hW => ⟨rfl, by show va_X b L xs U U.heap; rw [hU]; exact va_X.moved hW.alike (va_X.kept hX (hS.2.1 b hbl hbA))⟩⟩ rfl rfl hl.1 rfl (lv_room (Nat.le_of_ble_eq_true rfl)) dL_law_6 ⟨Nat.le_of_ble_eq_true rfl, Nat.le_of_ble_eq_true rfl⟩).run (fun r er => ?_)
  subst er
  have hPc := hP.sub (ws' := [(aP, .inr (1, [.null, .null, .int 0, .null, .int 0, .int 0, .int 0, .int 0, .int 0, .int 0, .int 0, .int 0]))]) [0] rfl
  have hDc := hD.sub (ws' := [(aP, .inr (1, [.null, .null, .int 0, .null, .int 0, .int 0, .int 0, .int 0, .int 0, .int 0, .int 0, .int 0]))]) [0] (by decide) rfl
  have hKc := hK.sub (tys' := []) [] rfl
  have hFc := va_free (wc := [(aP, .inr (1, [.null, .null, .int 0, .null, .int 0, .int 0, .int 0, .int 0, .int 0, .int 0, .int 0, .int 0]))]) hD hS hA [0] rfl
  refine va_callv (va_runI (As := [.int (if 0 < L then xs 0 else nI 0)]) (rest := [.ref aP]) ⟨hx, hb, hml, hown, hts⟩ (c_P_init l dC dI aP (if 0 < L then xs 0 else nI 0) H.size) (cwI 1 hts gl_X1_init rfl rfl rfl (hts (.initialized RX1) (by decide +kernel)) (hts (.methodLink RL 15 yX1_init) (by decide +kernel)) (hts (.instanceMethod yX1_init) (by decide +kernel)) rfl (by decide +kernel) ⟨Nat.le_of_ble_eq_true rfl, Nat.le_of_ble_eq_true rfl⟩) ⟨fun a U g mk q => by obtain ⟨q0, q1, qP, qK, qD⟩ := q; exact ⟨q0, q1, qP, va_K.moved (u := U) (U := U.calling g mk a) (Vm.Alike.refl U.vm) qK, qD⟩, fun U hU hW => ⟨rfl, by rw [hU], by rw [hU]; exact hPc, va_K.moved hW.alike hKc, hDc.weaken (fun _ _ _ _ => trivial)⟩⟩ rfl rfl hl.1 rfl (lv_room (Nat.le_of_ble_eq_true rfl)) dL_law_9 ⟨Nat.le_of_ble_eq_true rfl, Nat.le_of_ble_eq_true rfl⟩) hS (fun q _ h => hFc q h) hFc (fun u t H1 locs ht hvm hw hB hz1 hk1 hS => ?_)
  obtain ⟨R, rfl⟩ : ∃ R, R = u := ⟨_, rfl⟩
  obtain ⟨hRe, hRR⟩ := hw
  obtain ⟨aR, aB, aS, aT, aX, aO, cB, cS, cT, cX, cO, hP1, hK1, hD1⟩ := hB
  rw [ht] at hP1
  have hK1 := va_K.moved hvm.symm hK1
  obtain ⟨hP, hD⟩ := va_join (wr := []) (w1 := [(aP, .inr (1, [.ref aR, .ref aX, .int 0, .ref aO, .int 0, .int 0, .int 0, .int 0, .int 0, .int 0, .int 0, .int 0])), (aR, .inr (0, [.int (nI R), .ref aB, .ref aS, .ref aT, .int 0, .int 0, .int 0, .int 0])), (aB, .inl (cB, R, .inl (fun _ => 0))), (aS, .inl (cS, R, .inl (fun _ => 0))), (aT, .inl (cT, R, .inl (fun _ => 0))), (aX, .inl (cX, 512, .inl (fun _ => 0))), (aO, .inl (cO, 512, .inl (fun _ => 0)))]) hP hD [0] [] rfl rfl (by decide) (by decide) hk1 hFc hP1 hD1
  have hK := (hK.sub (tys' := []) [] rfl).app hK1
  generalize H1 = H at hP hS ⊢
  have hP : va_P (dC, dI) vwCl [(aP, .inr (1, [.ref aR, .ref aX, .int 0, .ref aO, .int 0, .int 0, .int 0, .int 0, .int 0, .int 0, .int 0, .int 0])), (aR, .inr (0, [.int (nI R), .ref aB, .ref aS, .ref aT, .int 0, .int 0, .int 0, .int 0])), (aB, .inl (cB, R, .inl (fun _ => 0))), (aS, .inl (cS, R, .inl (fun _ => 0))), (aT, .inl (cT, R, .inl (fun _ => 0))), (aX, .inl (cX, 512, .inl (fun _ => 0))), (aO, .inl (cO, 512, .inl (fun _ => 0)))] H := hP
  have hD : va_D (fun q : Nat => s.heap.size ≤ q) [(aP, .inr (1, [.ref aR, .ref aX, .int 0, .ref aO, .int 0, .int 0, .int 0, .int 0, .int 0, .int 0, .int 0, .int 0])), (aR, .inr (0, [.int (nI R), .ref aB, .ref aS, .ref aT, .int 0, .int 0, .int 0, .int 0])), (aB, .inl (cB, R, .inl (fun _ => 0))), (aS, .inl (cS, R, .inl (fun _ => 0))), (aT, .inl (cT, R, .inl (fun _ => 0))), (aX, .inl (cX, 512, .inl (fun _ => 0))), (aO, .inl (cO, 512, .inl (fun _ => 0)))] := hD
  have hK : va_K (dC, dI) vwCl [(cB, .byte), (cS, .int), (cT, .int), (cX, .byte), (cO, .byte)] s := hK
  refine W.widen (k := 7) (n := 50196) (by omega) (by omega) ?_
  refine lv_astore_n (lv' := [(1, .ref aP), (0, .ref b)]) hx hb dL_law_12 rfl hl (by decide) rfl (fun ls hl => ?_)
  refine va_new (ci := 2) (fs := [.int 0, .int 0, .null, .int 0, .null, .int 0, .int 0, .null, .null, .null, .int 0, .int 0, .int 0, .int 0, .int 0, .int 0, .int 0, .int 0]) (C := RM) (T := TM) (N := 18) hx hb hts il_M tyM tyM_ok hown (hts (.classLink RL 18 RM) (by decide +kernel)) (hts (.instantiable RM 18) (by decide +kernel)) (hts (.initialized RM) (by decide +kernel)) hK hP hD hS hA rfl (fun j hj => by rcases (show j = 0 ∨ j = 1 ∨ j = 2 ∨ j = 3 ∨ j = 4 ∨ j = 5 ∨ j = 6 ∨ j = 7 ∨ j = 8 ∨ j = 9 ∨ j = 10 ∨ j = 11 ∨ j = 12 ∨ j = 13 ∨ j = 14 ∨ j = 15 ∨ j = 16 ∨ j = 17 by omega) with rfl | rfl | rfl | rfl | rfl | rfl | rfl | rfl | rfl | rfl | rfl | rfl | rfl | rfl | rfl | rfl | rfl | rfl <;> rfl) (Nat.le_of_ble_eq_true rfl) (Nat.le_of_ble_eq_true rfl) dL_law_13 (fun mM H hP hD hS => ?_)
  have hP : va_P (dC, dI) vwCl [(aP, .inr (1, [.ref aR, .ref aX, .int 0, .ref aO, .int 0, .int 0, .int 0, .int 0, .int 0, .int 0, .int 0, .int 0])), (aR, .inr (0, [.int (nI R), .ref aB, .ref aS, .ref aT, .int 0, .int 0, .int 0, .int 0])), (aB, .inl (cB, R, .inl (fun _ => 0))), (aS, .inl (cS, R, .inl (fun _ => 0))), (aT, .inl (cT, R, .inl (fun _ => 0))), (aX, .inl (cX, 512, .inl (fun _ => 0))), (aO, .inl (cO, 512, .inl (fun _ => 0))), (mM, .inr (2, [.int 0, .int 0, .null, .int 0, .null, .int 0, .int 0, .null, .null, .null, .int 0, .int 0, .int 0, .int 0, .int 0, .int 0, .int 0, .int 0]))] H := hP
  have hD : va_D (fun q : Nat => s.heap.size ≤ q) [(aP, .inr (1, [.ref aR, .ref aX, .int 0, .ref aO, .int 0, .int 0, .int 0, .int 0, .int 0, .int 0, .int 0, .int 0])), (aR, .inr (0, [.int (nI R), .ref aB, .ref aS, .ref aT, .int 0, .int 0, .int 0, .int 0])), (aB, .inl (cB, R, .inl (fun _ => 0))), (aS, .inl (cS, R, .inl (fun _ => 0))), (aT, .inl (cT, R, .inl (fun _ => 0))), (aX, .inl (cX, 512, .inl (fun _ => 0))), (aO, .inl (cO, 512, .inl (fun _ => 0))), (mM, .inr (2, [.int 0, .int 0, .null, .int 0, .null, .int 0, .int 0, .null, .null, .null, .int 0, .int 0, .int 0, .int 0, .int 0, .int 0, .int 0, .int 0]))] := hD
  refine W.widen (k := 8) (n := 50214) (by omega) (by omega) ?_
  refine lv_dup hx hb dL_law_16 rfl ?_
  refine lv_aload_n hx hb dL_law_17 rfl (lv_at hl 1 rfl) ?_
  refine lv_iconst (v := nI 0) hx hb dL_law_18 (by decide) ?_
  refine vp_callSi (va_runS (As := [.ref b, .int (nI 0)]) (rest := [.ref mM, .ref mM]) ⟨hx, hb, hml, hown, hts⟩ (c_L_cell l b L xs (by omega)) (cwS 2 hts gl_L_cell rfl rfl rfl (by decide +kernel) ⟨Nat.le_of_ble_eq_true rfl, Nat.le_of_ble_eq_true rfl⟩) ⟨fun a U g mk q => ⟨q.1, va_X.moved (u := U) (U := U.calling g mk a) (Vm.Alike.refl U.vm) q.2⟩, fun U hU hW => ⟨rfl, by show va_X b L xs U U.heap; rw [hU]; exact va_X.moved hW.alike (va_X.kept hX (hS.2.1 b hbl hbA))⟩⟩ rfl rfl hl.1 rfl (lv_room (Nat.le_of_ble_eq_true rfl)) dL_law_19 ⟨Nat.le_of_ble_eq_true rfl, Nat.le_of_ble_eq_true rfl⟩).run (fun r er => ?_)
  subst er
  have hPc := hP.sub (ws' := [(mM, .inr (2, [.int 0, .int 0, .null, .int 0, .null, .int 0, .int 0, .null, .null, .null, .int 0, .int 0, .int 0, .int 0, .int 0, .int 0, .int 0, .int 0]))]) [7] rfl
  have hDc := hD.sub (ws' := [(mM, .inr (2, [.int 0, .int 0, .null, .int 0, .null, .int 0, .int 0, .null, .null, .null, .int 0, .int 0, .int 0, .int 0, .int 0, .int 0, .int 0, .int 0]))]) [7] (by decide) rfl
  have hKc := hK.sub (tys' := []) [] rfl
  have hFc := va_free (wc := [(mM, .inr (2, [.int 0, .int 0, .null, .int 0, .null, .int 0, .int 0, .null, .null, .null, .int 0, .int 0, .int 0, .int 0, .int 0, .int 0, .int 0, .int 0]))]) hD hS hA [7] rfl
  refine va_callv (va_runI (As := [.int (if 0 < L then xs 0 else nI 0)]) (rest := [.ref mM]) ⟨hx, hb, hml, hown, hts⟩ (c_M_init l dC dI mM (if 0 < L then xs 0 else nI 0) H.size) (cwI 1 hts gl_M_init rfl rfl rfl (hts (.initialized RM) (by decide +kernel)) (hts (.methodLink RL 20 yM_init) (by decide +kernel)) (hts (.instanceMethod yM_init) (by decide +kernel)) rfl (by decide +kernel) ⟨Nat.le_of_ble_eq_true rfl, Nat.le_of_ble_eq_true rfl⟩) ⟨fun a U g mk q => by obtain ⟨q0, q1, qP, qK, qD⟩ := q; exact ⟨q0, q1, qP, va_K.moved (u := U) (U := U.calling g mk a) (Vm.Alike.refl U.vm) qK, qD⟩, fun U hU hW => ⟨rfl, by rw [hU], by rw [hU]; exact hPc, va_K.moved hW.alike hKc, hDc.weaken (fun _ _ _ _ => trivial)⟩⟩ rfl rfl hl.1 rfl (lv_room (Nat.le_of_ble_eq_true rfl)) dL_law_22 ⟨Nat.le_of_ble_eq_true rfl, Nat.le_of_ble_eq_true rfl⟩) hS (fun q _ h => hFc q h) hFc (fun u t H1 locs ht hvm hw hB hz1 hk1 hS => ?_)
  obtain ⟨mX, mO, mT, mS, mB, eX, eO, eT, eS, eB, hP1, hK1, hD1⟩ := hB
  rw [ht] at hP1
  have hK1 := va_K.moved hvm.symm hK1
  obtain ⟨hP, hD⟩ := va_join (wr := [(aP, .inr (1, [.ref aR, .ref aX, .int 0, .ref aO, .int 0, .int 0, .int 0, .int 0, .int 0, .int 0, .int 0, .int 0])), (aR, .inr (0, [.int (nI R), .ref aB, .ref aS, .ref aT, .int 0, .int 0, .int 0, .int 0])), (aB, .inl (cB, R, .inl (fun _ => 0))), (aS, .inl (cS, R, .inl (fun _ => 0))), (aT, .inl (cT, R, .inl (fun _ => 0))), (aX, .inl (cX, 512, .inl (fun _ => 0))), (aO, .inl (cO, 512, .inl (fun _ => 0)))]) (w1 := [(mM, .inr (2, [.int 0, .int (nI (md_room (if 0 < L then xs 0 else nI 0))), .ref mX, .int 0, .ref mO, .int 0, .int 0, .ref mT, .ref mS, .ref mB, .int 0, .int 0, .int 0, .int 0, .int 0, .int 0, .int 0, .int 0])), (mX, .inl (eX, 512, .inl (fun _ => 0))), (mO, .inl (eO, 512, .inl (fun _ => 0))), (mT, .inl (eT, 16384, .inl (fun _ => 0))), (mS, .inl (eS, 16384, .inl (fun _ => 0))), (mB, .inl (eB, 16384, .inl (fun _ => 0)))]) hP hD [7] [0, 1, 2, 3, 4, 5, 6] rfl rfl (by decide) (by decide) hk1 hFc hP1 hD1
  have hK := (hK.sub (tys' := [(cB, .byte), (cS, .int), (cT, .int), (cX, .byte), (cO, .byte)]) [0, 1, 2, 3, 4] rfl).app hK1
  generalize H1 = H at hP hS ⊢
  rw [← hRe] at hP hD
  have hP : va_P (dC, dI) vwCl [(aP, .inr (1, [.ref aR, .ref aX, .int 0, .ref aO, .int 0, .int 0, .int 0, .int 0, .int 0, .int 0, .int 0, .int 0])), (aR, .inr (0, [.int (nI R), .ref aB, .ref aS, .ref aT, .int 0, .int 0, .int 0, .int 0])), (aB, .inl (cB, R, .inl (fun _ => 0))), (aS, .inl (cS, R, .inl (fun _ => 0))), (aT, .inl (cT, R, .inl (fun _ => 0))), (aX, .inl (cX, 512, .inl (fun _ => 0))), (aO, .inl (cO, 512, .inl (fun _ => 0))), (mM, .inr (2, [.int 0, .int (nI R), .ref mX, .int 0, .ref mO, .int 0, .int 0, .ref mT, .ref mS, .ref mB, .int 0, .int 0, .int 0, .int 0, .int 0, .int 0, .int 0, .int 0])), (mX, .inl (eX, 512, .inl (fun _ => 0))), (mO, .inl (eO, 512, .inl (fun _ => 0))), (mT, .inl (eT, 16384, .inl (fun _ => 0))), (mS, .inl (eS, 16384, .inl (fun _ => 0))), (mB, .inl (eB, 16384, .inl (fun _ => 0)))] H := hP
  have hD : va_D (fun q : Nat => s.heap.size ≤ q) [(aP, .inr (1, [.ref aR, .ref aX, .int 0, .ref aO, .int 0, .int 0, .int 0, .int 0, .int 0, .int 0, .int 0, .int 0])), (aR, .inr (0, [.int (nI R), .ref aB, .ref aS, .ref aT, .int 0, .int 0, .int 0, .int 0])), (aB, .inl (cB, R, .inl (fun _ => 0))), (aS, .inl (cS, R, .inl (fun _ => 0))), (aT, .inl (cT, R, .inl (fun _ => 0))), (aX, .inl (cX, 512, .inl (fun _ => 0))), (aO, .inl (cO, 512, .inl (fun _ => 0))), (mM, .inr (2, [.int 0, .int (nI R), .ref mX, .int 0, .ref mO, .int 0, .int 0, .ref mT, .ref mS, .ref mB, .int 0, .int 0, .int 0, .int 0, .int 0, .int 0, .int 0, .int 0])), (mX, .inl (eX, 512, .inl (fun _ => 0))), (mO, .inl (eO, 512, .inl (fun _ => 0))), (mT, .inl (eT, 16384, .inl (fun _ => 0))), (mS, .inl (eS, 16384, .inl (fun _ => 0))), (mB, .inl (eB, 16384, .inl (fun _ => 0)))] := hD
  have hK : va_K (dC, dI) vwCl [(cB, .byte), (cS, .int), (cT, .int), (cX, .byte), (cO, .byte), (eX, .byte), (eO, .byte), (eT, .int), (eS, .int), (eB, .byte)] s := hK
  refine W.widen (k := 13) (n := 100390) (by omega) (by omega) ?_
  refine lv_astore_n (lv' := [(2, .ref mM), (1, .ref aP), (0, .ref b)]) hx hb dL_law_25 rfl hl (by decide) rfl (fun ls hl => ?_)
  refine lv_iconst (v := nI 1) hx hb dL_law_26 (by decide) ?_
  refine lv_istore_n (lv' := [(3, .int (nI 1)), (2, .ref mM), (1, .ref aP), (0, .ref b)]) hx hb dL_law_27 rfl hl (by decide) rfl (fun ls hl => ?_)
  refine law_loop (R := R) hL C0 hK (L + 1) 1 _ _ _ ⟨Nat.le_refl 1, by omega, by omega, 0, 0, fun _ => 0, 0, 0, 0, 0, 0, 0, 0, 0, fun _ => 0, fun _ => 0, fun _ => 0, fun _ => 0, fun _ => 0, fun _ => 0, fun _ => 0, fun _ => 0, fun _ => 0, fun _ => 0, fun _ => 0, fun _ => 0, fun _ => 0, fun _ => 0, ?_, hP, hD, hS, lv_sub hl [3, 2, 1, 0] rfl⟩
  refine ⟨⟨hRR, Nat.le_refl 0, Nat.zero_le _, fun i _ h => absurd h (Nat.not_lt_zero i)⟩, ⟨fun i _ h => absurd h (Nat.not_lt_zero i), fun i _ h => absurd h (Nat.not_lt_zero i), fun q _ h => absurd h (Nat.not_lt_zero q)⟩, ⟨fun t h => absurd h (Nat.not_lt_zero t), fun t h => absurd h (Nat.not_lt_zero t), fun t h => absurd h (Nat.not_lt_zero t)⟩, fun i _ h => absurd h (Nat.not_lt_zero i), ⟨Nat.le_refl 0, Nat.zero_le _⟩, ⟨Nat.zero_le _, fun t h => absurd h (Nat.not_lt_zero t), fun t h => absurd h (Nat.not_lt_zero t)⟩, ⟨Nat.zero_le _, fun t h => absurd h (Nat.not_lt_zero t), fun t h => absurd h (Nat.not_lt_zero t)⟩, Nat.zero_le 1⟩
end
section
set_option maxHeartbeats 4000000 in
theorem lw_walk (l : Launch) (b : Addr) (xs : List Int32) : MetFree l x (headSpec (Jvm.Cond.code x code maxLocals ret :: tables_1) room_1) (lw_P b xs) (fun _ _ _ _ _ => True) lw_Q := by
  refine MetFree.of_bodyS (code := code) (maxLocals := maxLocals) (ret := ret) (by decide) ?_ ?_
  · intro args s m h hn
    obtain ⟨meth, c, h1, h2, h3, h4, h5, h6, -, -⟩ := Cond.code_spec hn (atoms_spec (ws := Jvm.Cond.code x code maxLocals ret :: tables_1) h _ List.mem_cons_self)
    exact ⟨meth, c, h1, h2, h3, h4, h5, h6⟩
  · intro p e s m args below meth c s₁ B hml0 hP _
    obtain ⟨rfl, hx, hbd, hgv⟩ := hP
    obtain ⟨scr, harrAt, hlist, hof, hsmall⟩ := hx
    obtain ⟨hcb, hkn, -, -⟩ := State.arrayAt?_spec harrAt
    have hown : s.vm.findClass R_law = some m.cls := findClass_of_methodNamed B.named
    have hts0 : ∀ c ∈ (Jvm.Cond.code x code maxLocals ret :: tables_1), c.before #[Value.ref b] s = true := atoms_spec (ws := Jvm.Cond.code x code maxLocals ret :: tables_1) B.pre
    have hts : ∀ w ∈ lw_tbl, w.before #[Value.ref b] s = true := k2_hts_sels lw_privs (fun w hw => hts0 w (List.mem_cons_of_mem _ hw)) lw_privs_ok
    have hml : c.maxLocals = 4 := B.maxLocals_eq (hts0 _ List.mem_cons_self)
    have X₀ : Stand p l e room_1 s m #[Value.ref b] below meth c s₁ [] 0 0 := Stand.of_body B
    have hh0 : s₁.heap = s.heap := by rw [B.state]; rfl
    have hsz : scr.slots.size = xs.length := by rw [← Array.length_toList, hlist, List.length_map]
    have hval : ∀ j : Nat, j < xs.length → scr.slots[j]? = some (.int (xs.getD j 0)) := fun j hj => by
      rw [← Array.getElem?_toList, hlist]
      simp [hj]
    have hbl : b < s.heap.size := (Array.getElem?_eq_some_iff.mp hcb).1
    have hX : va_X b xs.length (fun j => xs.getD j 0) s s.heap := ⟨scr, hcb, hof, hkn, hsz, hval⟩
    have K : W p l e room_1 s m #[Value.ref b] below meth c s₁.heap [] 0 0 (lw_Z below #[Value.ref b] s) (entryFrame m ([Value.ref b] : List Value).toArray 4) := by
      rw [hh0]
      exact whole_start l hbd ⟨B.exec, B.bytes, B.returns, hml, hown, hts, hX, hbl, B.notSynchronized, hgv⟩
    obtain ⟨t, a1, o, b1, b2, b3⟩ := K s₁ rfl X₀
    exact ⟨t, o, a1, b1, b2, b3⟩
theorem lw_pre_spec {args : Array Value} {s : State} (h : (Jvm.Cond.and given_1 narrow_1).before args s = true) (hr : rest_1_c.before args s = true) : ∃ (b : Addr) (xs : List Int32), lw_P b xs args s := by
  have hs := flat_of_before _ h
  have hq := flat_of_before _ hr
  have hc : (Cond.count 1).before args s = true := hs _ (by decide +kernel)
  have harr : (Cond.arrayOf (.arg 0) .int).before args s = true := hs _ (by decide +kernel)
  have hle : (Cond.le (.length (.arg 0)) (.int 1537)).before args s = true := hs _ (by decide +kernel)
  have hlen : (Cond.isInt (.length (.arg 0))).before args s = true := hq _ (by decide +kernel)
  have hall : (Cond.all (.arg 0) (.isInt (.elem (.arg 0) (.index 0)))).before args s = true := hq _ (by decide +kernel)
  obtain ⟨b, xs, hb, hx⟩ := State.ints_of_pre rfl harr hlen hall
  have hsm : xs.length < 2 ^ 31 := hx.choose_spec.2.2.2
  have hev : (Term.length (.arg 0)).eval args s none [] s = some (.int xs.length.toInt32) := hx.length_eval hb
  have hv := Cond.le_ints hev (show (Term.int 1537).eval args s none [] s = some (.int 1537) from rfl)
  have hd : xs.length.toInt32 ≤ 1537 := by
    simpa [Cond.before, Cond.holds, hv] using hle
  have hN : xs.length ≤ 1537 := (Int32.ofNat_le_ofNat hsm (by decide)).mp (show Int32.ofNat xs.length ≤ Int32.ofNat 1537 from hd)
  exact ⟨b, xs, Cond.one_arg hc (show args[0]? = some (.ref b) from hb), hx, hN, h⟩
theorem lw_comes (l : Launch) : Comes l x (Jvm.Cond.code x code maxLocals ret :: tables_1) room_1 (fun tb e args s => Calls_1 tb e args s ∧ rest_1 tb e args s ∧ Pre_1 tb e args s)
    (fun _ _ args s o t => lw_Q args s o t) := by
  intro p e ha hc hk s m args below hf hfit hheap happ hpre
  obtain ⟨b, xs, hP⟩ := lw_pre_spec hpre.2.2 hpre.2.1
  obtain ⟨k, o, h1, h2, h3, hQ⟩ := lw_walk l b xs p e ha hc hk s m args below hf ((Spec.applies_iff_loose hf).mp happ).1 hP trivial
  exact ⟨k, o, h1, h2, h3, hQ⟩
theorem lw_frame {s t : State} {o : Outcome} {args : Array Value} (h : Framed s o t [] 600000 7302250) :
    Framed s o t (fieldLocs frame_1_writes args s ++ arrayLocs frame_1_arrays args s ++ staticLocs frame_1_statics s) 600000 7302250 := h
theorem lw_limb (L : Cond) (hL : ∀ (args : Array Value) (s t : State), L.after args s (.returned (some (.int 1))) t = true) :
    ArmFor flags0 classFile x code maxLocals ret World_1 tables_1 room_1 Calls_1 rest_1 Pre_1
      (fun tb e a s o t => postC L tb e a s o t ∧ Framed s o t (fieldLocs frame_1_writes a s ++ arrayLocs frame_1_arrays a s ++ staticLocs frame_1_statics s) 600000 7302250) := by
  intro l _ _ _ p e ha hc hk s m args below hf hfit hheap happ hpre
  obtain ⟨k, o, h1, h2, h3, rfl, hF⟩ := lw_comes l p e ha hc hk s m args below hf hfit hheap happ hpre
  exact ⟨k, _, h1, h2, h3, hL args s _, lw_frame hF⟩
theorem i_vc : Claimed_1_1 ∧ Claimed_1_2 := ⟨lw_limb limb_1_1 (fun args s t => by simp [limb_1_1, Cond.after, Cond.holds, Cond.value]), lw_limb limb_1_2 (fun args s t => Cond.after_iff.mpr (by
  first | (rw [show limb_1_2 = Cond.eq .result (.int 1) from rfl, Cond.eq_ints (x := 1) (y := 1) rfl rfl]; simp; done) | (simp [limb_1_2, Cond.value, Term.eval]; done)))⟩
end
