theorem goodIn_r {big : List Cond} (ws : List Cond) (ps : List Nat) (hp : ws = ps.filterMap (fun i => big[i]?)) (h : ws.all goodWord = true) : GoodIn big ws := by
  intro w hw
  have h1 := List.all_eq_true.mp h w hw
  rw [hp] at hw
  obtain ⟨i, -, hi⟩ := List.mem_filterMap.mp hw
  have hm : w ∈ big := by first | exact List.mem_of_getElem? hi | exact List.getElem?_mem hi
  exact ⟨hm, good_of_word h1⟩
theorem goodIn_app {big a b : List Cond} (ha : GoodIn big a) (hb : GoodIn big b) : GoodIn big (a ++ b) := fun w h => (List.mem_append.mp h).elim (ha w) (hb w)
theorem goodIn_ca {big a b : List Cond} {c : Cond} (ha : GoodIn big (c :: a)) (hb : GoodIn big b) : GoodIn big (c :: (a ++ b)) := fun w h => (List.mem_cons.mp h).elim (fun e => ha w (List.mem_cons.mpr (Or.inl e))) (fun h => (List.mem_append.mp h).elim (fun h => ha w (List.mem_cons.mpr (Or.inr h))) (hb w))
theorem goodIn_sub {big ws : List Cond} (hm : ∀ w ∈ ws, w ∈ big) (h : ws.all goodWord = true) : GoodIn big ws := fun w hw => ⟨hm w hw, good_of_word (List.all_eq_true.mp h w hw)⟩
def RX0 : String := "PacketStore$Ring"
def TX0 : u_T := fun k => match k with
  | 0 => ("PacketStore$Ring", "room", "I", true)
  | 1 => ("PacketStore$Ring", "bytes", "[B", true)
  | 2 => ("PacketStore$Ring", "starts", "[I", true)
  | 3 => ("PacketStore$Ring", "times", "[I", true)
  | 4 => ("PacketStore$Ring", "oldest", "I", false)
  | 5 => ("PacketStore$Ring", "packets", "I", false)
  | 6 => ("PacketStore$Ring", "end", "I", false)
  | _ => ("PacketStore$Ring", "used", "I", false)
def tyX0 : Nat → FieldType := fun k => match k with
  | 0 => .int
  | 1 => .array .byte
  | 2 => .array .int
  | 3 => .array .int
  | 4 => .int
  | 5 => .int
  | 6 => .int
  | _ => .int
abbrev wsX00 : List Cond := u_ws RX0 TX0 8
theorem nmX0 : ∀ a, a < 8 → ∀ b, b < 8 → a ≠ b → (TX0 a).2.1 ≠ (TX0 b).2.1 := by decide +kernel
theorem tyX0_ok : ∀ k, k < 8 → parseFieldDescriptor (TX0 k).2.2.1 = some (tyX0 k) := by decide +kernel
abbrev cX0_init : ByteArray := prog_2_method_1_code
def yX0_init : MethodName := ⟨RX0, "<init>", "(I)V"⟩
abbrev cX0_room : ByteArray := prog_2_method_2_code
def yX0_room : MethodName := ⟨RX0, "room", "()I"⟩
abbrev cX0_packets : ByteArray := prog_2_method_3_code
def yX0_packets : MethodName := ⟨RX0, "packets", "()I"⟩
abbrev cX0_used : ByteArray := prog_2_method_4_code
def yX0_used : MethodName := ⟨RX0, "used", "()I"⟩
abbrev cX0_has : ByteArray := prog_2_method_5_code
def yX0_has : MethodName := ⟨RX0, "has", "(I)Z"⟩
abbrev cX0_timeOf : ByteArray := prog_2_method_6_code
def yX0_timeOf : MethodName := ⟨RX0, "timeOf", "(I)I"⟩
abbrev cX0_sizeOf : ByteArray := prog_2_method_7_code
def yX0_sizeOf : MethodName := ⟨RX0, "sizeOf", "(I)I"⟩
abbrev cX0_byteOf : ByteArray := prog_2_method_8_code
def yX0_byteOf : MethodName := ⟨RX0, "byteOf", "(II)B"⟩
abbrev cX0_copy : ByteArray := prog_2_method_9_code
def yX0_copy : MethodName := ⟨RX0, "copy", "(II[B)V"⟩
abbrev cX0_add : ByteArray := prog_2_method_10_code
def yX0_add : MethodName := ⟨RX0, "add", "([BII)V"⟩
abbrev cX0_dropOldest : ByteArray := prog_2_method_11_code
def yX0_dropOldest : MethodName := ⟨RX0, "dropOldest", "()V"⟩
abbrev cX0_startOf : ByteArray := prog_2_method_12_code
def yX0_startOf : MethodName := ⟨RX0, "startOf", "(I)I"⟩
abbrev cX0_wrapped : ByteArray := prog_2_method_13_code
def yX0_wrapped : MethodName := ⟨RX0, "wrapped", "(I)I"⟩
def RX1 : String := "PacketStore"
def TX1 : u_T := fun k => match k with
  | 0 => ("PacketStore", "ring", "LPacketStore$Ring;", true)
  | 1 => ("PacketStore", "text", "[B", true)
  | 2 => ("PacketStore", "textSize", "I", false)
  | 3 => ("PacketStore", "output", "[B", true)
  | 4 => ("PacketStore", "outputSize", "I", false)
  | 5 => ("PacketStore", "underWay", "Z", false)
  | 6 => ("PacketStore", "from", "I", false)
  | 7 => ("PacketStore", "to", "I", false)
  | 8 => ("PacketStore", "passed", "I", false)
  | 9 => ("PacketStore", "come", "I", false)
  | 10 => ("PacketStore", "drivenOut", "I", false)
  | _ => ("PacketStore", "deleted", "I", false)
def tyX1 : Nat → FieldType := fun k => match k with
  | 0 => .object "PacketStore$Ring"
  | 1 => .array .byte
  | 2 => .int
  | 3 => .array .byte
  | 4 => .int
  | 5 => .boolean
  | 6 => .int
  | 7 => .int
  | 8 => .int
  | 9 => .int
  | 10 => .int
  | _ => .int
abbrev wsX10 : List Cond := u_ws RX1 TX1 12
theorem nmX1 : ∀ a, a < 12 → ∀ b, b < 12 → a ≠ b → (TX1 a).2.1 ≠ (TX1 b).2.1 := by decide +kernel
theorem tyX1_ok : ∀ k, k < 12 → parseFieldDescriptor (TX1 k).2.2.1 = some (tyX1 k) := by decide +kernel
abbrev cX1_init : ByteArray := prog_1_method_1_code
def yX1_init : MethodName := ⟨RX1, "<init>", "(I)V"⟩
abbrev cX1_put : ByteArray := prog_1_method_2_code
def yX1_put : MethodName := ⟨RX1, "put", "(I)I"⟩
abbrev cX1_keep : ByteArray := prog_1_method_3_code
def yX1_keep : MethodName := ⟨RX1, "keep", "(I)I"⟩
abbrev cX1_delete : ByteArray := prog_1_method_4_code
def yX1_delete : MethodName := ⟨RX1, "delete", "(I)I"⟩
abbrev cX1_begin : ByteArray := prog_1_method_5_code
def yX1_begin : MethodName := ⟨RX1, "begin", "(II)Z"⟩
abbrev cX1_stop : ByteArray := prog_1_method_6_code
def yX1_stop : MethodName := ⟨RX1, "stop", "()Z"⟩
abbrev cX1_next : ByteArray := prog_1_method_7_code
def yX1_next : MethodName := ⟨RX1, "next", "(I)I"⟩
abbrev cX1_out : ByteArray := prog_1_method_8_code
def yX1_out : MethodName := ⟨RX1, "out", "(I)I"⟩
abbrev cX1_count : ByteArray := prog_1_method_9_code
def yX1_count : MethodName := ⟨RX1, "count", "(I)I"⟩
abbrev cX1_about : ByteArray := prog_1_method_10_code
def yX1_about : MethodName := ⟨RX1, "about", "(II)I"⟩
abbrev cX1_byteAt : ByteArray := prog_1_method_11_code
def yX1_byteAt : MethodName := ⟨RX1, "byteAt", "(II)I"⟩
abbrev cX1_makeRoom : ByteArray := prog_1_method_12_code
def yX1_makeRoom : MethodName := ⟨RX1, "makeRoom", "(I)I"⟩
abbrev cX1_dropOldest : ByteArray := prog_1_method_13_code
def yX1_dropOldest : MethodName := ⟨RX1, "dropOldest", "()V"⟩
abbrev cX1_passUnwanted : ByteArray := prog_1_method_14_code
def yX1_passUnwanted : MethodName := ⟨RX1, "passUnwanted", "()V"⟩
abbrev cX1_isWanted : ByteArray := prog_1_method_15_code
def yX1_isWanted : MethodName := ⟨RX1, "isWanted", "(I)Z"⟩
def RL : String := "PacketStoreLaw"
abbrev cL_cell : ByteArray := method_2_code
def yL_cell : MethodName := ⟨RL, "cell", "([II)I"⟩
abbrev cL_law : ByteArray := code
def yL_law : MethodName := ⟨RL, "law", "([I)Z"⟩
def wsX0_init : List Cond := .code yX0_init cX0_init 2 none :: ([.methodLink RX0 1 objectInit, .instanceMethod objectInit, .code objectInit ⟨#[0xb1]⟩ 1 none, .fieldLink RX0 7 "PacketStore$Ring" "room" "I", .arrayClass .byte, .fieldLink RX0 13 "PacketStore$Ring" "bytes" "[B", .arrayClass .int, .fieldLink RX0 17 "PacketStore$Ring" "starts" "[I", .fieldLink RX0 21 "PacketStore$Ring" "times" "[I"] ++ wsX00)
def wsX0_room : List Cond := .code yX0_room cX0_room 1 (some .int) :: ([.fieldLink RX0 7 "PacketStore$Ring" "room" "I"] ++ wsX00)
def wsX0_packets : List Cond := .code yX0_packets cX0_packets 1 (some .int) :: ([.fieldLink RX0 24 "PacketStore$Ring" "packets" "I"] ++ wsX00)
def wsX0_used : List Cond := .code yX0_used cX0_used 1 (some .int) :: ([.fieldLink RX0 27 "PacketStore$Ring" "used" "I"] ++ wsX00)
def wsX0_has : List Cond := .code yX0_has cX0_has 2 (some .boolean) :: ([.fieldLink RX0 24 "PacketStore$Ring" "packets" "I"] ++ wsX00)
def wsX0_wrapped : List Cond := .code yX0_wrapped cX0_wrapped 2 (some .int) :: ([.fieldLink RX0 7 "PacketStore$Ring" "room" "I"] ++ wsX00)
def wsX0_timeOf : List Cond := .code yX0_timeOf cX0_timeOf 2 (some .int) :: ([.fieldLink RX0 21 "PacketStore$Ring" "times" "[I", .fieldLink RX0 30 "PacketStore$Ring" "oldest" "I", .methodLink RX0 33 yX0_wrapped, .instanceMethod yX0_wrapped, .selects RX0 yX0_wrapped yX0_wrapped, .initialized RX0, .code yX0_wrapped cX0_wrapped 2 (some .int), .fieldLink RX0 7 "PacketStore$Ring" "room" "I"] ++ wsX00)
def wsX0_startOf : List Cond := .code yX0_startOf cX0_startOf 2 (some .int) :: ([.fieldLink RX0 17 "PacketStore$Ring" "starts" "[I", .fieldLink RX0 30 "PacketStore$Ring" "oldest" "I", .methodLink RX0 33 yX0_wrapped, .instanceMethod yX0_wrapped, .selects RX0 yX0_wrapped yX0_wrapped, .initialized RX0, .code yX0_wrapped cX0_wrapped 2 (some .int), .fieldLink RX0 7 "PacketStore$Ring" "room" "I"] ++ wsX00)
def wsX0_sizeOf : List Cond := .code yX0_sizeOf cX0_sizeOf 4 (some .int) :: ([.fieldLink RX0 24 "PacketStore$Ring" "packets" "I", .fieldLink RX0 40 "PacketStore$Ring" "end" "I", .fieldLink RX0 7 "PacketStore$Ring" "room" "I", .methodLink RX0 37 yX0_startOf, .instanceMethod yX0_startOf, .selects RX0 yX0_startOf yX0_startOf, .initialized RX0, .code yX0_startOf cX0_startOf 2 (some .int), .fieldLink RX0 17 "PacketStore$Ring" "starts" "[I", .fieldLink RX0 30 "PacketStore$Ring" "oldest" "I", .methodLink RX0 33 yX0_wrapped, .instanceMethod yX0_wrapped, .selects RX0 yX0_wrapped yX0_wrapped, .code yX0_wrapped cX0_wrapped 2 (some .int)] ++ wsX00)
def wsX0_byteOf : List Cond := .code yX0_byteOf cX0_byteOf 3 (some .byte) :: ([.fieldLink RX0 13 "PacketStore$Ring" "bytes" "[B", .methodLink RX0 37 yX0_startOf, .instanceMethod yX0_startOf, .selects RX0 yX0_startOf yX0_startOf, .initialized RX0, .code yX0_startOf cX0_startOf 2 (some .int), .fieldLink RX0 17 "PacketStore$Ring" "starts" "[I", .fieldLink RX0 30 "PacketStore$Ring" "oldest" "I", .methodLink RX0 33 yX0_wrapped, .instanceMethod yX0_wrapped, .selects RX0 yX0_wrapped yX0_wrapped, .code yX0_wrapped cX0_wrapped 2 (some .int), .fieldLink RX0 7 "PacketStore$Ring" "room" "I"] ++ wsX00)
def wsX0_copy : List Cond := .code yX0_copy cX0_copy 5 none :: ([.methodLink RX0 43 yX0_byteOf, .instanceMethod yX0_byteOf, .selects RX0 yX0_byteOf yX0_byteOf, .initialized RX0, .code yX0_byteOf cX0_byteOf 3 (some .byte), .fieldLink RX0 13 "PacketStore$Ring" "bytes" "[B", .methodLink RX0 37 yX0_startOf, .instanceMethod yX0_startOf, .selects RX0 yX0_startOf yX0_startOf, .code yX0_startOf cX0_startOf 2 (some .int), .fieldLink RX0 17 "PacketStore$Ring" "starts" "[I", .fieldLink RX0 30 "PacketStore$Ring" "oldest" "I", .methodLink RX0 33 yX0_wrapped, .instanceMethod yX0_wrapped, .selects RX0 yX0_wrapped yX0_wrapped, .code yX0_wrapped cX0_wrapped 2 (some .int), .fieldLink RX0 7 "PacketStore$Ring" "room" "I"] ++ wsX00)
def wsX0_add : List Cond := .code yX0_add cX0_add 6 none :: ([.fieldLink RX0 30 "PacketStore$Ring" "oldest" "I", .fieldLink RX0 24 "PacketStore$Ring" "packets" "I", .fieldLink RX0 17 "PacketStore$Ring" "starts" "[I", .fieldLink RX0 40 "PacketStore$Ring" "end" "I", .fieldLink RX0 21 "PacketStore$Ring" "times" "[I", .fieldLink RX0 13 "PacketStore$Ring" "bytes" "[B", .fieldLink RX0 27 "PacketStore$Ring" "used" "I", .methodLink RX0 33 yX0_wrapped, .instanceMethod yX0_wrapped, .selects RX0 yX0_wrapped yX0_wrapped, .initialized RX0, .code yX0_wrapped cX0_wrapped 2 (some .int), .fieldLink RX0 7 "PacketStore$Ring" "room" "I"] ++ wsX00)
def wsX0_dropOldest : List Cond := .code yX0_dropOldest cX0_dropOldest 1 none :: ([.fieldLink RX0 27 "PacketStore$Ring" "used" "I", .fieldLink RX0 30 "PacketStore$Ring" "oldest" "I", .fieldLink RX0 24 "PacketStore$Ring" "packets" "I", .methodLink RX0 47 yX0_sizeOf, .instanceMethod yX0_sizeOf, .selects RX0 yX0_sizeOf yX0_sizeOf, .initialized RX0, .code yX0_sizeOf cX0_sizeOf 4 (some .int), .fieldLink RX0 40 "PacketStore$Ring" "end" "I", .fieldLink RX0 7 "PacketStore$Ring" "room" "I", .methodLink RX0 37 yX0_startOf, .instanceMethod yX0_startOf, .selects RX0 yX0_startOf yX0_startOf, .code yX0_startOf cX0_startOf 2 (some .int), .fieldLink RX0 17 "PacketStore$Ring" "starts" "[I", .methodLink RX0 33 yX0_wrapped, .instanceMethod yX0_wrapped, .selects RX0 yX0_wrapped yX0_wrapped, .code yX0_wrapped cX0_wrapped 2 (some .int)] ++ wsX00)
def wsX1_init_r1 : List Cond := [Cond.methodLink RX1 1 objectInit, Cond.instanceMethod objectInit, Cond.code objectInit ⟨#[0xb1]⟩ 1 none, Cond.classLink RX1 7 RX0, Cond.instantiable RX0 8, Cond.initialized RX0, Cond.methodLink RX1 11 Lib.Math.min.name, Cond.static Lib.Math.min.name, Cond.initialized "java/lang/Math", Cond.code Lib.Math.min.name Lib.Math.min.code 2 (some .int), Cond.methodLink RX1 17 Lib.Math.max.name, Cond.static Lib.Math.max.name, Cond.code Lib.Math.max.name Lib.Math.max.code 2 (some .int), Cond.fieldLink RX1 23 "PacketStore" "ring" "LPacketStore$Ring;", Cond.arrayClass .byte, Cond.fieldLink RX1 27 "PacketStore" "text" "[B", Cond.fieldLink RX1 31 "PacketStore" "output" "[B", Cond.methodLink RX1 20 yX0_init, Cond.instanceMethod yX0_init, Cond.code yX0_init cX0_init 2 none, Cond.methodLink RX0 1 objectInit, Cond.fieldLink RX0 7 "PacketStore$Ring" "room" "I", Cond.fieldLink RX0 13 "PacketStore$Ring" "bytes" "[B", Cond.arrayClass .int]
def wsX1_init_r2 : List Cond := [Cond.fieldLink RX0 17 "PacketStore$Ring" "starts" "[I", Cond.fieldLink RX0 21 "PacketStore$Ring" "times" "[I"]
def wsX1_init : List Cond := .code yX1_init cX1_init 2 none :: ((wsX1_init_r1 ++ wsX1_init_r2) ++ wsX00 ++ wsX10)
def wsX1_put : List Cond := .code yX1_put cX1_put 2 (some .int) :: ([.fieldLink RX1 34 "PacketStore" "textSize" "I", .fieldLink RX1 27 "PacketStore" "text" "[B"] ++ wsX10)
def wsX1_dropOldest_r1 : List Cond := [Cond.fieldLink RX1 23 "PacketStore" "ring" "LPacketStore$Ring;", Cond.fieldLink RX1 78 "PacketStore" "passed" "I", Cond.methodLink RX1 105 yX0_dropOldest, Cond.instanceMethod yX0_dropOldest, Cond.selects RX0 yX0_dropOldest yX0_dropOldest, Cond.initialized RX0, Cond.code yX0_dropOldest cX0_dropOldest 1 none, Cond.fieldLink RX0 27 "PacketStore$Ring" "used" "I", Cond.fieldLink RX0 30 "PacketStore$Ring" "oldest" "I", Cond.fieldLink RX0 24 "PacketStore$Ring" "packets" "I", Cond.methodLink RX0 47 yX0_sizeOf, Cond.instanceMethod yX0_sizeOf, Cond.selects RX0 yX0_sizeOf yX0_sizeOf, Cond.code yX0_sizeOf cX0_sizeOf 4 (some .int), Cond.fieldLink RX0 40 "PacketStore$Ring" "end" "I", Cond.fieldLink RX0 7 "PacketStore$Ring" "room" "I", Cond.methodLink RX0 37 yX0_startOf, Cond.instanceMethod yX0_startOf, Cond.selects RX0 yX0_startOf yX0_startOf, Cond.code yX0_startOf cX0_startOf 2 (some .int), Cond.fieldLink RX0 17 "PacketStore$Ring" "starts" "[I", Cond.methodLink RX0 33 yX0_wrapped, Cond.instanceMethod yX0_wrapped, Cond.selects RX0 yX0_wrapped yX0_wrapped]
def wsX1_dropOldest_r2 : List Cond := [Cond.code yX0_wrapped cX0_wrapped 2 (some .int)]
def wsX1_dropOldest : List Cond := .code yX1_dropOldest cX1_dropOldest 1 none :: ((wsX1_dropOldest_r1 ++ wsX1_dropOldest_r2) ++ wsX10 ++ wsX00)
def wsX1_makeRoom_r1 : List Cond := [Cond.fieldLink RX1 23 "PacketStore" "ring" "LPacketStore$Ring;", Cond.methodLink RX1 56 yX0_packets, Cond.instanceMethod yX0_packets, Cond.selects RX0 yX0_packets yX0_packets, Cond.initialized RX0, Cond.code yX0_packets cX0_packets 1 (some .int), Cond.fieldLink RX0 24 "PacketStore$Ring" "packets" "I", Cond.methodLink RX1 94 yX0_used, Cond.instanceMethod yX0_used, Cond.selects RX0 yX0_used yX0_used, Cond.code yX0_used cX0_used 1 (some .int), Cond.fieldLink RX0 27 "PacketStore$Ring" "used" "I", Cond.methodLink RX1 38 yX0_room, Cond.instanceMethod yX0_room, Cond.selects RX0 yX0_room yX0_room, Cond.code yX0_room cX0_room 1 (some .int), Cond.fieldLink RX0 7 "PacketStore$Ring" "room" "I", Cond.methodLink RX1 62 yX1_dropOldest, Cond.instanceMethod yX1_dropOldest, Cond.selects RX1 yX1_dropOldest yX1_dropOldest, Cond.initialized RX1, Cond.code yX1_dropOldest cX1_dropOldest 1 none, Cond.fieldLink RX1 78 "PacketStore" "passed" "I", Cond.methodLink RX1 105 yX0_dropOldest]
def wsX1_makeRoom_r2 : List Cond := [Cond.instanceMethod yX0_dropOldest, Cond.selects RX0 yX0_dropOldest yX0_dropOldest, Cond.code yX0_dropOldest cX0_dropOldest 1 none, Cond.fieldLink RX0 30 "PacketStore$Ring" "oldest" "I", Cond.methodLink RX0 47 yX0_sizeOf, Cond.instanceMethod yX0_sizeOf, Cond.selects RX0 yX0_sizeOf yX0_sizeOf, Cond.code yX0_sizeOf cX0_sizeOf 4 (some .int), Cond.fieldLink RX0 40 "PacketStore$Ring" "end" "I", Cond.methodLink RX0 37 yX0_startOf, Cond.instanceMethod yX0_startOf, Cond.selects RX0 yX0_startOf yX0_startOf, Cond.code yX0_startOf cX0_startOf 2 (some .int), Cond.fieldLink RX0 17 "PacketStore$Ring" "starts" "[I", Cond.methodLink RX0 33 yX0_wrapped, Cond.instanceMethod yX0_wrapped, Cond.selects RX0 yX0_wrapped yX0_wrapped, Cond.code yX0_wrapped cX0_wrapped 2 (some .int)]
def wsX1_makeRoom : List Cond := .code yX1_makeRoom cX1_makeRoom 4 (some .int) :: ((wsX1_makeRoom_r1 ++ wsX1_makeRoom_r2) ++ wsX10 ++ wsX00)
def wsX1_keep_r1 : List Cond := [Cond.fieldLink RX1 34 "PacketStore" "textSize" "I", Cond.fieldLink RX1 23 "PacketStore" "ring" "LPacketStore$Ring;", Cond.fieldLink RX1 27 "PacketStore" "text" "[B", Cond.fieldLink RX1 50 "PacketStore" "drivenOut" "I", Cond.fieldLink RX1 53 "PacketStore" "come" "I", Cond.methodLink RX1 38 yX0_room, Cond.instanceMethod yX0_room, Cond.selects RX0 yX0_room yX0_room, Cond.initialized RX0, Cond.code yX0_room cX0_room 1 (some .int), Cond.fieldLink RX0 7 "PacketStore$Ring" "room" "I", Cond.methodLink RX1 42 yX1_makeRoom, Cond.instanceMethod yX1_makeRoom, Cond.selects RX1 yX1_makeRoom yX1_makeRoom, Cond.initialized RX1, Cond.code yX1_makeRoom cX1_makeRoom 4 (some .int), Cond.methodLink RX1 56 yX0_packets, Cond.instanceMethod yX0_packets, Cond.selects RX0 yX0_packets yX0_packets, Cond.code yX0_packets cX0_packets 1 (some .int), Cond.fieldLink RX0 24 "PacketStore$Ring" "packets" "I", Cond.methodLink RX1 94 yX0_used, Cond.instanceMethod yX0_used, Cond.selects RX0 yX0_used yX0_used]
def wsX1_keep_r2 : List Cond := [Cond.code yX0_used cX0_used 1 (some .int), Cond.fieldLink RX0 27 "PacketStore$Ring" "used" "I", Cond.methodLink RX1 62 yX1_dropOldest, Cond.instanceMethod yX1_dropOldest, Cond.selects RX1 yX1_dropOldest yX1_dropOldest, Cond.code yX1_dropOldest cX1_dropOldest 1 none, Cond.fieldLink RX1 78 "PacketStore" "passed" "I", Cond.methodLink RX1 105 yX0_dropOldest, Cond.instanceMethod yX0_dropOldest, Cond.selects RX0 yX0_dropOldest yX0_dropOldest, Cond.code yX0_dropOldest cX0_dropOldest 1 none, Cond.fieldLink RX0 30 "PacketStore$Ring" "oldest" "I", Cond.methodLink RX0 47 yX0_sizeOf, Cond.instanceMethod yX0_sizeOf, Cond.selects RX0 yX0_sizeOf yX0_sizeOf, Cond.code yX0_sizeOf cX0_sizeOf 4 (some .int), Cond.fieldLink RX0 40 "PacketStore$Ring" "end" "I", Cond.methodLink RX0 37 yX0_startOf, Cond.instanceMethod yX0_startOf, Cond.selects RX0 yX0_startOf yX0_startOf, Cond.code yX0_startOf cX0_startOf 2 (some .int), Cond.fieldLink RX0 17 "PacketStore$Ring" "starts" "[I", Cond.methodLink RX0 33 yX0_wrapped, Cond.instanceMethod yX0_wrapped]
def wsX1_keep_r3 : List Cond := [Cond.selects RX0 yX0_wrapped yX0_wrapped, Cond.code yX0_wrapped cX0_wrapped 2 (some .int), Cond.methodLink RX1 46 yX0_add, Cond.instanceMethod yX0_add, Cond.selects RX0 yX0_add yX0_add, Cond.code yX0_add cX0_add 6 none, Cond.fieldLink RX0 21 "PacketStore$Ring" "times" "[I", Cond.fieldLink RX0 13 "PacketStore$Ring" "bytes" "[B"]
def wsX1_keep : List Cond := .code yX1_keep cX1_keep 4 (some .int) :: ((wsX1_keep_r1 ++ (wsX1_keep_r2 ++ wsX1_keep_r3)) ++ wsX10 ++ wsX00)
def wsX1_delete_r1 : List Cond := [Cond.fieldLink RX1 23 "PacketStore" "ring" "LPacketStore$Ring;", Cond.fieldLink RX1 65 "PacketStore" "deleted" "I", Cond.methodLink RX1 56 yX0_packets, Cond.instanceMethod yX0_packets, Cond.selects RX0 yX0_packets yX0_packets, Cond.initialized RX0, Cond.code yX0_packets cX0_packets 1 (some .int), Cond.fieldLink RX0 24 "PacketStore$Ring" "packets" "I", Cond.methodLink RX1 59 yX0_timeOf, Cond.instanceMethod yX0_timeOf, Cond.selects RX0 yX0_timeOf yX0_timeOf, Cond.code yX0_timeOf cX0_timeOf 2 (some .int), Cond.fieldLink RX0 21 "PacketStore$Ring" "times" "[I", Cond.fieldLink RX0 30 "PacketStore$Ring" "oldest" "I", Cond.methodLink RX0 33 yX0_wrapped, Cond.instanceMethod yX0_wrapped, Cond.selects RX0 yX0_wrapped yX0_wrapped, Cond.code yX0_wrapped cX0_wrapped 2 (some .int), Cond.fieldLink RX0 7 "PacketStore$Ring" "room" "I", Cond.methodLink RX1 62 yX1_dropOldest, Cond.instanceMethod yX1_dropOldest, Cond.selects RX1 yX1_dropOldest yX1_dropOldest, Cond.initialized RX1, Cond.code yX1_dropOldest cX1_dropOldest 1 none]
def wsX1_delete_r2 : List Cond := [Cond.fieldLink RX1 78 "PacketStore" "passed" "I", Cond.methodLink RX1 105 yX0_dropOldest, Cond.instanceMethod yX0_dropOldest, Cond.selects RX0 yX0_dropOldest yX0_dropOldest, Cond.code yX0_dropOldest cX0_dropOldest 1 none, Cond.fieldLink RX0 27 "PacketStore$Ring" "used" "I", Cond.methodLink RX0 47 yX0_sizeOf, Cond.instanceMethod yX0_sizeOf, Cond.selects RX0 yX0_sizeOf yX0_sizeOf, Cond.code yX0_sizeOf cX0_sizeOf 4 (some .int), Cond.fieldLink RX0 40 "PacketStore$Ring" "end" "I", Cond.methodLink RX0 37 yX0_startOf, Cond.instanceMethod yX0_startOf, Cond.selects RX0 yX0_startOf yX0_startOf, Cond.code yX0_startOf cX0_startOf 2 (some .int), Cond.fieldLink RX0 17 "PacketStore$Ring" "starts" "[I"]
def wsX1_delete : List Cond := .code yX1_delete cX1_delete 4 (some .int) :: ((wsX1_delete_r1 ++ wsX1_delete_r2) ++ wsX10 ++ wsX00)
def wsX1_begin : List Cond := .code yX1_begin cX1_begin 3 (some .boolean) :: ([.fieldLink RX1 68 "PacketStore" "underWay" "Z", .fieldLink RX1 72 "PacketStore" "from" "I", .fieldLink RX1 75 "PacketStore" "to" "I", .fieldLink RX1 78 "PacketStore" "passed" "I"] ++ wsX10)
def wsX1_stop : List Cond := .code yX1_stop cX1_stop 2 (some .boolean) :: ([.fieldLink RX1 68 "PacketStore" "underWay" "Z"] ++ wsX10)
def wsX1_isWanted : List Cond := .code yX1_isWanted cX1_isWanted 2 (some .boolean) :: ([.fieldLink RX1 72 "PacketStore" "from" "I", .fieldLink RX1 75 "PacketStore" "to" "I"] ++ wsX10)
def wsX1_passUnwanted_r1 : List Cond := [Cond.fieldLink RX1 78 "PacketStore" "passed" "I", Cond.fieldLink RX1 23 "PacketStore" "ring" "LPacketStore$Ring;", Cond.methodLink RX1 56 yX0_packets, Cond.instanceMethod yX0_packets, Cond.selects RX0 yX0_packets yX0_packets, Cond.initialized RX0, Cond.code yX0_packets cX0_packets 1 (some .int), Cond.fieldLink RX0 24 "PacketStore$Ring" "packets" "I", Cond.methodLink RX1 59 yX0_timeOf, Cond.instanceMethod yX0_timeOf, Cond.selects RX0 yX0_timeOf yX0_timeOf, Cond.code yX0_timeOf cX0_timeOf 2 (some .int), Cond.fieldLink RX0 21 "PacketStore$Ring" "times" "[I", Cond.fieldLink RX0 30 "PacketStore$Ring" "oldest" "I", Cond.methodLink RX0 33 yX0_wrapped, Cond.instanceMethod yX0_wrapped, Cond.selects RX0 yX0_wrapped yX0_wrapped, Cond.code yX0_wrapped cX0_wrapped 2 (some .int), Cond.fieldLink RX0 7 "PacketStore$Ring" "room" "I", Cond.methodLink RX1 106 yX1_isWanted, Cond.instanceMethod yX1_isWanted, Cond.selects RX1 yX1_isWanted yX1_isWanted, Cond.initialized RX1, Cond.code yX1_isWanted cX1_isWanted 2 (some .boolean)]
def wsX1_passUnwanted_r2 : List Cond := [Cond.fieldLink RX1 72 "PacketStore" "from" "I", Cond.fieldLink RX1 75 "PacketStore" "to" "I"]
def wsX1_passUnwanted : List Cond := .code yX1_passUnwanted cX1_passUnwanted 1 none :: ((wsX1_passUnwanted_r1 ++ wsX1_passUnwanted_r2) ++ wsX10 ++ wsX00)
def wsX1_next_r1 : List Cond := [Cond.fieldLink RX1 68 "PacketStore" "underWay" "Z", Cond.fieldLink RX1 78 "PacketStore" "passed" "I", Cond.fieldLink RX1 23 "PacketStore" "ring" "LPacketStore$Ring;", Cond.fieldLink RX1 31 "PacketStore" "output" "[B", Cond.fieldLink RX1 91 "PacketStore" "outputSize" "I", Cond.methodLink RX1 81 yX1_passUnwanted, Cond.instanceMethod yX1_passUnwanted, Cond.selects RX1 yX1_passUnwanted yX1_passUnwanted, Cond.initialized RX1, Cond.code yX1_passUnwanted cX1_passUnwanted 1 none, Cond.methodLink RX1 56 yX0_packets, Cond.instanceMethod yX0_packets, Cond.selects RX0 yX0_packets yX0_packets, Cond.initialized RX0, Cond.code yX0_packets cX0_packets 1 (some .int), Cond.fieldLink RX0 24 "PacketStore$Ring" "packets" "I", Cond.methodLink RX1 59 yX0_timeOf, Cond.instanceMethod yX0_timeOf, Cond.selects RX0 yX0_timeOf yX0_timeOf, Cond.code yX0_timeOf cX0_timeOf 2 (some .int), Cond.fieldLink RX0 21 "PacketStore$Ring" "times" "[I", Cond.fieldLink RX0 30 "PacketStore$Ring" "oldest" "I", Cond.methodLink RX0 33 yX0_wrapped, Cond.instanceMethod yX0_wrapped]
def wsX1_next_r2 : List Cond := [Cond.selects RX0 yX0_wrapped yX0_wrapped, Cond.code yX0_wrapped cX0_wrapped 2 (some .int), Cond.fieldLink RX0 7 "PacketStore$Ring" "room" "I", Cond.methodLink RX1 106 yX1_isWanted, Cond.instanceMethod yX1_isWanted, Cond.selects RX1 yX1_isWanted yX1_isWanted, Cond.code yX1_isWanted cX1_isWanted 2 (some .boolean), Cond.fieldLink RX1 72 "PacketStore" "from" "I", Cond.fieldLink RX1 75 "PacketStore" "to" "I", Cond.methodLink RX1 84 yX0_sizeOf, Cond.instanceMethod yX0_sizeOf, Cond.selects RX0 yX0_sizeOf yX0_sizeOf, Cond.code yX0_sizeOf cX0_sizeOf 4 (some .int), Cond.fieldLink RX0 40 "PacketStore$Ring" "end" "I", Cond.methodLink RX0 37 yX0_startOf, Cond.instanceMethod yX0_startOf, Cond.selects RX0 yX0_startOf yX0_startOf, Cond.code yX0_startOf cX0_startOf 2 (some .int), Cond.fieldLink RX0 17 "PacketStore$Ring" "starts" "[I", Cond.methodLink RX1 87 yX0_copy, Cond.instanceMethod yX0_copy, Cond.selects RX0 yX0_copy yX0_copy, Cond.code yX0_copy cX0_copy 5 none, Cond.methodLink RX0 43 yX0_byteOf]
def wsX1_next_r3 : List Cond := [Cond.instanceMethod yX0_byteOf, Cond.selects RX0 yX0_byteOf yX0_byteOf, Cond.code yX0_byteOf cX0_byteOf 3 (some .byte), Cond.fieldLink RX0 13 "PacketStore$Ring" "bytes" "[B"]
def wsX1_next : List Cond := .code yX1_next cX1_next 3 (some .int) :: ((wsX1_next_r1 ++ (wsX1_next_r2 ++ wsX1_next_r3)) ++ wsX10 ++ wsX00)
def wsX1_out : List Cond := .code yX1_out cX1_out 2 (some .int) :: ([.fieldLink RX1 91 "PacketStore" "outputSize" "I", .fieldLink RX1 31 "PacketStore" "output" "[B"] ++ wsX10)
def wsX1_count : List Cond := .code yX1_count cX1_count 2 (some .int) :: ([.fieldLink RX1 23 "PacketStore" "ring" "LPacketStore$Ring;", .fieldLink RX1 53 "PacketStore" "come" "I", .fieldLink RX1 50 "PacketStore" "drivenOut" "I", .fieldLink RX1 65 "PacketStore" "deleted" "I", .fieldLink RX1 68 "PacketStore" "underWay" "Z", .fieldLink RX1 91 "PacketStore" "outputSize" "I", .methodLink RX1 56 yX0_packets, .instanceMethod yX0_packets, .selects RX0 yX0_packets yX0_packets, .initialized RX0, .code yX0_packets cX0_packets 1 (some .int), .fieldLink RX0 24 "PacketStore$Ring" "packets" "I", .methodLink RX1 94 yX0_used, .instanceMethod yX0_used, .selects RX0 yX0_used yX0_used, .code yX0_used cX0_used 1 (some .int), .fieldLink RX0 27 "PacketStore$Ring" "used" "I", .methodLink RX1 38 yX0_room, .instanceMethod yX0_room, .selects RX0 yX0_room yX0_room, .code yX0_room cX0_room 1 (some .int), .fieldLink RX0 7 "PacketStore$Ring" "room" "I"] ++ wsX10 ++ wsX00)
def wsX1_about_r1 : List Cond := [Cond.fieldLink RX1 23 "PacketStore" "ring" "LPacketStore$Ring;", Cond.methodLink RX1 97 yX0_has, Cond.instanceMethod yX0_has, Cond.selects RX0 yX0_has yX0_has, Cond.initialized RX0, Cond.code yX0_has cX0_has 2 (some .boolean), Cond.fieldLink RX0 24 "PacketStore$Ring" "packets" "I", Cond.methodLink RX1 59 yX0_timeOf, Cond.instanceMethod yX0_timeOf, Cond.selects RX0 yX0_timeOf yX0_timeOf, Cond.code yX0_timeOf cX0_timeOf 2 (some .int), Cond.fieldLink RX0 21 "PacketStore$Ring" "times" "[I", Cond.fieldLink RX0 30 "PacketStore$Ring" "oldest" "I", Cond.methodLink RX0 33 yX0_wrapped, Cond.instanceMethod yX0_wrapped, Cond.selects RX0 yX0_wrapped yX0_wrapped, Cond.code yX0_wrapped cX0_wrapped 2 (some .int), Cond.fieldLink RX0 7 "PacketStore$Ring" "room" "I", Cond.methodLink RX1 84 yX0_sizeOf, Cond.instanceMethod yX0_sizeOf, Cond.selects RX0 yX0_sizeOf yX0_sizeOf, Cond.code yX0_sizeOf cX0_sizeOf 4 (some .int), Cond.fieldLink RX0 40 "PacketStore$Ring" "end" "I", Cond.methodLink RX0 37 yX0_startOf]
def wsX1_about_r2 : List Cond := [Cond.instanceMethod yX0_startOf, Cond.selects RX0 yX0_startOf yX0_startOf, Cond.code yX0_startOf cX0_startOf 2 (some .int), Cond.fieldLink RX0 17 "PacketStore$Ring" "starts" "[I"]
def wsX1_about : List Cond := .code yX1_about cX1_about 3 (some .int) :: ((wsX1_about_r1 ++ wsX1_about_r2) ++ wsX10 ++ wsX00)
def wsX1_byteAt_r1 : List Cond := [Cond.fieldLink RX1 23 "PacketStore" "ring" "LPacketStore$Ring;", Cond.methodLink RX1 97 yX0_has, Cond.instanceMethod yX0_has, Cond.selects RX0 yX0_has yX0_has, Cond.initialized RX0, Cond.code yX0_has cX0_has 2 (some .boolean), Cond.fieldLink RX0 24 "PacketStore$Ring" "packets" "I", Cond.methodLink RX1 84 yX0_sizeOf, Cond.instanceMethod yX0_sizeOf, Cond.selects RX0 yX0_sizeOf yX0_sizeOf, Cond.code yX0_sizeOf cX0_sizeOf 4 (some .int), Cond.fieldLink RX0 40 "PacketStore$Ring" "end" "I", Cond.fieldLink RX0 7 "PacketStore$Ring" "room" "I", Cond.methodLink RX0 37 yX0_startOf, Cond.instanceMethod yX0_startOf, Cond.selects RX0 yX0_startOf yX0_startOf, Cond.code yX0_startOf cX0_startOf 2 (some .int), Cond.fieldLink RX0 17 "PacketStore$Ring" "starts" "[I", Cond.fieldLink RX0 30 "PacketStore$Ring" "oldest" "I", Cond.methodLink RX0 33 yX0_wrapped, Cond.instanceMethod yX0_wrapped, Cond.selects RX0 yX0_wrapped yX0_wrapped, Cond.code yX0_wrapped cX0_wrapped 2 (some .int), Cond.methodLink RX1 101 yX0_byteOf]
def wsX1_byteAt_r2 : List Cond := [Cond.instanceMethod yX0_byteOf, Cond.selects RX0 yX0_byteOf yX0_byteOf, Cond.code yX0_byteOf cX0_byteOf 3 (some .byte), Cond.fieldLink RX0 13 "PacketStore$Ring" "bytes" "[B"]
def wsX1_byteAt : List Cond := .code yX1_byteAt cX1_byteAt 3 (some .int) :: ((wsX1_byteAt_r1 ++ wsX1_byteAt_r2) ++ wsX10 ++ wsX00)
def wsL_cell : List Cond := .code yL_cell cL_cell 2 (some .int) :: ([])
set_option maxRecDepth 20000 in
theorem ggX0_timeOf_X0_wrapped : GoodIn wsX0_timeOf wsX0_wrapped := goodIn_r _ [7, 8, 9, 10, 11, 12, 13, 14, 15, 16] (by decide +kernel) (by decide +kernel)
set_option maxRecDepth 20000 in
theorem gX0_timeOf_X0_wrapped : GoodIn wsX0_timeOf (wsV RX0 33 RX0 yX0_wrapped wsX0_wrapped) := goodIn_app (goodIn_of _ (by decide +kernel)) ggX0_timeOf_X0_wrapped
set_option maxRecDepth 20000 in
theorem ggX0_sizeOf_X0_startOf : GoodIn wsX0_sizeOf wsX0_startOf := goodIn_r _ [8, 9, 10, 11, 12, 13, 7, 14, 3, 15, 16, 17, 18, 19, 20, 21, 22] (by decide +kernel) (by decide +kernel)
set_option maxRecDepth 20000 in
theorem gX0_sizeOf_X0_startOf : GoodIn wsX0_sizeOf (wsV RX0 37 RX0 yX0_startOf wsX0_startOf) := goodIn_app (goodIn_of _ (by decide +kernel)) ggX0_sizeOf_X0_startOf
set_option maxRecDepth 20000 in
theorem ggX0_byteOf_X0_startOf : GoodIn wsX0_byteOf wsX0_startOf := goodIn_r _ [6, 7, 8, 9, 10, 11, 5, 12, 13, 14, 15, 16, 17, 18, 19, 20, 21] (by decide +kernel) (by decide +kernel)
set_option maxRecDepth 20000 in
theorem gX0_byteOf_X0_startOf : GoodIn wsX0_byteOf (wsV RX0 37 RX0 yX0_startOf wsX0_startOf) := goodIn_app (goodIn_of _ (by decide +kernel)) ggX0_byteOf_X0_startOf
set_option maxRecDepth 20000 in
theorem ggX0_byteOf_X0_wrapped : GoodIn wsX0_byteOf wsX0_wrapped := goodIn_r _ [12, 13, 14, 15, 16, 17, 18, 19, 20, 21] (by decide +kernel) (by decide +kernel)
set_option maxRecDepth 20000 in
theorem gX0_byteOf_X0_wrapped : GoodIn wsX0_byteOf (wsV RX0 33 RX0 yX0_wrapped wsX0_wrapped) := goodIn_app (goodIn_of _ (by decide +kernel)) ggX0_byteOf_X0_wrapped
set_option maxRecDepth 20000 in
theorem ggX0_copy_X0_byteOf : GoodIn wsX0_copy wsX0_byteOf := goodIn_r _ [5, 6, 7, 8, 9, 4, 10, 11, 12, 13, 14, 15, 16, 17, 18, 19, 20, 21, 22, 23, 24, 25] (by decide +kernel) (by decide +kernel)
set_option maxRecDepth 20000 in
theorem gX0_copy_X0_byteOf : GoodIn wsX0_copy (wsV RX0 43 RX0 yX0_byteOf wsX0_byteOf) := goodIn_app (goodIn_of _ (by decide +kernel)) ggX0_copy_X0_byteOf
set_option maxRecDepth 20000 in
theorem ggX0_add_X0_wrapped : GoodIn wsX0_add wsX0_wrapped := goodIn_r _ [12, 13, 14, 15, 16, 17, 18, 19, 20, 21] (by decide +kernel) (by decide +kernel)
set_option maxRecDepth 20000 in
theorem gX0_add_X0_wrapped : GoodIn wsX0_add (wsV RX0 33 RX0 yX0_wrapped wsX0_wrapped) := goodIn_app (goodIn_of _ (by decide +kernel)) ggX0_add_X0_wrapped
set_option maxRecDepth 20000 in
theorem ggX0_dropOldest_X0_sizeOf : GoodIn wsX0_dropOldest wsX0_sizeOf := goodIn_r _ [8, 3, 9, 10, 11, 12, 13, 7, 14, 15, 2, 16, 17, 18, 19, 20, 21, 22, 23, 24, 25, 26, 27] (by decide +kernel) (by decide +kernel)
set_option maxRecDepth 20000 in
theorem gX0_dropOldest_X0_sizeOf : GoodIn wsX0_dropOldest (wsV RX0 47 RX0 yX0_sizeOf wsX0_sizeOf) := goodIn_app (goodIn_of _ (by decide +kernel)) ggX0_dropOldest_X0_sizeOf
set_option maxRecDepth 20000 in
theorem ggX0_dropOldest_X0_wrapped : GoodIn wsX0_dropOldest wsX0_wrapped := goodIn_r _ [19, 10, 20, 21, 22, 23, 24, 25, 26, 27] (by decide +kernel) (by decide +kernel)
set_option maxRecDepth 20000 in
theorem gX0_dropOldest_X0_wrapped : GoodIn wsX0_dropOldest (wsV RX0 33 RX0 yX0_wrapped wsX0_wrapped) := goodIn_app (goodIn_of _ (by decide +kernel)) ggX0_dropOldest_X0_wrapped
set_option maxRecDepth 20000 in
theorem ggX0_startOf_X0_wrapped : GoodIn wsX0_startOf wsX0_wrapped := goodIn_r _ [7, 8, 9, 10, 11, 12, 13, 14, 15, 16] (by decide +kernel) (by decide +kernel)
set_option maxRecDepth 20000 in
theorem gX0_startOf_X0_wrapped : GoodIn wsX0_startOf (wsV RX0 33 RX0 yX0_wrapped wsX0_wrapped) := goodIn_app (goodIn_of _ (by decide +kernel)) ggX0_startOf_X0_wrapped
set_option maxRecDepth 20000 in
theorem ggX1_init_X0_init : GoodIn wsX1_init wsX0_init := goodIn_r _ [20, 21, 2, 3, 22, 15, 23, 24, 25, 26, 27, 28, 29, 30, 31, 32, 33, 34] (by decide +kernel) (by decide +kernel)
set_option maxRecDepth 20000 in
theorem gX1_init_X0_init : GoodIn wsX1_init (wsX0_init) := ggX1_init_X0_init
set_option maxRecDepth 20000 in
theorem ggX1_keep_X0_room : GoodIn wsX1_keep wsX0_room := goodIn_r _ [10, 11, 69, 70, 71, 72, 73, 74, 75, 76] (by decide +kernel) (by decide +kernel)
set_option maxRecDepth 20000 in
theorem gX1_keep_X0_room : GoodIn wsX1_keep (wsV RX1 38 RX0 yX0_room wsX0_room) := goodIn_app (goodIn_of _ (by decide +kernel)) ggX1_keep_X0_room
set_option maxRecDepth 20000 in
theorem ggX1_keep_X1_makeRoom : GoodIn wsX1_keep wsX1_makeRoom := goodIn_r _ [16, 2, 17, 18, 19, 9, 20, 21, 22, 23, 24, 25, 26, 6, 7, 8, 10, 11, 27, 28, 29, 15, 30, 31, 32, 33, 34, 35, 36, 37, 38, 39, 40, 41, 42, 43, 44, 45, 46, 47, 48, 49, 50, 57, 58, 59, 60, 61, 62, 63, 64, 65, 66, 67, 68, 69, 70, 71, 72, 73, 74, 75, 76] (by decide +kernel) (by decide +kernel)
set_option maxRecDepth 20000 in
theorem gX1_keep_X1_makeRoom : GoodIn wsX1_keep (wsV RX1 42 RX1 yX1_makeRoom wsX1_makeRoom) := goodIn_app (goodIn_of _ (by decide +kernel)) ggX1_keep_X1_makeRoom
set_option maxRecDepth 20000 in
theorem ggX1_keep_X0_add : GoodIn wsX1_keep wsX0_add := goodIn_r _ [54, 36, 21, 46, 41, 55, 56, 26, 47, 48, 49, 9, 50, 11, 69, 70, 71, 72, 73, 74, 75, 76] (by decide +kernel) (by decide +kernel)
set_option maxRecDepth 20000 in
theorem gX1_keep_X0_add : GoodIn wsX1_keep (wsV RX1 46 RX0 yX0_add wsX0_add) := goodIn_app (goodIn_of _ (by decide +kernel)) ggX1_keep_X0_add
set_option maxRecDepth 20000 in
theorem ggX1_delete_X0_packets : GoodIn wsX1_delete wsX0_packets := goodIn_r _ [7, 8, 53, 54, 55, 56, 57, 58, 59, 60] (by decide +kernel) (by decide +kernel)
set_option maxRecDepth 20000 in
theorem gX1_delete_X0_packets : GoodIn wsX1_delete (wsV RX1 56 RX0 yX0_packets wsX0_packets) := goodIn_app (goodIn_of _ (by decide +kernel)) ggX1_delete_X0_packets
set_option maxRecDepth 20000 in
theorem ggX1_delete_X0_timeOf : GoodIn wsX1_delete wsX0_timeOf := goodIn_r _ [12, 13, 14, 15, 16, 17, 6, 18, 19, 53, 54, 55, 56, 57, 58, 59, 60] (by decide +kernel) (by decide +kernel)
set_option maxRecDepth 20000 in
theorem gX1_delete_X0_timeOf : GoodIn wsX1_delete (wsV RX1 59 RX0 yX0_timeOf wsX0_timeOf) := goodIn_app (goodIn_of _ (by decide +kernel)) ggX1_delete_X0_timeOf
set_option maxRecDepth 20000 in
theorem ggX1_delete_X1_dropOldest : GoodIn wsX1_delete wsX1_dropOldest := goodIn_r _ [24, 1, 25, 26, 27, 28, 6, 29, 30, 14, 8, 31, 32, 33, 34, 35, 19, 36, 37, 38, 39, 40, 15, 16, 17, 18, 41, 42, 43, 44, 45, 46, 47, 48, 49, 50, 51, 52, 53, 54, 55, 56, 57, 58, 59, 60] (by decide +kernel) (by decide +kernel)
set_option maxRecDepth 20000 in
theorem gX1_delete_X1_dropOldest : GoodIn wsX1_delete (wsV RX1 62 RX1 yX1_dropOldest wsX1_dropOldest) := goodIn_app (goodIn_of _ (by decide +kernel)) ggX1_delete_X1_dropOldest
set_option maxRecDepth 20000 in
theorem ggX1_next_X1_passUnwanted : GoodIn wsX1_next wsX1_passUnwanted := goodIn_r _ [10, 2, 3, 11, 12, 13, 14, 15, 16, 17, 18, 19, 20, 21, 22, 23, 24, 25, 26, 27, 28, 29, 30, 9, 31, 32, 33, 53, 54, 55, 56, 57, 58, 59, 60, 61, 62, 63, 64, 65, 66, 67, 68, 69, 70, 71, 72] (by decide +kernel) (by decide +kernel)
set_option maxRecDepth 20000 in
theorem gX1_next_X1_passUnwanted : GoodIn wsX1_next (wsV RX1 81 RX1 yX1_passUnwanted wsX1_passUnwanted) := goodIn_app (goodIn_of _ (by decide +kernel)) ggX1_next_X1_passUnwanted
set_option maxRecDepth 20000 in
theorem ggX1_next_X0_packets : GoodIn wsX1_next wsX0_packets := goodIn_r _ [15, 16, 65, 66, 67, 68, 69, 70, 71, 72] (by decide +kernel) (by decide +kernel)
set_option maxRecDepth 20000 in
theorem gX1_next_X0_packets : GoodIn wsX1_next (wsV RX1 56 RX0 yX0_packets wsX0_packets) := goodIn_app (goodIn_of _ (by decide +kernel)) ggX1_next_X0_packets
set_option maxRecDepth 20000 in
theorem ggX1_next_X0_sizeOf : GoodIn wsX1_next wsX0_sizeOf := goodIn_r _ [37, 16, 38, 27, 39, 40, 41, 14, 42, 43, 22, 23, 24, 25, 26, 65, 66, 67, 68, 69, 70, 71, 72] (by decide +kernel) (by decide +kernel)
set_option maxRecDepth 20000 in
theorem gX1_next_X0_sizeOf : GoodIn wsX1_next (wsV RX1 84 RX0 yX0_sizeOf wsX0_sizeOf) := goodIn_app (goodIn_of _ (by decide +kernel)) ggX1_next_X0_sizeOf
set_option maxRecDepth 20000 in
theorem ggX1_next_X0_copy : GoodIn wsX1_next wsX0_copy := goodIn_r _ [47, 48, 49, 50, 14, 51, 52, 39, 40, 41, 42, 43, 22, 23, 24, 25, 26, 27, 65, 66, 67, 68, 69, 70, 71, 72] (by decide +kernel) (by decide +kernel)
set_option maxRecDepth 20000 in
theorem gX1_next_X0_copy : GoodIn wsX1_next (wsV RX1 87 RX0 yX0_copy wsX0_copy) := goodIn_app (goodIn_of _ (by decide +kernel)) ggX1_next_X0_copy
set_option maxRecDepth 20000 in
theorem ggX1_count_X0_packets : GoodIn wsX1_count wsX0_packets := goodIn_r _ [11, 12, 35, 36, 37, 38, 39, 40, 41, 42] (by decide +kernel) (by decide +kernel)
set_option maxRecDepth 20000 in
theorem gX1_count_X0_packets : GoodIn wsX1_count (wsV RX1 56 RX0 yX0_packets wsX0_packets) := goodIn_app (goodIn_of _ (by decide +kernel)) ggX1_count_X0_packets
set_option maxRecDepth 20000 in
theorem ggX1_count_X0_used : GoodIn wsX1_count wsX0_used := goodIn_r _ [16, 17, 35, 36, 37, 38, 39, 40, 41, 42] (by decide +kernel) (by decide +kernel)
set_option maxRecDepth 20000 in
theorem gX1_count_X0_used : GoodIn wsX1_count (wsV RX1 94 RX0 yX0_used wsX0_used) := goodIn_app (goodIn_of _ (by decide +kernel)) ggX1_count_X0_used
set_option maxRecDepth 20000 in
theorem ggX1_count_X0_room : GoodIn wsX1_count wsX0_room := goodIn_r _ [21, 22, 35, 36, 37, 38, 39, 40, 41, 42] (by decide +kernel) (by decide +kernel)
set_option maxRecDepth 20000 in
theorem gX1_count_X0_room : GoodIn wsX1_count (wsV RX1 38 RX0 yX0_room wsX0_room) := goodIn_app (goodIn_of _ (by decide +kernel)) ggX1_count_X0_room
set_option maxRecDepth 20000 in
theorem ggX1_about_X0_has : GoodIn wsX1_about wsX0_has := goodIn_r _ [6, 7, 41, 42, 43, 44, 45, 46, 47, 48] (by decide +kernel) (by decide +kernel)
set_option maxRecDepth 20000 in
theorem gX1_about_X0_has : GoodIn wsX1_about (wsV RX1 97 RX0 yX0_has wsX0_has) := goodIn_app (goodIn_of _ (by decide +kernel)) ggX1_about_X0_has
set_option maxRecDepth 20000 in
theorem ggX1_about_X0_timeOf : GoodIn wsX1_about wsX0_timeOf := goodIn_r _ [11, 12, 13, 14, 15, 16, 5, 17, 18, 41, 42, 43, 44, 45, 46, 47, 48] (by decide +kernel) (by decide +kernel)
set_option maxRecDepth 20000 in
theorem gX1_about_X0_timeOf : GoodIn wsX1_about (wsV RX1 59 RX0 yX0_timeOf wsX0_timeOf) := goodIn_app (goodIn_of _ (by decide +kernel)) ggX1_about_X0_timeOf
set_option maxRecDepth 20000 in
theorem ggX1_about_X0_sizeOf : GoodIn wsX1_about wsX0_sizeOf := goodIn_r _ [22, 7, 23, 18, 24, 25, 26, 5, 27, 28, 13, 14, 15, 16, 17, 41, 42, 43, 44, 45, 46, 47, 48] (by decide +kernel) (by decide +kernel)
set_option maxRecDepth 20000 in
theorem gX1_about_X0_sizeOf : GoodIn wsX1_about (wsV RX1 84 RX0 yX0_sizeOf wsX0_sizeOf) := goodIn_app (goodIn_of _ (by decide +kernel)) ggX1_about_X0_sizeOf
set_option maxRecDepth 20000 in
theorem ggX1_byteAt_X0_has : GoodIn wsX1_byteAt wsX0_has := goodIn_r _ [6, 7, 41, 42, 43, 44, 45, 46, 47, 48] (by decide +kernel) (by decide +kernel)
set_option maxRecDepth 20000 in
theorem gX1_byteAt_X0_has : GoodIn wsX1_byteAt (wsV RX1 97 RX0 yX0_has wsX0_has) := goodIn_app (goodIn_of _ (by decide +kernel)) ggX1_byteAt_X0_has
set_option maxRecDepth 20000 in
theorem ggX1_byteAt_X0_sizeOf : GoodIn wsX1_byteAt wsX0_sizeOf := goodIn_r _ [11, 7, 12, 13, 14, 15, 16, 5, 17, 18, 19, 20, 21, 22, 23, 41, 42, 43, 44, 45, 46, 47, 48] (by decide +kernel) (by decide +kernel)
set_option maxRecDepth 20000 in
theorem gX1_byteAt_X0_sizeOf : GoodIn wsX1_byteAt (wsV RX1 84 RX0 yX0_sizeOf wsX0_sizeOf) := goodIn_app (goodIn_of _ (by decide +kernel)) ggX1_byteAt_X0_sizeOf
set_option maxRecDepth 20000 in
theorem ggX1_byteAt_X0_byteOf : GoodIn wsX1_byteAt wsX0_byteOf := goodIn_r _ [27, 28, 14, 15, 16, 5, 17, 18, 19, 20, 21, 22, 23, 13, 41, 42, 43, 44, 45, 46, 47, 48] (by decide +kernel) (by decide +kernel)
set_option maxRecDepth 20000 in
theorem gX1_byteAt_X0_byteOf : GoodIn wsX1_byteAt (wsV RX1 101 RX0 yX0_byteOf wsX0_byteOf) := goodIn_app (goodIn_of _ (by decide +kernel)) ggX1_byteAt_X0_byteOf
set_option maxRecDepth 20000 in
theorem ggX1_makeRoom_X0_packets : GoodIn wsX1_makeRoom wsX0_packets := goodIn_r _ [6, 7, 55, 56, 57, 58, 59, 60, 61, 62] (by decide +kernel) (by decide +kernel)
set_option maxRecDepth 20000 in
theorem gX1_makeRoom_X0_packets : GoodIn wsX1_makeRoom (wsV RX1 56 RX0 yX0_packets wsX0_packets) := goodIn_app (goodIn_of _ (by decide +kernel)) ggX1_makeRoom_X0_packets
set_option maxRecDepth 20000 in
theorem ggX1_makeRoom_X0_used : GoodIn wsX1_makeRoom wsX0_used := goodIn_r _ [11, 12, 55, 56, 57, 58, 59, 60, 61, 62] (by decide +kernel) (by decide +kernel)
set_option maxRecDepth 20000 in
theorem gX1_makeRoom_X0_used : GoodIn wsX1_makeRoom (wsV RX1 94 RX0 yX0_used wsX0_used) := goodIn_app (goodIn_of _ (by decide +kernel)) ggX1_makeRoom_X0_used
set_option maxRecDepth 20000 in
theorem ggX1_makeRoom_X0_room : GoodIn wsX1_makeRoom wsX0_room := goodIn_r _ [16, 17, 55, 56, 57, 58, 59, 60, 61, 62] (by decide +kernel) (by decide +kernel)
set_option maxRecDepth 20000 in
theorem gX1_makeRoom_X0_room : GoodIn wsX1_makeRoom (wsV RX1 38 RX0 yX0_room wsX0_room) := goodIn_app (goodIn_of _ (by decide +kernel)) ggX1_makeRoom_X0_room
set_option maxRecDepth 20000 in
theorem ggX1_makeRoom_X1_dropOldest : GoodIn wsX1_makeRoom wsX1_dropOldest := goodIn_r _ [22, 1, 23, 24, 25, 26, 5, 27, 12, 28, 7, 29, 30, 31, 32, 33, 17, 34, 35, 36, 37, 38, 39, 40, 41, 42, 43, 44, 45, 46, 47, 48, 49, 50, 51, 52, 53, 54, 55, 56, 57, 58, 59, 60, 61, 62] (by decide +kernel) (by decide +kernel)
set_option maxRecDepth 20000 in
theorem gX1_makeRoom_X1_dropOldest : GoodIn wsX1_makeRoom (wsV RX1 62 RX1 yX1_dropOldest wsX1_dropOldest) := goodIn_app (goodIn_of _ (by decide +kernel)) ggX1_makeRoom_X1_dropOldest
set_option maxRecDepth 20000 in
theorem ggX1_dropOldest_X0_dropOldest : GoodIn wsX1_dropOldest wsX0_dropOldest := goodIn_r _ [7, 8, 9, 10, 11, 12, 13, 6, 14, 15, 16, 17, 18, 19, 20, 21, 22, 23, 24, 25, 38, 39, 40, 41, 42, 43, 44, 45] (by decide +kernel) (by decide +kernel)
set_option maxRecDepth 20000 in
theorem gX1_dropOldest_X0_dropOldest : GoodIn wsX1_dropOldest (wsV RX1 105 RX0 yX0_dropOldest wsX0_dropOldest) := goodIn_app (goodIn_of _ (by decide +kernel)) ggX1_dropOldest_X0_dropOldest
set_option maxRecDepth 20000 in
theorem ggX1_passUnwanted_X0_packets : GoodIn wsX1_passUnwanted wsX0_packets := goodIn_r _ [7, 8, 39, 40, 41, 42, 43, 44, 45, 46] (by decide +kernel) (by decide +kernel)
set_option maxRecDepth 20000 in
theorem gX1_passUnwanted_X0_packets : GoodIn wsX1_passUnwanted (wsV RX1 56 RX0 yX0_packets wsX0_packets) := goodIn_app (goodIn_of _ (by decide +kernel)) ggX1_passUnwanted_X0_packets
set_option maxRecDepth 20000 in
theorem ggX1_passUnwanted_X0_timeOf : GoodIn wsX1_passUnwanted wsX0_timeOf := goodIn_r _ [12, 13, 14, 15, 16, 17, 6, 18, 19, 39, 40, 41, 42, 43, 44, 45, 46] (by decide +kernel) (by decide +kernel)
set_option maxRecDepth 20000 in
theorem gX1_passUnwanted_X0_timeOf : GoodIn wsX1_passUnwanted (wsV RX1 59 RX0 yX0_timeOf wsX0_timeOf) := goodIn_app (goodIn_of _ (by decide +kernel)) ggX1_passUnwanted_X0_timeOf
set_option maxRecDepth 20000 in
theorem ggX1_passUnwanted_X1_isWanted : GoodIn wsX1_passUnwanted wsX1_isWanted := goodIn_r _ [24, 25, 26, 27, 28, 29, 30, 31, 32, 33, 34, 35, 36, 37, 38] (by decide +kernel) (by decide +kernel)
set_option maxRecDepth 20000 in
theorem gX1_passUnwanted_X1_isWanted : GoodIn wsX1_passUnwanted (wsV RX1 106 RX1 yX1_isWanted wsX1_isWanted) := goodIn_app (goodIn_of _ (by decide +kernel)) ggX1_passUnwanted_X1_isWanted
