section
/-! ===== BEGIN words of one list among another's, by their places ===== -/
theorem goodIn_r {big : List Cond} (ws : List Cond) (ps : List Nat) (hp : ws = ps.filterMap (fun i => big[i]?)) (h : ws.all goodWord = true) : GoodIn big ws := by
  intro w hw
  have h1 := List.all_eq_true.mp h w hw
  rw [hp] at hw
  obtain ⟨i, -, hi⟩ := List.mem_filterMap.mp hw
  have hm : w ∈ big := by first | exact List.mem_of_getElem? hi | exact List.getElem?_mem hi
  exact ⟨hm, good_of_word h1⟩
theorem goodIn_app {big a b : List Cond} (ha : GoodIn big a) (hb : GoodIn big b) : GoodIn big (a ++ b) := fun w h => (List.mem_append.mp h).elim (ha w) (hb w)
theorem goodIn_ca {big a b : List Cond} {c : Cond} (ha : GoodIn big (c :: a)) (hb : GoodIn big b) : GoodIn big (c :: (a ++ b)) := fun w h => (List.mem_cons.mp h).elim (fun e => ha w (List.mem_cons.mpr (Or.inl e))) (fun h => (List.mem_append.mp h).elim (fun h => ha w (List.mem_cons.mpr (Or.inr h))) (hb w))
theorem goodIn_sub {big ws : List Cond} (hm : ∀ w ∈ ws, w ∈ big) (h : ws.all goodWord = true) : GoodIn big ws := fun w hw => ⟨hm w hw, good_of_word (List.all_eq_true.mp h w hw)⟩
/-! ===== END ===== -/

/-! ===== BEGIN printed: names, fields, word lists, decode rows ===== -/
def RX0 : String := "RollbackPair$History"
def TX0 : u_T := fun k => match k with
  | 0 => ("RollbackPair$History", "states", "[LRollbackPair$State;", true)
  | _ => ("RollbackPair$History", "inputs", "[[B", true)
def tyX0 : Nat → FieldType := fun k => match k with
  | 0 => .array (.object "RollbackPair$State")
  | _ => .array (.array .byte)
abbrev wsX00 : List Cond := u_ws RX0 TX0 2
theorem nmX0 : ∀ a, a < 2 → ∀ b, b < 2 → a ≠ b → (TX0 a).2.1 ≠ (TX0 b).2.1 := by decide +kernel
theorem tyX0_ok : ∀ k, k < 2 → parseFieldDescriptor (TX0 k).2.2.1 = some (tyX0 k) := by decide +kernel
abbrev cX0_init : ByteArray := prog_2_method_1_code
def yX0_init : MethodName := ⟨RX0, "<init>", "()V"⟩
abbrev cX0_before : ByteArray := prog_2_method_2_code
def yX0_before : MethodName := ⟨RX0, "before", "(I)LRollbackPair$State;"⟩
abbrev cX0_play : ByteArray := prog_2_method_3_code
def yX0_play : MethodName := ⟨RX0, "play", "(III)V"⟩
abbrev cX0_inputPlayed : ByteArray := prog_2_method_4_code
def yX0_inputPlayed : MethodName := ⟨RX0, "inputPlayed", "(III)I"⟩
abbrev cX0_sumBefore : ByteArray := prog_2_method_5_code
def yX0_sumBefore : MethodName := ⟨RX0, "sumBefore", "(II)I"⟩
def RX1 : String := "RollbackPair$Inputs"
def TX1 : u_T := fun k => match k with
  | 0 => ("RollbackPair$Inputs", "kept", "[B", true)
  | 1 => ("RollbackPair$Inputs", "count", "I", false)
  | _ => ("RollbackPair$Inputs", "ended", "Z", false)
def tyX1 : Nat → FieldType := fun k => match k with
  | 0 => .array .byte
  | 1 => .int
  | _ => .boolean
abbrev wsX10 : List Cond := u_ws RX1 TX1 3
theorem nmX1 : ∀ a, a < 3 → ∀ b, b < 3 → a ≠ b → (TX1 a).2.1 ≠ (TX1 b).2.1 := by decide +kernel
theorem tyX1_ok : ∀ k, k < 3 → parseFieldDescriptor (TX1 k).2.2.1 = some (tyX1 k) := by decide +kernel
abbrev cX1_init : ByteArray := prog_3_method_1_code
def yX1_init : MethodName := ⟨RX1, "<init>", "(II)V"⟩
abbrev cX1_learn : ByteArray := prog_3_method_2_code
def yX1_learn : MethodName := ⟨RX1, "learn", "(I)V"⟩
abbrev cX1_use : ByteArray := prog_3_method_3_code
def yX1_use : MethodName := ⟨RX1, "use", "(I)I"⟩
def RX2 : String := "RollbackPair$Packet"
def TX2 : u_T := fun k => match k with
  | 0 => ("RollbackPair$Packet", "number", "S", false)
  | 1 => ("RollbackPair$Packet", "frame", "I", false)
  | 2 => ("RollbackPair$Packet", "ack", "I", false)
  | 3 => ("RollbackPair$Packet", "first", "I", false)
  | 4 => ("RollbackPair$Packet", "count", "I", false)
  | 5 => ("RollbackPair$Packet", "bits", "J", false)
  | _ => ("RollbackPair$Packet", "check", "I", false)
def tyX2 : Nat → FieldType := fun k => match k with
  | 0 => .short
  | 1 => .int
  | 2 => .int
  | 3 => .int
  | 4 => .int
  | 5 => .long
  | _ => .int
abbrev wsX20 : List Cond := u_ws RX2 TX2 7
theorem nmX2 : ∀ a, a < 7 → ∀ b, b < 7 → a ≠ b → (TX2 a).2.1 ≠ (TX2 b).2.1 := by decide +kernel
theorem tyX2_ok : ∀ k, k < 7 → parseFieldDescriptor (TX2 k).2.2.1 = some (tyX2 k) := by decide +kernel
abbrev cX2_init : ByteArray := prog_4_method_1_code
def yX2_init : MethodName := ⟨RX2, "<init>", "()V"⟩
abbrev cX2_carry : ByteArray := prog_4_method_2_code
def yX2_carry : MethodName := ⟨RX2, "carry", "(LRollbackPair$Inputs;I)V"⟩
abbrev cX2_input : ByteArray := prog_4_method_3_code
def yX2_input : MethodName := ⟨RX2, "input", "(I)I"⟩
abbrev cX2_rightCheck : ByteArray := prog_4_method_4_code
def yX2_rightCheck : MethodName := ⟨RX2, "rightCheck", "()I"⟩
abbrev cX2_copyOf : ByteArray := prog_4_method_5_code
def yX2_copyOf : MethodName := ⟨RX2, "copyOf", "(LRollbackPair$Packet;)V"⟩
abbrev cX2_flip : ByteArray := prog_4_method_6_code
def yX2_flip : MethodName := ⟨RX2, "flip", "(II)Z"⟩
def RX3 : String := "RollbackPair$Peer"
def TX3 : u_T := fun k => match k with
  | 0 => ("RollbackPair$Peer", "player", "I", true)
  | 1 => ("RollbackPair$Peer", "window", "I", true)
  | 2 => ("RollbackPair$Peer", "arriving", "LRollbackPair$Row;", true)
  | 3 => ("RollbackPair$Peer", "leaving", "LRollbackPair$Row;", true)
  | 4 => ("RollbackPair$Peer", "own", "LRollbackPair$Inputs;", true)
  | 5 => ("RollbackPair$Peer", "others", "LRollbackPair$Inputs;", true)
  | 6 => ("RollbackPair$Peer", "history", "LRollbackPair$History;", true)
  | 7 => ("RollbackPair$Peer", "at", "I", false)
  | 8 => ("RollbackPair$Peer", "stalls", "I", false)
  | 9 => ("RollbackPair$Peer", "told", "I", false)
  | 10 => ("RollbackPair$Peer", "nextNumber", "S", false)
  | 11 => ("RollbackPair$Peer", "latestNumber", "S", false)
  | 12 => ("RollbackPair$Peer", "hasTaken", "Z", false)
  | _ => ("RollbackPair$Peer", "lead", "F", false)
def tyX3 : Nat → FieldType := fun k => match k with
  | 0 => .int
  | 1 => .int
  | 2 => .object "RollbackPair$Row"
  | 3 => .object "RollbackPair$Row"
  | 4 => .object "RollbackPair$Inputs"
  | 5 => .object "RollbackPair$Inputs"
  | 6 => .object "RollbackPair$History"
  | 7 => .int
  | 8 => .int
  | 9 => .int
  | 10 => .short
  | 11 => .short
  | 12 => .boolean
  | _ => .float
abbrev wsX30 : List Cond := u_ws RX3 TX3 14
theorem nmX3 : ∀ a, a < 14 → ∀ b, b < 14 → a ≠ b → (TX3 a).2.1 ≠ (TX3 b).2.1 := by decide +kernel
theorem tyX3_ok : ∀ k, k < 14 → parseFieldDescriptor (TX3 k).2.2.1 = some (tyX3 k) := by decide +kernel
abbrev cX3_init : ByteArray := prog_5_method_1_code
def yX3_init : MethodName := ⟨RX3, "<init>", "(IIISLRollbackPair$Row;LRollbackPair$Row;)V"⟩
abbrev cX3_inputsOf : ByteArray := prog_5_method_2_code
def yX3_inputsOf : MethodName := ⟨RX3, "inputsOf", "(I)LRollbackPair$Inputs;"⟩
abbrev cX3_state : ByteArray := prog_5_method_3_code
def yX3_state : MethodName := ⟨RX3, "state", "()LRollbackPair$State;"⟩
abbrev cX3_confirmed : ByteArray := prog_5_method_4_code
def yX3_confirmed : MethodName := ⟨RX3, "confirmed", "()I"⟩
abbrev cX3_goOn : ByteArray := prog_5_method_5_code
def yX3_goOn : MethodName := ⟨RX3, "goOn", "(I)I"⟩
abbrev cX3_stall : ByteArray := prog_5_method_6_code
def yX3_stall : MethodName := ⟨RX3, "stall", "()V"⟩
abbrev cX3_playFrames : ByteArray := prog_5_method_7_code
def yX3_playFrames : MethodName := ⟨RX3, "playFrames", "(II)V"⟩
abbrev cX3_firstWrong : ByteArray := prog_5_method_8_code
def yX3_firstWrong : MethodName := ⟨RX3, "firstWrong", "(I)I"⟩
abbrev cX3_sendPacket : ByteArray := prog_5_method_9_code
def yX3_sendPacket : MethodName := ⟨RX3, "sendPacket", "()V"⟩
abbrev cX3_receive : ByteArray := prog_5_method_10_code
def yX3_receive : MethodName := ⟨RX3, "receive", "(LRollbackPair$Packet;)I"⟩
abbrev cX3_takes : ByteArray := prog_5_method_11_code
def yX3_takes : MethodName := ⟨RX3, "takes", "(LRollbackPair$Packet;)Z"⟩
abbrev cX3_learnFrom : ByteArray := prog_5_method_12_code
def yX3_learnFrom : MethodName := ⟨RX3, "learnFrom", "(LRollbackPair$Packet;)V"⟩
def RX4 : String := "RollbackPair$Row"
def TX4 : u_T := fun k => match k with
  | 0 => ("RollbackPair$Row", "slots", "[LRollbackPair$Packet;", true)
  | _ => ("RollbackPair$Row", "size", "I", false)
def tyX4 : Nat → FieldType := fun k => match k with
  | 0 => .array (.object "RollbackPair$Packet")
  | _ => .int
abbrev wsX40 : List Cond := u_ws RX4 TX4 2
theorem nmX4 : ∀ a, a < 2 → ∀ b, b < 2 → a ≠ b → (TX4 a).2.1 ≠ (TX4 b).2.1 := by decide +kernel
theorem tyX4_ok : ∀ k, k < 2 → parseFieldDescriptor (TX4 k).2.2.1 = some (tyX4 k) := by decide +kernel
abbrev cX4_init : ByteArray := prog_6_method_1_code
def yX4_init : MethodName := ⟨RX4, "<init>", "()V"⟩
abbrev cX4_first : ByteArray := prog_6_method_2_code
def yX4_first : MethodName := ⟨RX4, "first", "()LRollbackPair$Packet;"⟩
abbrev cX4_addLast : ByteArray := prog_6_method_3_code
def yX4_addLast : MethodName := ⟨RX4, "addLast", "()LRollbackPair$Packet;"⟩
abbrev cX4_takeFirst : ByteArray := prog_6_method_4_code
def yX4_takeFirst : MethodName := ⟨RX4, "takeFirst", "()LRollbackPair$Packet;"⟩
abbrev cX4_doubleFirst : ByteArray := prog_6_method_5_code
def yX4_doubleFirst : MethodName := ⟨RX4, "doubleFirst", "()Z"⟩
abbrev cX4_sendFirstToEnd : ByteArray := prog_6_method_6_code
def yX4_sendFirstToEnd : MethodName := ⟨RX4, "sendFirstToEnd", "()Z"⟩
def RX5 : String := "RollbackPair$State"
def TX5 : u_T := fun k => match k with
  | 0 => ("RollbackPair$State", "places", "[F", true)
  | 1 => ("RollbackPair$State", "speeds", "[F", true)
  | 2 => ("RollbackPair$State", "hitCount", "I", false)
  | _ => ("RollbackPair$State", "workDone", "D", false)
def tyX5 : Nat → FieldType := fun k => match k with
  | 0 => .array .float
  | 1 => .array .float
  | 2 => .int
  | _ => .double
abbrev wsX50 : List Cond := u_ws RX5 TX5 4
theorem nmX5 : ∀ a, a < 4 → ∀ b, b < 4 → a ≠ b → (TX5 a).2.1 ≠ (TX5 b).2.1 := by decide +kernel
theorem tyX5_ok : ∀ k, k < 4 → parseFieldDescriptor (TX5 k).2.2.1 = some (tyX5 k) := by decide +kernel
abbrev cX5_init : ByteArray := prog_7_method_1_code
def yX5_init : MethodName := ⟨RX5, "<init>", "()V"⟩
abbrev cX5_follow : ByteArray := prog_7_method_2_code
def yX5_follow : MethodName := ⟨RX5, "follow", "(LRollbackPair$State;II)V"⟩
abbrev cX5_move : ByteArray := prog_7_method_3_code
def yX5_move : MethodName := ⟨RX5, "move", "(LRollbackPair$State;II)V"⟩
abbrev cX5_bounceApart : ByteArray := prog_7_method_4_code
def yX5_bounceApart : MethodName := ⟨RX5, "bounceApart", "()V"⟩
abbrev cX5_total : ByteArray := prog_7_method_5_code
def yX5_total : MethodName := ⟨RX5, "total", "()I"⟩
def RX6 : String := "RollbackPair"
def TX6 : u_T := fun k => match k with
  | _ => ("RollbackPair", "peers", "[LRollbackPair$Peer;", true)
def tyX6 : Nat → FieldType := fun k => match k with
  | _ => .array (.object "RollbackPair$Peer")
abbrev wsX60 : List Cond := u_ws RX6 TX6 1
theorem nmX6 : ∀ a, a < 1 → ∀ b, b < 1 → a ≠ b → (TX6 a).2.1 ≠ (TX6 b).2.1 := by decide +kernel
theorem tyX6_ok : ∀ k, k < 1 → parseFieldDescriptor (TX6 k).2.2.1 = some (tyX6 k) := by decide +kernel
abbrev cX6_init : ByteArray := prog_1_method_1_code
def yX6_init : MethodName := ⟨RX6, "<init>", "(III)V"⟩
abbrev cX6_advance : ByteArray := prog_1_method_2_code
def yX6_advance : MethodName := ⟨RX6, "advance", "(II)I"⟩
abbrev cX6_deliver : ByteArray := prog_1_method_3_code
def yX6_deliver : MethodName := ⟨RX6, "deliver", "(I)I"⟩
abbrev cX6_alter : ByteArray := prog_1_method_4_code
def yX6_alter : MethodName := ⟨RX6, "alter", "(II)Z"⟩
abbrev cX6_spoil : ByteArray := prog_1_method_5_code
def yX6_spoil : MethodName := ⟨RX6, "spoil", "(III)Z"⟩
abbrev cX6_about : ByteArray := prog_1_method_6_code
def yX6_about : MethodName := ⟨RX6, "about", "(II)I"⟩
abbrev cX6_known : ByteArray := prog_1_method_7_code
def yX6_known : MethodName := ⟨RX6, "known", "(II)I"⟩
abbrev cX6_used : ByteArray := prog_1_method_8_code
def yX6_used : MethodName := ⟨RX6, "used", "(III)I"⟩
abbrev cX6_sum : ByteArray := prog_1_method_9_code
def yX6_sum : MethodName := ⟨RX6, "sum", "(II)I"⟩
abbrev cX6_place : ByteArray := prog_1_method_10_code
def yX6_place : MethodName := ⟨RX6, "place", "(II)F"⟩
abbrev cX6_speed : ByteArray := prog_1_method_11_code
def yX6_speed : MethodName := ⟨RX6, "speed", "(II)F"⟩
abbrev cX6_hits : ByteArray := prog_1_method_12_code
def yX6_hits : MethodName := ⟨RX6, "hits", "(I)I"⟩
abbrev cX6_work : ByteArray := prog_1_method_13_code
def yX6_work : MethodName := ⟨RX6, "work", "(I)D"⟩
abbrev cX6_advice : ByteArray := prog_1_method_14_code
def yX6_advice : MethodName := ⟨RX6, "advice", "(I)F"⟩
abbrev cX6_find : ByteArray := prog_1_method_15_code
def yX6_find : MethodName := ⟨RX6, "find", "(I)LRollbackPair$Peer;"⟩
abbrev cX6_isPlayer : ByteArray := prog_1_method_16_code
def yX6_isPlayer : MethodName := ⟨RX6, "isPlayer", "(I)Z"⟩
def RX7 : String := "RollbackPairModel"
def TX7 : u_T := fun k => match k with
  | 0 => ("RollbackPairModel", "delay", "I", true)
  | 1 => ("RollbackPairModel", "window", "I", true)
  | 2 => ("RollbackPairModel", "at", "[I", true)
  | 3 => ("RollbackPairModel", "stalls", "[I", true)
  | 4 => ("RollbackPairModel", "cut", "[I", true)
  | 5 => ("RollbackPairModel", "told", "[I", true)
  | 6 => ("RollbackPairModel", "took", "[Z", true)
  | 7 => ("RollbackPairModel", "latest", "[S", true)
  | 8 => ("RollbackPairModel", "number", "[S", true)
  | 9 => ("RollbackPairModel", "advice", "[F", true)
  | 10 => ("RollbackPairModel", "input", "[I", true)
  | 11 => ("RollbackPairModel", "uses", "[I", true)
  | 12 => ("RollbackPairModel", "known", "[I", true)
  | 13 => ("RollbackPairModel", "place0", "[F", true)
  | 14 => ("RollbackPairModel", "speed0", "[F", true)
  | 15 => ("RollbackPairModel", "place1", "[F", true)
  | 16 => ("RollbackPairModel", "speed1", "[F", true)
  | 17 => ("RollbackPairModel", "hits", "[I", true)
  | 18 => ("RollbackPairModel", "work", "[D", true)
  | 19 => ("RollbackPairModel", "rows", "[I", true)
  | 20 => ("RollbackPairModel", "pNumber", "[S", true)
  | 21 => ("RollbackPairModel", "pFrame", "[I", true)
  | 22 => ("RollbackPairModel", "pAck", "[I", true)
  | 23 => ("RollbackPairModel", "pFirst", "[I", true)
  | 24 => ("RollbackPairModel", "pCount", "[I", true)
  | 25 => ("RollbackPairModel", "pBits", "[J", true)
  | 26 => ("RollbackPairModel", "pCheck", "[I", true)
  | 27 => ("RollbackPairModel", "newPlace", "F", false)
  | _ => ("RollbackPairModel", "newSpeed", "F", false)
def tyX7 : Nat → FieldType := fun k => match k with
  | 0 => .int
  | 1 => .int
  | 2 => .array .int
  | 3 => .array .int
  | 4 => .array .int
  | 5 => .array .int
  | 6 => .array .boolean
  | 7 => .array .short
  | 8 => .array .short
  | 9 => .array .float
  | 10 => .array .int
  | 11 => .array .int
  | 12 => .array .int
  | 13 => .array .float
  | 14 => .array .float
  | 15 => .array .float
  | 16 => .array .float
  | 17 => .array .int
  | 18 => .array .double
  | 19 => .array .int
  | 20 => .array .short
  | 21 => .array .int
  | 22 => .array .int
  | 23 => .array .int
  | 24 => .array .int
  | 25 => .array .long
  | 26 => .array .int
  | 27 => .float
  | _ => .float
abbrev wsX70 : List Cond := u_ws RX7 TX7 29
theorem nmX7 : ∀ a, a < 29 → ∀ b, b < 29 → a ≠ b → (TX7 a).2.1 ≠ (TX7 b).2.1 := by decide +kernel
theorem tyX7_ok : ∀ k, k < 29 → parseFieldDescriptor (TX7 k).2.2.1 = some (tyX7 k) := by decide +kernel
abbrev cX7_init : ByteArray := prog_9_method_1_code
def yX7_init : MethodName := ⟨RX7, "<init>", "(III)V"⟩
abbrev cX7_isTwo : ByteArray := prog_9_method_2_code
def yX7_isTwo : MethodName := ⟨RX7, "isTwo", "(I)Z"⟩
abbrev cX7_move : ByteArray := prog_9_method_3_code
def yX7_move : MethodName := ⟨RX7, "move", "(FFI)V"⟩
abbrev cX7_play : ByteArray := prog_9_method_4_code
def yX7_play : MethodName := ⟨RX7, "play", "(II)V"⟩
abbrev cX7_useOf : ByteArray := prog_9_method_5_code
def yX7_useOf : MethodName := ⟨RX7, "useOf", "(III)I"⟩
abbrev cX7_again : ByteArray := prog_9_method_6_code
def yX7_again : MethodName := ⟨RX7, "again", "(II)I"⟩
abbrev cX7_check : ByteArray := prog_9_method_7_code
def yX7_check : MethodName := ⟨RX7, "check", "(I)I"⟩
abbrev cX7_send : ByteArray := prog_9_method_8_code
def yX7_send : MethodName := ⟨RX7, "send", "(I)V"⟩
abbrev cX7_copy : ByteArray := prog_9_method_9_code
def yX7_copy : MethodName := ⟨RX7, "copy", "(II)V"⟩
abbrev cX7_take : ByteArray := prog_9_method_10_code
def yX7_take : MethodName := ⟨RX7, "take", "(I)V"⟩
abbrev cX7_advance : ByteArray := prog_9_method_11_code
def yX7_advance : MethodName := ⟨RX7, "advance", "(II)I"⟩
abbrev cX7_deliver : ByteArray := prog_9_method_12_code
def yX7_deliver : MethodName := ⟨RX7, "deliver", "(I)I"⟩
abbrev cX7_replay : ByteArray := prog_9_method_13_code
def yX7_replay : MethodName := ⟨RX7, "replay", "(II)I"⟩
abbrev cX7_alter : ByteArray := prog_9_method_14_code
def yX7_alter : MethodName := ⟨RX7, "alter", "(II)Z"⟩
abbrev cX7_spoil : ByteArray := prog_9_method_15_code
def yX7_spoil : MethodName := ⟨RX7, "spoil", "(III)Z"⟩
abbrev cX7_about : ByteArray := prog_9_method_16_code
def yX7_about : MethodName := ⟨RX7, "about", "(II)I"⟩
abbrev cX7_known : ByteArray := prog_9_method_17_code
def yX7_known : MethodName := ⟨RX7, "known", "(II)I"⟩
abbrev cX7_used : ByteArray := prog_9_method_18_code
def yX7_used : MethodName := ⟨RX7, "used", "(III)I"⟩
abbrev cX7_sum : ByteArray := prog_9_method_19_code
def yX7_sum : MethodName := ⟨RX7, "sum", "(II)I"⟩
abbrev cX7_place : ByteArray := prog_9_method_20_code
def yX7_place : MethodName := ⟨RX7, "place", "(II)F"⟩
abbrev cX7_speed : ByteArray := prog_9_method_21_code
def yX7_speed : MethodName := ⟨RX7, "speed", "(II)F"⟩
abbrev cX7_hits : ByteArray := prog_9_method_22_code
def yX7_hits : MethodName := ⟨RX7, "hits", "(I)I"⟩
abbrev cX7_work : ByteArray := prog_9_method_23_code
def yX7_work : MethodName := ⟨RX7, "work", "(I)D"⟩
abbrev cX7_advice : ByteArray := prog_9_method_24_code
def yX7_advice : MethodName := ⟨RX7, "advice", "(I)F"⟩
def RJ9 : String := "java/lang/Math"
def TJ9 : u_T := fun k => match k with
  | _ => ("", "", "", false)
def tyJ9 : Nat → FieldType := fun k => match k with
  | _ => .int
abbrev wsJ90 : List Cond := u_ws RJ9 TJ9 0
theorem nmJ9 : ∀ a, a < 0 → ∀ b, b < 0 → a ≠ b → (TJ9 a).2.1 ≠ (TJ9 b).2.1 := by decide +kernel
theorem tyJ9_ok : ∀ k, k < 0 → parseFieldDescriptor (TJ9 k).2.2.1 = some (tyJ9 k) := by decide +kernel
abbrev cJ9_max_7cf53 : ByteArray := prog_10_method_65_code
def yJ9_max_7cf53 : MethodName := ⟨RJ9, "max", "(II)I"⟩
abbrev cJ9_min_7cf53 : ByteArray := prog_10_method_69_code
def yJ9_min_7cf53 : MethodName := ⟨RJ9, "min", "(II)I"⟩
def RL : String := "RollbackPairLaw"
abbrev cL_cell : ByteArray := method_2_code
def yL_cell : MethodName := ⟨RL, "cell", "([II)I"⟩
abbrev cL_law : ByteArray := code
def yL_law : MethodName := ⟨RL, "law", "([I)Z"⟩
def wsX5_init : List Cond := .code yX5_init cX5_init 1 none :: ([.methodLink RX5 1 objectInit, .instanceMethod objectInit, .code objectInit ⟨#[0xb1]⟩ 1 none, .arrayClass .float, .fieldLink RX5 7 "RollbackPair$State" "places" "[F", .fieldLink RX5 13 "RollbackPair$State" "speeds" "[F", .constantFloat RX5 16 (1090519040), .constantFloat RX5 17 (1103101952)] ++ wsX50)
def wsX0_init : List Cond := .code yX0_init cX0_init 2 none :: ([.methodLink RX0 3 objectInit, .instanceMethod objectInit, .code objectInit ⟨#[0xb1]⟩ 1 none, .classLink RX0 11 RX5, .fieldLink RX0 13 "RollbackPair$History" "states" "[LRollbackPair$State;", .classLink RX0 17 "[[B", .arrayClass .byte, .fieldLink RX0 19 "RollbackPair$History" "inputs" "[[B", .instantiable RX5 4, .initialized RX5, .methodLink RX0 22 yX5_init, .instanceMethod yX5_init, .code yX5_init cX5_init 1 none, .methodLink RX5 1 objectInit, .arrayClass .float, .fieldLink RX5 7 "RollbackPair$State" "places" "[F", .fieldLink RX5 13 "RollbackPair$State" "speeds" "[F", .constantFloat RX5 16 (1090519040), .constantFloat RX5 17 (1103101952)] ++ wsX00 ++ wsX50)
def wsX0_before : List Cond := .code yX0_before cX0_before 2 (some (.object "RollbackPair$State")) :: ([.fieldLink RX0 13 "RollbackPair$History" "states" "[LRollbackPair$State;"] ++ wsX00)
def wsX5_move : List Cond := .code yX5_move cX5_move 7 none :: ([.fieldLink RX5 13 "RollbackPair$State" "speeds" "[F", .constantFloat RX5 33 (1063256064), .constantFloat RX5 34 (1050253722), .constantFloat RX5 35 (1056964608), .fieldLink RX5 7 "RollbackPair$State" "places" "[F", .constantFloat RX5 36 (1107296256), .constantFloat RX5 37 (1115684864)] ++ wsX50)
def wsX5_bounceApart : List Cond := .code yX5_bounceApart cX5_bounceApart 3 none :: ([.fieldLink RX5 13 "RollbackPair$State" "speeds" "[F", .fieldLink RX5 7 "RollbackPair$State" "places" "[F", .constantFloat RX5 35 (1056964608), .fieldLink RX5 22 "RollbackPair$State" "hitCount" "I"] ++ wsX50)
def wsX5_follow : List Cond := .code yX5_follow cX5_follow 8 none :: ([.fieldLink RX5 22 "RollbackPair$State" "hitCount" "I", .fieldLink RX5 7 "RollbackPair$State" "places" "[F", .fieldLink RX5 13 "RollbackPair$State" "speeds" "[F", .fieldLink RX5 29 "RollbackPair$State" "workDone" "D", .methodLink RX5 18 yX5_move, .instanceMethod yX5_move, .selects RX5 yX5_move yX5_move, .initialized RX5, .code yX5_move cX5_move 7 none, .constantFloat RX5 33 (1063256064), .constantFloat RX5 34 (1050253722), .constantFloat RX5 35 (1056964608), .constantFloat RX5 36 (1107296256), .constantFloat RX5 37 (1115684864), .methodLink RX5 26 yX5_bounceApart, .instanceMethod yX5_bounceApart, .selects RX5 yX5_bounceApart yX5_bounceApart, .code yX5_bounceApart cX5_bounceApart 3 none] ++ wsX50)
def wsX0_play_r1 : List Cond := [Cond.fieldLink RX0 19 "RollbackPair$History" "inputs" "[[B", Cond.methodLink RX0 23 yX0_before, Cond.instanceMethod yX0_before, Cond.selects RX0 yX0_before yX0_before, Cond.initialized RX0, Cond.code yX0_before cX0_before 2 (some (.object "RollbackPair$State")), Cond.fieldLink RX0 13 "RollbackPair$History" "states" "[LRollbackPair$State;", Cond.methodLink RX0 27 yX5_follow, Cond.instanceMethod yX5_follow, Cond.selects RX5 yX5_follow yX5_follow, Cond.initialized RX5, Cond.code yX5_follow cX5_follow 8 none, Cond.fieldLink RX5 22 "RollbackPair$State" "hitCount" "I", Cond.fieldLink RX5 7 "RollbackPair$State" "places" "[F", Cond.fieldLink RX5 13 "RollbackPair$State" "speeds" "[F", Cond.fieldLink RX5 29 "RollbackPair$State" "workDone" "D", Cond.methodLink RX5 18 yX5_move, Cond.instanceMethod yX5_move, Cond.selects RX5 yX5_move yX5_move, Cond.code yX5_move cX5_move 7 none, Cond.constantFloat RX5 33 (1063256064), Cond.constantFloat RX5 34 (1050253722), Cond.constantFloat RX5 35 (1056964608), Cond.constantFloat RX5 36 (1107296256)]
def wsX0_play_r2 : List Cond := [Cond.constantFloat RX5 37 (1115684864), Cond.methodLink RX5 26 yX5_bounceApart, Cond.instanceMethod yX5_bounceApart, Cond.selects RX5 yX5_bounceApart yX5_bounceApart, Cond.code yX5_bounceApart cX5_bounceApart 3 none]
def wsX0_play : List Cond := .code yX0_play cX0_play 4 none :: ((wsX0_play_r1 ++ wsX0_play_r2) ++ wsX00 ++ wsX50)
def wsX0_inputPlayed : List Cond := .code yX0_inputPlayed cX0_inputPlayed 4 (some .int) :: ([.fieldLink RX0 19 "RollbackPair$History" "inputs" "[[B"] ++ wsX00)
def wsX5_total : List Cond := .code yX5_total cX5_total 3 (some .int) :: ([.fieldLink RX5 7 "RollbackPair$State" "places" "[F", .constantFloat RX5 38 (1166016512), .fieldLink RX5 13 "RollbackPair$State" "speeds" "[F", .fieldLink RX5 22 "RollbackPair$State" "hitCount" "I", .fieldLink RX5 29 "RollbackPair$State" "workDone" "D", .constantDouble RX5 39 (4634204016564240384)] ++ wsX50)
def wsX0_sumBefore : List Cond := .code yX0_sumBefore cX0_sumBefore 3 (some .int) :: ([.methodLink RX0 23 yX0_before, .instanceMethod yX0_before, .selects RX0 yX0_before yX0_before, .initialized RX0, .code yX0_before cX0_before 2 (some (.object "RollbackPair$State")), .fieldLink RX0 13 "RollbackPair$History" "states" "[LRollbackPair$State;", .methodLink RX0 31 yX5_total, .instanceMethod yX5_total, .selects RX5 yX5_total yX5_total, .initialized RX5, .code yX5_total cX5_total 3 (some .int), .fieldLink RX5 7 "RollbackPair$State" "places" "[F", .constantFloat RX5 38 (1166016512), .fieldLink RX5 13 "RollbackPair$State" "speeds" "[F", .fieldLink RX5 22 "RollbackPair$State" "hitCount" "I", .fieldLink RX5 29 "RollbackPair$State" "workDone" "D", .constantDouble RX5 39 (4634204016564240384)] ++ wsX00 ++ wsX50)
def wsX1_init : List Cond := .code yX1_init cX1_init 3 none :: ([.methodLink RX1 1 objectInit, .instanceMethod objectInit, .code objectInit ⟨#[0xb1]⟩ 1 none, .arrayClass .byte, .fieldLink RX1 7 "RollbackPair$Inputs" "kept" "[B", .fieldLink RX1 13 "RollbackPair$Inputs" "count" "I"] ++ wsX10)
def wsX1_learn : List Cond := .code yX1_learn cX1_learn 2 none :: ([.fieldLink RX1 7 "RollbackPair$Inputs" "kept" "[B", .fieldLink RX1 13 "RollbackPair$Inputs" "count" "I"] ++ wsX10)
def wsX1_use : List Cond := .code yX1_use cX1_use 2 (some .int) :: ([.fieldLink RX1 13 "RollbackPair$Inputs" "count" "I", .fieldLink RX1 7 "RollbackPair$Inputs" "kept" "[B", .fieldLink RX1 17 "RollbackPair$Inputs" "ended" "Z"] ++ wsX10)
def wsX2_init : List Cond := .code yX2_init cX2_init 1 none :: ([.methodLink RX2 3 objectInit, .instanceMethod objectInit, .code objectInit ⟨#[0xb1]⟩ 1 none])
def wsX2_carry : List Cond := .code yX2_carry cX2_carry 4 none :: ([.fieldLink RX2 9 "RollbackPair$Packet" "first" "I", .fieldLink RX2 15 "RollbackPair$Inputs" "count" "I", .methodLink RX2 20 Lib.Math.min.name, .static Lib.Math.min.name, .initialized "java/lang/Math", .code Lib.Math.min.name Lib.Math.min.code 2 (some .int), .fieldLink RX2 26 "RollbackPair$Packet" "count" "I", .fieldLink RX2 27 "RollbackPair$Packet" "bits" "J", .methodLink RX2 31 yX1_use, .instanceMethod yX1_use, .selects RX1 yX1_use yX1_use, .initialized RX1, .code yX1_use cX1_use 2 (some .int), .fieldLink RX1 13 "RollbackPair$Inputs" "count" "I", .fieldLink RX1 7 "RollbackPair$Inputs" "kept" "[B", .fieldLink RX1 17 "RollbackPair$Inputs" "ended" "Z"] ++ wsX20 ++ wsX10)
def wsX2_input : List Cond := .code yX2_input cX2_input 2 (some .int) :: ([.fieldLink RX2 27 "RollbackPair$Packet" "bits" "J"] ++ wsX20)
def wsX2_rightCheck : List Cond := .code yX2_rightCheck cX2_rightCheck 2 (some .int) :: ([.fieldLink RX2 35 "RollbackPair$Packet" "number" "S", .fieldLink RX2 39 "RollbackPair$Packet" "frame" "I", .fieldLink RX2 42 "RollbackPair$Packet" "ack" "I", .fieldLink RX2 9 "RollbackPair$Packet" "first" "I", .fieldLink RX2 26 "RollbackPair$Packet" "count" "I", .fieldLink RX2 27 "RollbackPair$Packet" "bits" "J"] ++ wsX20)
def wsX2_copyOf : List Cond := .code yX2_copyOf cX2_copyOf 2 none :: ([.fieldLink RX2 35 "RollbackPair$Packet" "number" "S", .fieldLink RX2 39 "RollbackPair$Packet" "frame" "I", .fieldLink RX2 42 "RollbackPair$Packet" "ack" "I", .fieldLink RX2 9 "RollbackPair$Packet" "first" "I", .fieldLink RX2 26 "RollbackPair$Packet" "count" "I", .fieldLink RX2 27 "RollbackPair$Packet" "bits" "J", .fieldLink RX2 45 "RollbackPair$Packet" "check" "I"] ++ wsX20)
def wsX2_flip : List Cond := .code yX2_flip cX2_flip 3 (some .boolean) :: ([.fieldLink RX2 35 "RollbackPair$Packet" "number" "S", .fieldLink RX2 39 "RollbackPair$Packet" "frame" "I", .fieldLink RX2 42 "RollbackPair$Packet" "ack" "I", .fieldLink RX2 9 "RollbackPair$Packet" "first" "I", .fieldLink RX2 26 "RollbackPair$Packet" "count" "I", .fieldLink RX2 27 "RollbackPair$Packet" "bits" "J", .constantLong RX2 48 (4294967295), .fieldLink RX2 45 "RollbackPair$Packet" "check" "I"] ++ wsX20)
def wsX3_init_r1 : List Cond := [Cond.methodLink RX3 3 objectInit, Cond.instanceMethod objectInit, Cond.code objectInit ⟨#[0xb1]⟩ 1 none, Cond.classLink RX3 9 RX0, Cond.instantiable RX0 2, Cond.initialized RX0, Cond.fieldLink RX3 12 "RollbackPair$Peer" "history" "LRollbackPair$History;", Cond.fieldLink RX3 18 "RollbackPair$Peer" "player" "I", Cond.fieldLink RX3 22 "RollbackPair$Peer" "window" "I", Cond.fieldLink RX3 25 "RollbackPair$Peer" "arriving" "LRollbackPair$Row;", Cond.fieldLink RX3 29 "RollbackPair$Peer" "leaving" "LRollbackPair$Row;", Cond.classLink RX3 32 RX1, Cond.instantiable RX1 3, Cond.initialized RX1, Cond.fieldLink RX3 37 "RollbackPair$Peer" "own" "LRollbackPair$Inputs;", Cond.fieldLink RX3 41 "RollbackPair$Peer" "others" "LRollbackPair$Inputs;", Cond.fieldLink RX3 44 "RollbackPair$Peer" "told" "I", Cond.fieldLink RX3 47 "RollbackPair$Peer" "nextNumber" "S", Cond.methodLink RX3 11 yX0_init, Cond.instanceMethod yX0_init, Cond.code yX0_init cX0_init 2 none, Cond.methodLink RX0 3 objectInit, Cond.classLink RX0 11 RX5, Cond.fieldLink RX0 13 "RollbackPair$History" "states" "[LRollbackPair$State;"]
def wsX3_init_r2 : List Cond := [Cond.classLink RX0 17 "[[B", Cond.arrayClass .byte, Cond.fieldLink RX0 19 "RollbackPair$History" "inputs" "[[B", Cond.instantiable RX5 4, Cond.initialized RX5, Cond.methodLink RX0 22 yX5_init, Cond.instanceMethod yX5_init, Cond.code yX5_init cX5_init 1 none, Cond.methodLink RX5 1 objectInit, Cond.arrayClass .float, Cond.fieldLink RX5 7 "RollbackPair$State" "places" "[F", Cond.fieldLink RX5 13 "RollbackPair$State" "speeds" "[F", Cond.constantFloat RX5 16 (1090519040), Cond.constantFloat RX5 17 (1103101952), Cond.methodLink RX3 34 yX1_init, Cond.instanceMethod yX1_init, Cond.code yX1_init cX1_init 3 none, Cond.methodLink RX1 1 objectInit, Cond.fieldLink RX1 7 "RollbackPair$Inputs" "kept" "[B", Cond.fieldLink RX1 13 "RollbackPair$Inputs" "count" "I"]
def wsX3_init : List Cond := .code yX3_init cX3_init 7 none :: ((wsX3_init_r1 ++ wsX3_init_r2) ++ wsX00 ++ wsX30 ++ wsX10 ++ wsX50)
def wsX3_inputsOf : List Cond := .code yX3_inputsOf cX3_inputsOf 2 (some (.object "RollbackPair$Inputs")) :: ([.fieldLink RX3 18 "RollbackPair$Peer" "player" "I", .fieldLink RX3 37 "RollbackPair$Peer" "own" "LRollbackPair$Inputs;", .fieldLink RX3 41 "RollbackPair$Peer" "others" "LRollbackPair$Inputs;"] ++ wsX30)
def wsX3_state : List Cond := .code yX3_state cX3_state 1 (some (.object "RollbackPair$State")) :: ([.fieldLink RX3 12 "RollbackPair$Peer" "history" "LRollbackPair$History;", .fieldLink RX3 51 "RollbackPair$Peer" "at" "I", .methodLink RX3 54 yX0_before, .instanceMethod yX0_before, .selects RX0 yX0_before yX0_before, .initialized RX0, .code yX0_before cX0_before 2 (some (.object "RollbackPair$State")), .fieldLink RX0 13 "RollbackPair$History" "states" "[LRollbackPair$State;"] ++ wsX30 ++ wsX00)
def wsX3_confirmed : List Cond := .code yX3_confirmed cX3_confirmed 2 (some .int) :: ([.fieldLink RX3 37 "RollbackPair$Peer" "own" "LRollbackPair$Inputs;", .fieldLink RX3 58 "RollbackPair$Inputs" "count" "I", .fieldLink RX3 41 "RollbackPair$Peer" "others" "LRollbackPair$Inputs;", .fieldLink RX3 61 "RollbackPair$Inputs" "ended" "Z", .fieldLink RX3 51 "RollbackPair$Peer" "at" "I", .methodLink RX3 65 Lib.Math.min.name, .static Lib.Math.min.name, .initialized "java/lang/Math", .code Lib.Math.min.name Lib.Math.min.code 2 (some .int)] ++ wsX30 ++ wsX10)
def wsX3_firstWrong : List Cond := .code yX3_firstWrong cX3_firstWrong 3 (some .int) :: ([.fieldLink RX3 51 "RollbackPair$Peer" "at" "I", .fieldLink RX3 12 "RollbackPair$Peer" "history" "LRollbackPair$History;", .fieldLink RX3 18 "RollbackPair$Peer" "player" "I", .fieldLink RX3 41 "RollbackPair$Peer" "others" "LRollbackPair$Inputs;", .methodLink RX3 102 yX0_inputPlayed, .instanceMethod yX0_inputPlayed, .selects RX0 yX0_inputPlayed yX0_inputPlayed, .initialized RX0, .code yX0_inputPlayed cX0_inputPlayed 4 (some .int), .fieldLink RX0 19 "RollbackPair$History" "inputs" "[[B", .methodLink RX3 95 yX1_use, .instanceMethod yX1_use, .selects RX1 yX1_use yX1_use, .initialized RX1, .code yX1_use cX1_use 2 (some .int), .fieldLink RX1 13 "RollbackPair$Inputs" "count" "I", .fieldLink RX1 7 "RollbackPair$Inputs" "kept" "[B", .fieldLink RX1 17 "RollbackPair$Inputs" "ended" "Z"] ++ wsX30 ++ wsX00 ++ wsX10)
def wsX3_playFrames_r1 : List Cond := [Cond.fieldLink RX3 12 "RollbackPair$Peer" "history" "LRollbackPair$History;", Cond.methodLink RX3 91 yX3_inputsOf, Cond.instanceMethod yX3_inputsOf, Cond.selects RX3 yX3_inputsOf yX3_inputsOf, Cond.initialized RX3, Cond.code yX3_inputsOf cX3_inputsOf 2 (some (.object "RollbackPair$Inputs")), Cond.fieldLink RX3 18 "RollbackPair$Peer" "player" "I", Cond.fieldLink RX3 37 "RollbackPair$Peer" "own" "LRollbackPair$Inputs;", Cond.fieldLink RX3 41 "RollbackPair$Peer" "others" "LRollbackPair$Inputs;", Cond.methodLink RX3 95 yX1_use, Cond.instanceMethod yX1_use, Cond.selects RX1 yX1_use yX1_use, Cond.initialized RX1, Cond.code yX1_use cX1_use 2 (some .int), Cond.fieldLink RX1 13 "RollbackPair$Inputs" "count" "I", Cond.fieldLink RX1 7 "RollbackPair$Inputs" "kept" "[B", Cond.fieldLink RX1 17 "RollbackPair$Inputs" "ended" "Z", Cond.methodLink RX3 98 yX0_play, Cond.instanceMethod yX0_play, Cond.selects RX0 yX0_play yX0_play, Cond.initialized RX0, Cond.code yX0_play cX0_play 4 none, Cond.fieldLink RX0 19 "RollbackPair$History" "inputs" "[[B", Cond.methodLink RX0 23 yX0_before]
def wsX3_playFrames_r2 : List Cond := [Cond.instanceMethod yX0_before, Cond.selects RX0 yX0_before yX0_before, Cond.code yX0_before cX0_before 2 (some (.object "RollbackPair$State")), Cond.fieldLink RX0 13 "RollbackPair$History" "states" "[LRollbackPair$State;", Cond.methodLink RX0 27 yX5_follow, Cond.instanceMethod yX5_follow, Cond.selects RX5 yX5_follow yX5_follow, Cond.initialized RX5, Cond.code yX5_follow cX5_follow 8 none, Cond.fieldLink RX5 22 "RollbackPair$State" "hitCount" "I", Cond.fieldLink RX5 7 "RollbackPair$State" "places" "[F", Cond.fieldLink RX5 13 "RollbackPair$State" "speeds" "[F", Cond.fieldLink RX5 29 "RollbackPair$State" "workDone" "D", Cond.methodLink RX5 18 yX5_move, Cond.instanceMethod yX5_move, Cond.selects RX5 yX5_move yX5_move, Cond.code yX5_move cX5_move 7 none, Cond.constantFloat RX5 33 (1063256064), Cond.constantFloat RX5 34 (1050253722), Cond.constantFloat RX5 35 (1056964608), Cond.constantFloat RX5 36 (1107296256), Cond.constantFloat RX5 37 (1115684864), Cond.methodLink RX5 26 yX5_bounceApart, Cond.instanceMethod yX5_bounceApart]
def wsX3_playFrames_r3 : List Cond := [Cond.selects RX5 yX5_bounceApart yX5_bounceApart, Cond.code yX5_bounceApart cX5_bounceApart 3 none]
def wsX3_playFrames : List Cond := .code yX3_playFrames cX3_playFrames 4 none :: ((wsX3_playFrames_r1 ++ (wsX3_playFrames_r2 ++ wsX3_playFrames_r3)) ++ wsX30 ++ wsX10 ++ wsX00 ++ wsX50)
def wsX3_stall_r1 : List Cond := [Cond.fieldLink RX3 84 "RollbackPair$Peer" "stalls" "I", Cond.fieldLink RX3 41 "RollbackPair$Peer" "others" "LRollbackPair$Inputs;", Cond.fieldLink RX3 61 "RollbackPair$Inputs" "ended" "Z", Cond.fieldLink RX3 58 "RollbackPair$Inputs" "count" "I", Cond.fieldLink RX3 51 "RollbackPair$Peer" "at" "I", Cond.methodLink RX3 87 yX3_firstWrong, Cond.instanceMethod yX3_firstWrong, Cond.selects RX3 yX3_firstWrong yX3_firstWrong, Cond.initialized RX3, Cond.code yX3_firstWrong cX3_firstWrong 3 (some .int), Cond.fieldLink RX3 12 "RollbackPair$Peer" "history" "LRollbackPair$History;", Cond.fieldLink RX3 18 "RollbackPair$Peer" "player" "I", Cond.methodLink RX3 102 yX0_inputPlayed, Cond.instanceMethod yX0_inputPlayed, Cond.selects RX0 yX0_inputPlayed yX0_inputPlayed, Cond.initialized RX0, Cond.code yX0_inputPlayed cX0_inputPlayed 4 (some .int), Cond.fieldLink RX0 19 "RollbackPair$History" "inputs" "[[B", Cond.methodLink RX3 95 yX1_use, Cond.instanceMethod yX1_use, Cond.selects RX1 yX1_use yX1_use, Cond.initialized RX1, Cond.code yX1_use cX1_use 2 (some .int), Cond.fieldLink RX1 13 "RollbackPair$Inputs" "count" "I"]
def wsX3_stall_r2 : List Cond := [Cond.fieldLink RX1 7 "RollbackPair$Inputs" "kept" "[B", Cond.fieldLink RX1 17 "RollbackPair$Inputs" "ended" "Z", Cond.methodLink RX3 78 yX3_playFrames, Cond.instanceMethod yX3_playFrames, Cond.selects RX3 yX3_playFrames yX3_playFrames, Cond.code yX3_playFrames cX3_playFrames 4 none, Cond.methodLink RX3 91 yX3_inputsOf, Cond.instanceMethod yX3_inputsOf, Cond.selects RX3 yX3_inputsOf yX3_inputsOf, Cond.code yX3_inputsOf cX3_inputsOf 2 (some (.object "RollbackPair$Inputs")), Cond.fieldLink RX3 37 "RollbackPair$Peer" "own" "LRollbackPair$Inputs;", Cond.methodLink RX3 98 yX0_play, Cond.instanceMethod yX0_play, Cond.selects RX0 yX0_play yX0_play, Cond.code yX0_play cX0_play 4 none, Cond.methodLink RX0 23 yX0_before, Cond.instanceMethod yX0_before, Cond.selects RX0 yX0_before yX0_before, Cond.code yX0_before cX0_before 2 (some (.object "RollbackPair$State")), Cond.fieldLink RX0 13 "RollbackPair$History" "states" "[LRollbackPair$State;", Cond.methodLink RX0 27 yX5_follow, Cond.instanceMethod yX5_follow, Cond.selects RX5 yX5_follow yX5_follow, Cond.initialized RX5]
def wsX3_stall_r3 : List Cond := [Cond.code yX5_follow cX5_follow 8 none, Cond.fieldLink RX5 22 "RollbackPair$State" "hitCount" "I", Cond.fieldLink RX5 7 "RollbackPair$State" "places" "[F", Cond.fieldLink RX5 13 "RollbackPair$State" "speeds" "[F", Cond.fieldLink RX5 29 "RollbackPair$State" "workDone" "D", Cond.methodLink RX5 18 yX5_move, Cond.instanceMethod yX5_move, Cond.selects RX5 yX5_move yX5_move, Cond.code yX5_move cX5_move 7 none, Cond.constantFloat RX5 33 (1063256064), Cond.constantFloat RX5 34 (1050253722), Cond.constantFloat RX5 35 (1056964608), Cond.constantFloat RX5 36 (1107296256), Cond.constantFloat RX5 37 (1115684864), Cond.methodLink RX5 26 yX5_bounceApart, Cond.instanceMethod yX5_bounceApart, Cond.selects RX5 yX5_bounceApart yX5_bounceApart, Cond.code yX5_bounceApart cX5_bounceApart 3 none]
def wsX3_stall : List Cond := .code yX3_stall cX3_stall 1 none :: ((wsX3_stall_r1 ++ (wsX3_stall_r2 ++ wsX3_stall_r3)) ++ wsX30 ++ wsX10 ++ wsX00 ++ wsX50)
def wsX4_addLast : List Cond := .code yX4_addLast cX4_addLast 1 (some (.object "RollbackPair$Packet")) :: ([.fieldLink RX4 16 "RollbackPair$Row" "size" "I", .fieldLink RX4 11 "RollbackPair$Row" "slots" "[LRollbackPair$Packet;"] ++ wsX40)
def wsX3_sendPacket_r1 : List Cond := [Cond.fieldLink RX3 47 "RollbackPair$Peer" "nextNumber" "S", Cond.fieldLink RX3 29 "RollbackPair$Peer" "leaving" "LRollbackPair$Row;", Cond.fieldLink RX3 112 "RollbackPair$Packet" "number" "S", Cond.fieldLink RX3 51 "RollbackPair$Peer" "at" "I", Cond.fieldLink RX3 117 "RollbackPair$Packet" "frame" "I", Cond.fieldLink RX3 41 "RollbackPair$Peer" "others" "LRollbackPair$Inputs;", Cond.fieldLink RX3 58 "RollbackPair$Inputs" "count" "I", Cond.fieldLink RX3 120 "RollbackPair$Packet" "ack" "I", Cond.fieldLink RX3 37 "RollbackPair$Peer" "own" "LRollbackPair$Inputs;", Cond.fieldLink RX3 44 "RollbackPair$Peer" "told" "I", Cond.fieldLink RX3 131 "RollbackPair$Packet" "check" "I", Cond.methodLink RX3 106 yX4_addLast, Cond.instanceMethod yX4_addLast, Cond.selects RX4 yX4_addLast yX4_addLast, Cond.initialized RX4, Cond.code yX4_addLast cX4_addLast 1 (some (.object "RollbackPair$Packet")), Cond.fieldLink RX4 16 "RollbackPair$Row" "size" "I", Cond.fieldLink RX4 11 "RollbackPair$Row" "slots" "[LRollbackPair$Packet;", Cond.methodLink RX3 123 yX2_carry, Cond.instanceMethod yX2_carry, Cond.selects RX2 yX2_carry yX2_carry, Cond.initialized RX2, Cond.code yX2_carry cX2_carry 4 none, Cond.fieldLink RX2 9 "RollbackPair$Packet" "first" "I"]
def wsX3_sendPacket_r2 : List Cond := [Cond.fieldLink RX2 15 "RollbackPair$Inputs" "count" "I", Cond.methodLink RX2 20 Lib.Math.min.name, Cond.static Lib.Math.min.name, Cond.initialized "java/lang/Math", Cond.code Lib.Math.min.name Lib.Math.min.code 2 (some .int), Cond.fieldLink RX2 26 "RollbackPair$Packet" "count" "I", Cond.fieldLink RX2 27 "RollbackPair$Packet" "bits" "J", Cond.methodLink RX2 31 yX1_use, Cond.instanceMethod yX1_use, Cond.selects RX1 yX1_use yX1_use, Cond.initialized RX1, Cond.code yX1_use cX1_use 2 (some .int), Cond.fieldLink RX1 13 "RollbackPair$Inputs" "count" "I", Cond.fieldLink RX1 7 "RollbackPair$Inputs" "kept" "[B", Cond.fieldLink RX1 17 "RollbackPair$Inputs" "ended" "Z", Cond.methodLink RX3 127 yX2_rightCheck, Cond.instanceMethod yX2_rightCheck, Cond.selects RX2 yX2_rightCheck yX2_rightCheck, Cond.code yX2_rightCheck cX2_rightCheck 2 (some .int), Cond.fieldLink RX2 35 "RollbackPair$Packet" "number" "S", Cond.fieldLink RX2 39 "RollbackPair$Packet" "frame" "I", Cond.fieldLink RX2 42 "RollbackPair$Packet" "ack" "I"]
def wsX3_sendPacket : List Cond := .code yX3_sendPacket cX3_sendPacket 3 none :: ((wsX3_sendPacket_r1 ++ wsX3_sendPacket_r2) ++ wsX30 ++ wsX20 ++ wsX10 ++ wsX40)
def wsX3_goOn_r1 : List Cond := [Cond.fieldLink RX3 41 "RollbackPair$Peer" "others" "LRollbackPair$Inputs;", Cond.fieldLink RX3 61 "RollbackPair$Inputs" "ended" "Z", Cond.fieldLink RX3 51 "RollbackPair$Peer" "at" "I", Cond.fieldLink RX3 58 "RollbackPair$Inputs" "count" "I", Cond.fieldLink RX3 22 "RollbackPair$Peer" "window" "I", Cond.fieldLink RX3 37 "RollbackPair$Peer" "own" "LRollbackPair$Inputs;", Cond.methodLink RX3 71 yX3_stall, Cond.instanceMethod yX3_stall, Cond.selects RX3 yX3_stall yX3_stall, Cond.initialized RX3, Cond.code yX3_stall cX3_stall 1 none, Cond.fieldLink RX3 84 "RollbackPair$Peer" "stalls" "I", Cond.methodLink RX3 87 yX3_firstWrong, Cond.instanceMethod yX3_firstWrong, Cond.selects RX3 yX3_firstWrong yX3_firstWrong, Cond.code yX3_firstWrong cX3_firstWrong 3 (some .int), Cond.fieldLink RX3 12 "RollbackPair$Peer" "history" "LRollbackPair$History;", Cond.fieldLink RX3 18 "RollbackPair$Peer" "player" "I", Cond.methodLink RX3 102 yX0_inputPlayed, Cond.instanceMethod yX0_inputPlayed, Cond.selects RX0 yX0_inputPlayed yX0_inputPlayed, Cond.initialized RX0, Cond.code yX0_inputPlayed cX0_inputPlayed 4 (some .int), Cond.fieldLink RX0 19 "RollbackPair$History" "inputs" "[[B"]
def wsX3_goOn_r2 : List Cond := [Cond.methodLink RX3 95 yX1_use, Cond.instanceMethod yX1_use, Cond.selects RX1 yX1_use yX1_use, Cond.initialized RX1, Cond.code yX1_use cX1_use 2 (some .int), Cond.fieldLink RX1 13 "RollbackPair$Inputs" "count" "I", Cond.fieldLink RX1 7 "RollbackPair$Inputs" "kept" "[B", Cond.fieldLink RX1 17 "RollbackPair$Inputs" "ended" "Z", Cond.methodLink RX3 78 yX3_playFrames, Cond.instanceMethod yX3_playFrames, Cond.selects RX3 yX3_playFrames yX3_playFrames, Cond.code yX3_playFrames cX3_playFrames 4 none, Cond.methodLink RX3 91 yX3_inputsOf, Cond.instanceMethod yX3_inputsOf, Cond.selects RX3 yX3_inputsOf yX3_inputsOf, Cond.code yX3_inputsOf cX3_inputsOf 2 (some (.object "RollbackPair$Inputs")), Cond.methodLink RX3 98 yX0_play, Cond.instanceMethod yX0_play, Cond.selects RX0 yX0_play yX0_play, Cond.code yX0_play cX0_play 4 none, Cond.methodLink RX0 23 yX0_before, Cond.instanceMethod yX0_before, Cond.selects RX0 yX0_before yX0_before, Cond.code yX0_before cX0_before 2 (some (.object "RollbackPair$State"))]
def wsX3_goOn_r3 : List Cond := [Cond.fieldLink RX0 13 "RollbackPair$History" "states" "[LRollbackPair$State;", Cond.methodLink RX0 27 yX5_follow, Cond.instanceMethod yX5_follow, Cond.selects RX5 yX5_follow yX5_follow, Cond.initialized RX5, Cond.code yX5_follow cX5_follow 8 none, Cond.fieldLink RX5 22 "RollbackPair$State" "hitCount" "I", Cond.fieldLink RX5 7 "RollbackPair$State" "places" "[F", Cond.fieldLink RX5 13 "RollbackPair$State" "speeds" "[F", Cond.fieldLink RX5 29 "RollbackPair$State" "workDone" "D", Cond.methodLink RX5 18 yX5_move, Cond.instanceMethod yX5_move, Cond.selects RX5 yX5_move yX5_move, Cond.code yX5_move cX5_move 7 none, Cond.constantFloat RX5 33 (1063256064), Cond.constantFloat RX5 34 (1050253722), Cond.constantFloat RX5 35 (1056964608), Cond.constantFloat RX5 36 (1107296256), Cond.constantFloat RX5 37 (1115684864), Cond.methodLink RX5 26 yX5_bounceApart, Cond.instanceMethod yX5_bounceApart, Cond.selects RX5 yX5_bounceApart yX5_bounceApart, Cond.code yX5_bounceApart cX5_bounceApart 3 none, Cond.methodLink RX3 74 yX1_learn]
def wsX3_goOn_r4 : List Cond := [Cond.instanceMethod yX1_learn, Cond.selects RX1 yX1_learn yX1_learn, Cond.code yX1_learn cX1_learn 2 none, Cond.methodLink RX3 81 yX3_sendPacket, Cond.instanceMethod yX3_sendPacket, Cond.selects RX3 yX3_sendPacket yX3_sendPacket, Cond.code yX3_sendPacket cX3_sendPacket 3 none, Cond.fieldLink RX3 47 "RollbackPair$Peer" "nextNumber" "S", Cond.fieldLink RX3 29 "RollbackPair$Peer" "leaving" "LRollbackPair$Row;", Cond.fieldLink RX3 112 "RollbackPair$Packet" "number" "S", Cond.fieldLink RX3 117 "RollbackPair$Packet" "frame" "I", Cond.fieldLink RX3 120 "RollbackPair$Packet" "ack" "I", Cond.fieldLink RX3 44 "RollbackPair$Peer" "told" "I", Cond.fieldLink RX3 131 "RollbackPair$Packet" "check" "I", Cond.methodLink RX3 106 yX4_addLast, Cond.instanceMethod yX4_addLast, Cond.selects RX4 yX4_addLast yX4_addLast, Cond.initialized RX4, Cond.code yX4_addLast cX4_addLast 1 (some (.object "RollbackPair$Packet")), Cond.fieldLink RX4 16 "RollbackPair$Row" "size" "I", Cond.fieldLink RX4 11 "RollbackPair$Row" "slots" "[LRollbackPair$Packet;", Cond.methodLink RX3 123 yX2_carry, Cond.instanceMethod yX2_carry, Cond.selects RX2 yX2_carry yX2_carry]
def wsX3_goOn_r5 : List Cond := [Cond.initialized RX2, Cond.code yX2_carry cX2_carry 4 none, Cond.fieldLink RX2 9 "RollbackPair$Packet" "first" "I", Cond.fieldLink RX2 15 "RollbackPair$Inputs" "count" "I", Cond.methodLink RX2 20 Lib.Math.min.name, Cond.static Lib.Math.min.name, Cond.initialized "java/lang/Math", Cond.code Lib.Math.min.name Lib.Math.min.code 2 (some .int), Cond.fieldLink RX2 26 "RollbackPair$Packet" "count" "I", Cond.fieldLink RX2 27 "RollbackPair$Packet" "bits" "J", Cond.methodLink RX2 31 yX1_use, Cond.methodLink RX3 127 yX2_rightCheck, Cond.instanceMethod yX2_rightCheck, Cond.selects RX2 yX2_rightCheck yX2_rightCheck, Cond.code yX2_rightCheck cX2_rightCheck 2 (some .int), Cond.fieldLink RX2 35 "RollbackPair$Packet" "number" "S", Cond.fieldLink RX2 39 "RollbackPair$Packet" "frame" "I", Cond.fieldLink RX2 42 "RollbackPair$Packet" "ack" "I"]
def wsX3_goOn : List Cond := .code yX3_goOn cX3_goOn 2 (some .int) :: ((wsX3_goOn_r1 ++ (wsX3_goOn_r2 ++ (wsX3_goOn_r3 ++ (wsX3_goOn_r4 ++ wsX3_goOn_r5)))) ++ wsX30 ++ wsX10 ++ wsX00 ++ wsX50 ++ wsX20 ++ wsX40)
def wsX3_takes : List Cond := .code yX3_takes cX3_takes 2 (some .boolean) :: ([.fieldLink RX3 41 "RollbackPair$Peer" "others" "LRollbackPair$Inputs;", .fieldLink RX3 61 "RollbackPair$Inputs" "ended" "Z", .fieldLink RX3 131 "RollbackPair$Packet" "check" "I", .fieldLink RX3 138 "RollbackPair$Peer" "hasTaken" "Z", .fieldLink RX3 112 "RollbackPair$Packet" "number" "S", .fieldLink RX3 141 "RollbackPair$Peer" "latestNumber" "S", .methodLink RX3 127 yX2_rightCheck, .instanceMethod yX2_rightCheck, .selects RX2 yX2_rightCheck yX2_rightCheck, .initialized RX2, .code yX2_rightCheck cX2_rightCheck 2 (some .int), .fieldLink RX2 35 "RollbackPair$Packet" "number" "S", .fieldLink RX2 39 "RollbackPair$Packet" "frame" "I", .fieldLink RX2 42 "RollbackPair$Packet" "ack" "I", .fieldLink RX2 9 "RollbackPair$Packet" "first" "I", .fieldLink RX2 26 "RollbackPair$Packet" "count" "I", .fieldLink RX2 27 "RollbackPair$Packet" "bits" "J"] ++ wsX30 ++ wsX10 ++ wsX20)
def wsX3_learnFrom : List Cond := .code yX3_learnFrom cX3_learnFrom 5 none :: ([.fieldLink RX3 154 "RollbackPair$Packet" "count" "I", .methodLink RX3 65 Lib.Math.min.name, .static Lib.Math.min.name, .initialized "java/lang/Math", .code Lib.Math.min.name Lib.Math.min.code 2 (some .int), .fieldLink RX3 155 "RollbackPair$Packet" "first" "I", .fieldLink RX3 41 "RollbackPair$Peer" "others" "LRollbackPair$Inputs;", .fieldLink RX3 58 "RollbackPair$Inputs" "count" "I", .fieldLink RX3 51 "RollbackPair$Peer" "at" "I", .methodLink RX3 158 yX2_input, .instanceMethod yX2_input, .selects RX2 yX2_input yX2_input, .initialized RX2, .code yX2_input cX2_input 2 (some .int), .fieldLink RX2 27 "RollbackPair$Packet" "bits" "J", .methodLink RX3 74 yX1_learn, .instanceMethod yX1_learn, .selects RX1 yX1_learn yX1_learn, .initialized RX1, .code yX1_learn cX1_learn 2 none, .fieldLink RX1 7 "RollbackPair$Inputs" "kept" "[B", .fieldLink RX1 13 "RollbackPair$Inputs" "count" "I"] ++ wsX20 ++ wsX30 ++ wsX10)
def wsX3_receive_r1 : List Cond := [Cond.fieldLink RX3 138 "RollbackPair$Peer" "hasTaken" "Z", Cond.fieldLink RX3 112 "RollbackPair$Packet" "number" "S", Cond.fieldLink RX3 141 "RollbackPair$Peer" "latestNumber" "S", Cond.fieldLink RX3 84 "RollbackPair$Peer" "stalls" "I", Cond.fieldLink RX3 144 "RollbackPair$Peer" "lead" "F", Cond.constantFloat RX3 148 (1061158912), Cond.constantFloat RX3 149 (1048576000), Cond.fieldLink RX3 51 "RollbackPair$Peer" "at" "I", Cond.fieldLink RX3 117 "RollbackPair$Packet" "frame" "I", Cond.fieldLink RX3 120 "RollbackPair$Packet" "ack" "I", Cond.fieldLink RX3 44 "RollbackPair$Peer" "told" "I", Cond.fieldLink RX3 37 "RollbackPair$Peer" "own" "LRollbackPair$Inputs;", Cond.fieldLink RX3 58 "RollbackPair$Inputs" "count" "I", Cond.fieldLink RX3 41 "RollbackPair$Peer" "others" "LRollbackPair$Inputs;", Cond.methodLink RX3 134 yX3_takes, Cond.instanceMethod yX3_takes, Cond.selects RX3 yX3_takes yX3_takes, Cond.initialized RX3, Cond.code yX3_takes cX3_takes 2 (some .boolean), Cond.fieldLink RX3 61 "RollbackPair$Inputs" "ended" "Z", Cond.fieldLink RX3 131 "RollbackPair$Packet" "check" "I", Cond.methodLink RX3 127 yX2_rightCheck, Cond.instanceMethod yX2_rightCheck, Cond.selects RX2 yX2_rightCheck yX2_rightCheck]
def wsX3_receive_r2 : List Cond := [Cond.initialized RX2, Cond.code yX2_rightCheck cX2_rightCheck 2 (some .int), Cond.fieldLink RX2 35 "RollbackPair$Packet" "number" "S", Cond.fieldLink RX2 39 "RollbackPair$Packet" "frame" "I", Cond.fieldLink RX2 42 "RollbackPair$Packet" "ack" "I", Cond.fieldLink RX2 9 "RollbackPair$Packet" "first" "I", Cond.fieldLink RX2 26 "RollbackPair$Packet" "count" "I", Cond.fieldLink RX2 27 "RollbackPair$Packet" "bits" "J", Cond.methodLink RX3 150 yX3_learnFrom, Cond.instanceMethod yX3_learnFrom, Cond.selects RX3 yX3_learnFrom yX3_learnFrom, Cond.code yX3_learnFrom cX3_learnFrom 5 none, Cond.fieldLink RX3 154 "RollbackPair$Packet" "count" "I", Cond.methodLink RX3 65 Lib.Math.min.name, Cond.static Lib.Math.min.name, Cond.initialized "java/lang/Math", Cond.code Lib.Math.min.name Lib.Math.min.code 2 (some .int), Cond.fieldLink RX3 155 "RollbackPair$Packet" "first" "I", Cond.methodLink RX3 158 yX2_input, Cond.instanceMethod yX2_input, Cond.selects RX2 yX2_input yX2_input, Cond.code yX2_input cX2_input 2 (some .int), Cond.methodLink RX3 74 yX1_learn, Cond.instanceMethod yX1_learn]
def wsX3_receive_r3 : List Cond := [Cond.selects RX1 yX1_learn yX1_learn, Cond.initialized RX1, Cond.code yX1_learn cX1_learn 2 none, Cond.fieldLink RX1 7 "RollbackPair$Inputs" "kept" "[B", Cond.fieldLink RX1 13 "RollbackPair$Inputs" "count" "I", Cond.methodLink RX3 87 yX3_firstWrong, Cond.instanceMethod yX3_firstWrong, Cond.selects RX3 yX3_firstWrong yX3_firstWrong, Cond.code yX3_firstWrong cX3_firstWrong 3 (some .int), Cond.fieldLink RX3 12 "RollbackPair$Peer" "history" "LRollbackPair$History;", Cond.fieldLink RX3 18 "RollbackPair$Peer" "player" "I", Cond.methodLink RX3 102 yX0_inputPlayed, Cond.instanceMethod yX0_inputPlayed, Cond.selects RX0 yX0_inputPlayed yX0_inputPlayed, Cond.initialized RX0, Cond.code yX0_inputPlayed cX0_inputPlayed 4 (some .int), Cond.fieldLink RX0 19 "RollbackPair$History" "inputs" "[[B", Cond.methodLink RX3 95 yX1_use, Cond.instanceMethod yX1_use, Cond.selects RX1 yX1_use yX1_use, Cond.code yX1_use cX1_use 2 (some .int), Cond.fieldLink RX1 17 "RollbackPair$Inputs" "ended" "Z", Cond.methodLink RX3 78 yX3_playFrames, Cond.instanceMethod yX3_playFrames]
def wsX3_receive_r4 : List Cond := [Cond.selects RX3 yX3_playFrames yX3_playFrames, Cond.code yX3_playFrames cX3_playFrames 4 none, Cond.methodLink RX3 91 yX3_inputsOf, Cond.instanceMethod yX3_inputsOf, Cond.selects RX3 yX3_inputsOf yX3_inputsOf, Cond.code yX3_inputsOf cX3_inputsOf 2 (some (.object "RollbackPair$Inputs")), Cond.methodLink RX3 98 yX0_play, Cond.instanceMethod yX0_play, Cond.selects RX0 yX0_play yX0_play, Cond.code yX0_play cX0_play 4 none, Cond.methodLink RX0 23 yX0_before, Cond.instanceMethod yX0_before, Cond.selects RX0 yX0_before yX0_before, Cond.code yX0_before cX0_before 2 (some (.object "RollbackPair$State")), Cond.fieldLink RX0 13 "RollbackPair$History" "states" "[LRollbackPair$State;", Cond.methodLink RX0 27 yX5_follow, Cond.instanceMethod yX5_follow, Cond.selects RX5 yX5_follow yX5_follow, Cond.initialized RX5, Cond.code yX5_follow cX5_follow 8 none, Cond.fieldLink RX5 22 "RollbackPair$State" "hitCount" "I", Cond.fieldLink RX5 7 "RollbackPair$State" "places" "[F", Cond.fieldLink RX5 13 "RollbackPair$State" "speeds" "[F", Cond.fieldLink RX5 29 "RollbackPair$State" "workDone" "D"]
def wsX3_receive_r5 : List Cond := [Cond.methodLink RX5 18 yX5_move, Cond.instanceMethod yX5_move, Cond.selects RX5 yX5_move yX5_move, Cond.code yX5_move cX5_move 7 none, Cond.constantFloat RX5 33 (1063256064), Cond.constantFloat RX5 34 (1050253722), Cond.constantFloat RX5 35 (1056964608), Cond.constantFloat RX5 36 (1107296256), Cond.constantFloat RX5 37 (1115684864), Cond.methodLink RX5 26 yX5_bounceApart, Cond.instanceMethod yX5_bounceApart, Cond.selects RX5 yX5_bounceApart yX5_bounceApart, Cond.code yX5_bounceApart cX5_bounceApart 3 none]
def wsX3_receive : List Cond := .code yX3_receive cX3_receive 4 (some .int) :: ((wsX3_receive_r1 ++ (wsX3_receive_r2 ++ (wsX3_receive_r3 ++ (wsX3_receive_r4 ++ wsX3_receive_r5)))) ++ wsX30 ++ wsX20 ++ wsX10 ++ wsX00 ++ wsX50)
def wsX4_init : List Cond := .code yX4_init cX4_init 2 none :: ([.methodLink RX4 1 objectInit, .instanceMethod objectInit, .code objectInit ⟨#[0xb1]⟩ 1 none, .classLink RX4 9 RX2, .fieldLink RX4 11 "RollbackPair$Row" "slots" "[LRollbackPair$Packet;", .instantiable RX2 7, .initialized RX2, .instanceMethod yX2_init, .code yX2_init cX2_init 1 none, .methodLink RX2 3 objectInit] ++ wsX40 ++ wsX20)
def wsX4_first : List Cond := .code yX4_first cX4_first 1 (some (.object "RollbackPair$Packet")) :: ([.fieldLink RX4 16 "RollbackPair$Row" "size" "I", .fieldLink RX4 11 "RollbackPair$Row" "slots" "[LRollbackPair$Packet;"] ++ wsX40)
def wsX4_sendFirstToEnd : List Cond := .code yX4_sendFirstToEnd cX4_sendFirstToEnd 3 (some .boolean) :: ([.fieldLink RX4 16 "RollbackPair$Row" "size" "I", .fieldLink RX4 11 "RollbackPair$Row" "slots" "[LRollbackPair$Packet;", .methodLink RX4 20 yX4_first, .instanceMethod yX4_first, .selects RX4 yX4_first yX4_first, .initialized RX4, .code yX4_first cX4_first 1 (some (.object "RollbackPair$Packet"))] ++ wsX40)
def wsX4_takeFirst : List Cond := .code yX4_takeFirst cX4_takeFirst 2 (some (.object "RollbackPair$Packet")) :: ([.fieldLink RX4 16 "RollbackPair$Row" "size" "I", .methodLink RX4 20 yX4_first, .instanceMethod yX4_first, .selects RX4 yX4_first yX4_first, .initialized RX4, .code yX4_first cX4_first 1 (some (.object "RollbackPair$Packet")), .fieldLink RX4 11 "RollbackPair$Row" "slots" "[LRollbackPair$Packet;", .methodLink RX4 24 yX4_sendFirstToEnd, .instanceMethod yX4_sendFirstToEnd, .selects RX4 yX4_sendFirstToEnd yX4_sendFirstToEnd, .code yX4_sendFirstToEnd cX4_sendFirstToEnd 3 (some .boolean)] ++ wsX40)
def wsX4_doubleFirst : List Cond := .code yX4_doubleFirst cX4_doubleFirst 3 (some .boolean) :: ([.methodLink RX4 20 yX4_first, .instanceMethod yX4_first, .selects RX4 yX4_first yX4_first, .initialized RX4, .code yX4_first cX4_first 1 (some (.object "RollbackPair$Packet")), .fieldLink RX4 16 "RollbackPair$Row" "size" "I", .fieldLink RX4 11 "RollbackPair$Row" "slots" "[LRollbackPair$Packet;", .methodLink RX4 28 yX4_addLast, .instanceMethod yX4_addLast, .selects RX4 yX4_addLast yX4_addLast, .code yX4_addLast cX4_addLast 1 (some (.object "RollbackPair$Packet")), .methodLink RX4 31 yX2_copyOf, .instanceMethod yX2_copyOf, .selects RX2 yX2_copyOf yX2_copyOf, .initialized RX2, .code yX2_copyOf cX2_copyOf 2 none, .fieldLink RX2 35 "RollbackPair$Packet" "number" "S", .fieldLink RX2 39 "RollbackPair$Packet" "frame" "I", .fieldLink RX2 42 "RollbackPair$Packet" "ack" "I", .fieldLink RX2 9 "RollbackPair$Packet" "first" "I", .fieldLink RX2 26 "RollbackPair$Packet" "count" "I", .fieldLink RX2 27 "RollbackPair$Packet" "bits" "J", .fieldLink RX2 45 "RollbackPair$Packet" "check" "I"] ++ wsX40 ++ wsX20)
def wsX6_init_r1 : List Cond := [Cond.methodLink RX6 1 objectInit, Cond.instanceMethod objectInit, Cond.code objectInit ⟨#[0xb1]⟩ 1 none, Cond.classLink RX6 7 RX3, Cond.fieldLink RX6 9 "RollbackPair" "peers" "[LRollbackPair$Peer;", Cond.methodLink RX6 15 Lib.Math.min.name, Cond.static Lib.Math.min.name, Cond.initialized "java/lang/Math", Cond.code Lib.Math.min.name Lib.Math.min.code 2 (some .int), Cond.methodLink RX6 21 Lib.Math.max.name, Cond.static Lib.Math.max.name, Cond.code Lib.Math.max.name Lib.Math.max.code 2 (some .int), Cond.classLink RX6 24 RX4, Cond.instantiable RX4 2, Cond.initialized RX4, Cond.instantiable RX3 14, Cond.initialized RX3, Cond.methodLink RX6 26 yX4_init, Cond.instanceMethod yX4_init, Cond.code yX4_init cX4_init 2 none, Cond.methodLink RX4 1 objectInit, Cond.classLink RX4 9 RX2, Cond.fieldLink RX4 11 "RollbackPair$Row" "slots" "[LRollbackPair$Packet;", Cond.instantiable RX2 7]
def wsX6_init_r2 : List Cond := [Cond.initialized RX2, Cond.instanceMethod yX2_init, Cond.code yX2_init cX2_init 1 none, Cond.methodLink RX2 3 objectInit, Cond.methodLink RX6 27 yX3_init, Cond.instanceMethod yX3_init, Cond.code yX3_init cX3_init 7 none, Cond.methodLink RX3 3 objectInit, Cond.classLink RX3 9 RX0, Cond.instantiable RX0 2, Cond.initialized RX0, Cond.fieldLink RX3 12 "RollbackPair$Peer" "history" "LRollbackPair$History;", Cond.fieldLink RX3 18 "RollbackPair$Peer" "player" "I", Cond.fieldLink RX3 22 "RollbackPair$Peer" "window" "I", Cond.fieldLink RX3 25 "RollbackPair$Peer" "arriving" "LRollbackPair$Row;", Cond.fieldLink RX3 29 "RollbackPair$Peer" "leaving" "LRollbackPair$Row;", Cond.classLink RX3 32 RX1, Cond.instantiable RX1 3, Cond.initialized RX1, Cond.fieldLink RX3 37 "RollbackPair$Peer" "own" "LRollbackPair$Inputs;", Cond.fieldLink RX3 41 "RollbackPair$Peer" "others" "LRollbackPair$Inputs;", Cond.fieldLink RX3 44 "RollbackPair$Peer" "told" "I", Cond.fieldLink RX3 47 "RollbackPair$Peer" "nextNumber" "S", Cond.methodLink RX3 11 yX0_init]
def wsX6_init_r3 : List Cond := [Cond.instanceMethod yX0_init, Cond.code yX0_init cX0_init 2 none, Cond.methodLink RX0 3 objectInit, Cond.classLink RX0 11 RX5, Cond.fieldLink RX0 13 "RollbackPair$History" "states" "[LRollbackPair$State;", Cond.classLink RX0 17 "[[B", Cond.arrayClass .byte, Cond.fieldLink RX0 19 "RollbackPair$History" "inputs" "[[B", Cond.instantiable RX5 4, Cond.initialized RX5, Cond.methodLink RX0 22 yX5_init, Cond.instanceMethod yX5_init, Cond.code yX5_init cX5_init 1 none, Cond.methodLink RX5 1 objectInit, Cond.arrayClass .float, Cond.fieldLink RX5 7 "RollbackPair$State" "places" "[F", Cond.fieldLink RX5 13 "RollbackPair$State" "speeds" "[F", Cond.constantFloat RX5 16 (1090519040), Cond.constantFloat RX5 17 (1103101952), Cond.methodLink RX3 34 yX1_init, Cond.instanceMethod yX1_init, Cond.code yX1_init cX1_init 3 none, Cond.methodLink RX1 1 objectInit, Cond.fieldLink RX1 7 "RollbackPair$Inputs" "kept" "[B"]
def wsX6_init_r4 : List Cond := [Cond.fieldLink RX1 13 "RollbackPair$Inputs" "count" "I"]
def wsX6_init : List Cond := .code yX6_init cX6_init 8 none :: ((wsX6_init_r1 ++ (wsX6_init_r2 ++ (wsX6_init_r3 ++ wsX6_init_r4))) ++ wsX60 ++ wsX40 ++ wsX30 ++ wsX20 ++ wsX00 ++ wsX10 ++ wsX50)
def wsX6_isPlayer : List Cond := .code yX6_isPlayer cX6_isPlayer 1 (some .boolean) :: ([])
def wsX6_find : List Cond := .code yX6_find cX6_find 2 (some (.object "RollbackPair$Peer")) :: ([.fieldLink RX6 9 "RollbackPair" "peers" "[LRollbackPair$Peer;", .methodLink RX6 96 yX6_isPlayer, .static yX6_isPlayer, .initialized RX6, .code yX6_isPlayer cX6_isPlayer 1 (some .boolean)] ++ wsX60)
def wsX6_advance_r1 : List Cond := [Cond.methodLink RX6 30 yX6_find, Cond.instanceMethod yX6_find, Cond.selects RX6 yX6_find yX6_find, Cond.initialized RX6, Cond.code yX6_find cX6_find 2 (some (.object "RollbackPair$Peer")), Cond.fieldLink RX6 9 "RollbackPair" "peers" "[LRollbackPair$Peer;", Cond.methodLink RX6 96 yX6_isPlayer, Cond.static yX6_isPlayer, Cond.code yX6_isPlayer cX6_isPlayer 1 (some .boolean), Cond.methodLink RX6 34 yX3_goOn, Cond.instanceMethod yX3_goOn, Cond.selects RX3 yX3_goOn yX3_goOn, Cond.initialized RX3, Cond.code yX3_goOn cX3_goOn 2 (some .int), Cond.fieldLink RX3 41 "RollbackPair$Peer" "others" "LRollbackPair$Inputs;", Cond.fieldLink RX3 61 "RollbackPair$Inputs" "ended" "Z", Cond.fieldLink RX3 51 "RollbackPair$Peer" "at" "I", Cond.fieldLink RX3 58 "RollbackPair$Inputs" "count" "I", Cond.fieldLink RX3 22 "RollbackPair$Peer" "window" "I", Cond.fieldLink RX3 37 "RollbackPair$Peer" "own" "LRollbackPair$Inputs;", Cond.methodLink RX3 71 yX3_stall, Cond.instanceMethod yX3_stall, Cond.selects RX3 yX3_stall yX3_stall, Cond.code yX3_stall cX3_stall 1 none]
def wsX6_advance_r2 : List Cond := [Cond.fieldLink RX3 84 "RollbackPair$Peer" "stalls" "I", Cond.methodLink RX3 87 yX3_firstWrong, Cond.instanceMethod yX3_firstWrong, Cond.selects RX3 yX3_firstWrong yX3_firstWrong, Cond.code yX3_firstWrong cX3_firstWrong 3 (some .int), Cond.fieldLink RX3 12 "RollbackPair$Peer" "history" "LRollbackPair$History;", Cond.fieldLink RX3 18 "RollbackPair$Peer" "player" "I", Cond.methodLink RX3 102 yX0_inputPlayed, Cond.instanceMethod yX0_inputPlayed, Cond.selects RX0 yX0_inputPlayed yX0_inputPlayed, Cond.initialized RX0, Cond.code yX0_inputPlayed cX0_inputPlayed 4 (some .int), Cond.fieldLink RX0 19 "RollbackPair$History" "inputs" "[[B", Cond.methodLink RX3 95 yX1_use, Cond.instanceMethod yX1_use, Cond.selects RX1 yX1_use yX1_use, Cond.initialized RX1, Cond.code yX1_use cX1_use 2 (some .int), Cond.fieldLink RX1 13 "RollbackPair$Inputs" "count" "I", Cond.fieldLink RX1 7 "RollbackPair$Inputs" "kept" "[B", Cond.fieldLink RX1 17 "RollbackPair$Inputs" "ended" "Z", Cond.methodLink RX3 78 yX3_playFrames, Cond.instanceMethod yX3_playFrames, Cond.selects RX3 yX3_playFrames yX3_playFrames]
def wsX6_advance_r3 : List Cond := [Cond.code yX3_playFrames cX3_playFrames 4 none, Cond.methodLink RX3 91 yX3_inputsOf, Cond.instanceMethod yX3_inputsOf, Cond.selects RX3 yX3_inputsOf yX3_inputsOf, Cond.code yX3_inputsOf cX3_inputsOf 2 (some (.object "RollbackPair$Inputs")), Cond.methodLink RX3 98 yX0_play, Cond.instanceMethod yX0_play, Cond.selects RX0 yX0_play yX0_play, Cond.code yX0_play cX0_play 4 none, Cond.methodLink RX0 23 yX0_before, Cond.instanceMethod yX0_before, Cond.selects RX0 yX0_before yX0_before, Cond.code yX0_before cX0_before 2 (some (.object "RollbackPair$State")), Cond.fieldLink RX0 13 "RollbackPair$History" "states" "[LRollbackPair$State;", Cond.methodLink RX0 27 yX5_follow, Cond.instanceMethod yX5_follow, Cond.selects RX5 yX5_follow yX5_follow, Cond.initialized RX5, Cond.code yX5_follow cX5_follow 8 none, Cond.fieldLink RX5 22 "RollbackPair$State" "hitCount" "I", Cond.fieldLink RX5 7 "RollbackPair$State" "places" "[F", Cond.fieldLink RX5 13 "RollbackPair$State" "speeds" "[F", Cond.fieldLink RX5 29 "RollbackPair$State" "workDone" "D", Cond.methodLink RX5 18 yX5_move]
def wsX6_advance_r4 : List Cond := [Cond.instanceMethod yX5_move, Cond.selects RX5 yX5_move yX5_move, Cond.code yX5_move cX5_move 7 none, Cond.constantFloat RX5 33 (1063256064), Cond.constantFloat RX5 34 (1050253722), Cond.constantFloat RX5 35 (1056964608), Cond.constantFloat RX5 36 (1107296256), Cond.constantFloat RX5 37 (1115684864), Cond.methodLink RX5 26 yX5_bounceApart, Cond.instanceMethod yX5_bounceApart, Cond.selects RX5 yX5_bounceApart yX5_bounceApart, Cond.code yX5_bounceApart cX5_bounceApart 3 none, Cond.methodLink RX3 74 yX1_learn, Cond.instanceMethod yX1_learn, Cond.selects RX1 yX1_learn yX1_learn, Cond.code yX1_learn cX1_learn 2 none, Cond.methodLink RX3 81 yX3_sendPacket, Cond.instanceMethod yX3_sendPacket, Cond.selects RX3 yX3_sendPacket yX3_sendPacket, Cond.code yX3_sendPacket cX3_sendPacket 3 none, Cond.fieldLink RX3 47 "RollbackPair$Peer" "nextNumber" "S", Cond.fieldLink RX3 29 "RollbackPair$Peer" "leaving" "LRollbackPair$Row;", Cond.fieldLink RX3 112 "RollbackPair$Packet" "number" "S", Cond.fieldLink RX3 117 "RollbackPair$Packet" "frame" "I"]
def wsX6_advance_r5 : List Cond := [Cond.fieldLink RX3 120 "RollbackPair$Packet" "ack" "I", Cond.fieldLink RX3 44 "RollbackPair$Peer" "told" "I", Cond.fieldLink RX3 131 "RollbackPair$Packet" "check" "I", Cond.methodLink RX3 106 yX4_addLast, Cond.instanceMethod yX4_addLast, Cond.selects RX4 yX4_addLast yX4_addLast, Cond.initialized RX4, Cond.code yX4_addLast cX4_addLast 1 (some (.object "RollbackPair$Packet")), Cond.fieldLink RX4 16 "RollbackPair$Row" "size" "I", Cond.fieldLink RX4 11 "RollbackPair$Row" "slots" "[LRollbackPair$Packet;", Cond.methodLink RX3 123 yX2_carry, Cond.instanceMethod yX2_carry, Cond.selects RX2 yX2_carry yX2_carry, Cond.initialized RX2, Cond.code yX2_carry cX2_carry 4 none, Cond.fieldLink RX2 9 "RollbackPair$Packet" "first" "I", Cond.fieldLink RX2 15 "RollbackPair$Inputs" "count" "I", Cond.methodLink RX2 20 Lib.Math.min.name, Cond.static Lib.Math.min.name, Cond.initialized "java/lang/Math", Cond.code Lib.Math.min.name Lib.Math.min.code 2 (some .int), Cond.fieldLink RX2 26 "RollbackPair$Packet" "count" "I", Cond.fieldLink RX2 27 "RollbackPair$Packet" "bits" "J", Cond.methodLink RX2 31 yX1_use]
def wsX6_advance_r6 : List Cond := [Cond.methodLink RX3 127 yX2_rightCheck, Cond.instanceMethod yX2_rightCheck, Cond.selects RX2 yX2_rightCheck yX2_rightCheck, Cond.code yX2_rightCheck cX2_rightCheck 2 (some .int), Cond.fieldLink RX2 35 "RollbackPair$Packet" "number" "S", Cond.fieldLink RX2 39 "RollbackPair$Packet" "frame" "I", Cond.fieldLink RX2 42 "RollbackPair$Packet" "ack" "I"]
def wsX6_advance : List Cond := .code yX6_advance cX6_advance 4 (some .int) :: ((wsX6_advance_r1 ++ (wsX6_advance_r2 ++ (wsX6_advance_r3 ++ (wsX6_advance_r4 ++ (wsX6_advance_r5 ++ wsX6_advance_r6))))) ++ wsX60 ++ wsX30 ++ wsX10 ++ wsX00 ++ wsX50 ++ wsX20 ++ wsX40)
def wsX6_deliver_r1 : List Cond := [Cond.fieldLink RX6 38 "RollbackPair$Peer" "arriving" "LRollbackPair$Row;", Cond.methodLink RX6 30 yX6_find, Cond.instanceMethod yX6_find, Cond.selects RX6 yX6_find yX6_find, Cond.initialized RX6, Cond.code yX6_find cX6_find 2 (some (.object "RollbackPair$Peer")), Cond.fieldLink RX6 9 "RollbackPair" "peers" "[LRollbackPair$Peer;", Cond.methodLink RX6 96 yX6_isPlayer, Cond.static yX6_isPlayer, Cond.code yX6_isPlayer cX6_isPlayer 1 (some .boolean), Cond.methodLink RX6 42 yX4_takeFirst, Cond.instanceMethod yX4_takeFirst, Cond.selects RX4 yX4_takeFirst yX4_takeFirst, Cond.initialized RX4, Cond.code yX4_takeFirst cX4_takeFirst 2 (some (.object "RollbackPair$Packet")), Cond.fieldLink RX4 16 "RollbackPair$Row" "size" "I", Cond.methodLink RX4 20 yX4_first, Cond.instanceMethod yX4_first, Cond.selects RX4 yX4_first yX4_first, Cond.code yX4_first cX4_first 1 (some (.object "RollbackPair$Packet")), Cond.fieldLink RX4 11 "RollbackPair$Row" "slots" "[LRollbackPair$Packet;", Cond.methodLink RX4 24 yX4_sendFirstToEnd, Cond.instanceMethod yX4_sendFirstToEnd, Cond.selects RX4 yX4_sendFirstToEnd yX4_sendFirstToEnd]
def wsX6_deliver_r2 : List Cond := [Cond.code yX4_sendFirstToEnd cX4_sendFirstToEnd 3 (some .boolean), Cond.methodLink RX6 46 yX3_receive, Cond.instanceMethod yX3_receive, Cond.selects RX3 yX3_receive yX3_receive, Cond.initialized RX3, Cond.code yX3_receive cX3_receive 4 (some .int), Cond.fieldLink RX3 138 "RollbackPair$Peer" "hasTaken" "Z", Cond.fieldLink RX3 112 "RollbackPair$Packet" "number" "S", Cond.fieldLink RX3 141 "RollbackPair$Peer" "latestNumber" "S", Cond.fieldLink RX3 84 "RollbackPair$Peer" "stalls" "I", Cond.fieldLink RX3 144 "RollbackPair$Peer" "lead" "F", Cond.constantFloat RX3 148 (1061158912), Cond.constantFloat RX3 149 (1048576000), Cond.fieldLink RX3 51 "RollbackPair$Peer" "at" "I", Cond.fieldLink RX3 117 "RollbackPair$Packet" "frame" "I", Cond.fieldLink RX3 120 "RollbackPair$Packet" "ack" "I", Cond.fieldLink RX3 44 "RollbackPair$Peer" "told" "I", Cond.fieldLink RX3 37 "RollbackPair$Peer" "own" "LRollbackPair$Inputs;", Cond.fieldLink RX3 58 "RollbackPair$Inputs" "count" "I", Cond.fieldLink RX3 41 "RollbackPair$Peer" "others" "LRollbackPair$Inputs;", Cond.methodLink RX3 134 yX3_takes, Cond.instanceMethod yX3_takes, Cond.selects RX3 yX3_takes yX3_takes, Cond.code yX3_takes cX3_takes 2 (some .boolean)]
def wsX6_deliver_r3 : List Cond := [Cond.fieldLink RX3 61 "RollbackPair$Inputs" "ended" "Z", Cond.fieldLink RX3 131 "RollbackPair$Packet" "check" "I", Cond.methodLink RX3 127 yX2_rightCheck, Cond.instanceMethod yX2_rightCheck, Cond.selects RX2 yX2_rightCheck yX2_rightCheck, Cond.initialized RX2, Cond.code yX2_rightCheck cX2_rightCheck 2 (some .int), Cond.fieldLink RX2 35 "RollbackPair$Packet" "number" "S", Cond.fieldLink RX2 39 "RollbackPair$Packet" "frame" "I", Cond.fieldLink RX2 42 "RollbackPair$Packet" "ack" "I", Cond.fieldLink RX2 9 "RollbackPair$Packet" "first" "I", Cond.fieldLink RX2 26 "RollbackPair$Packet" "count" "I", Cond.fieldLink RX2 27 "RollbackPair$Packet" "bits" "J", Cond.methodLink RX3 150 yX3_learnFrom, Cond.instanceMethod yX3_learnFrom, Cond.selects RX3 yX3_learnFrom yX3_learnFrom, Cond.code yX3_learnFrom cX3_learnFrom 5 none, Cond.fieldLink RX3 154 "RollbackPair$Packet" "count" "I", Cond.methodLink RX3 65 Lib.Math.min.name, Cond.static Lib.Math.min.name, Cond.initialized "java/lang/Math", Cond.code Lib.Math.min.name Lib.Math.min.code 2 (some .int), Cond.fieldLink RX3 155 "RollbackPair$Packet" "first" "I", Cond.methodLink RX3 158 yX2_input]
def wsX6_deliver_r4 : List Cond := [Cond.instanceMethod yX2_input, Cond.selects RX2 yX2_input yX2_input, Cond.code yX2_input cX2_input 2 (some .int), Cond.methodLink RX3 74 yX1_learn, Cond.instanceMethod yX1_learn, Cond.selects RX1 yX1_learn yX1_learn, Cond.initialized RX1, Cond.code yX1_learn cX1_learn 2 none, Cond.fieldLink RX1 7 "RollbackPair$Inputs" "kept" "[B", Cond.fieldLink RX1 13 "RollbackPair$Inputs" "count" "I", Cond.methodLink RX3 87 yX3_firstWrong, Cond.instanceMethod yX3_firstWrong, Cond.selects RX3 yX3_firstWrong yX3_firstWrong, Cond.code yX3_firstWrong cX3_firstWrong 3 (some .int), Cond.fieldLink RX3 12 "RollbackPair$Peer" "history" "LRollbackPair$History;", Cond.fieldLink RX3 18 "RollbackPair$Peer" "player" "I", Cond.methodLink RX3 102 yX0_inputPlayed, Cond.instanceMethod yX0_inputPlayed, Cond.selects RX0 yX0_inputPlayed yX0_inputPlayed, Cond.initialized RX0, Cond.code yX0_inputPlayed cX0_inputPlayed 4 (some .int), Cond.fieldLink RX0 19 "RollbackPair$History" "inputs" "[[B", Cond.methodLink RX3 95 yX1_use, Cond.instanceMethod yX1_use]
def wsX6_deliver_r5 : List Cond := [Cond.selects RX1 yX1_use yX1_use, Cond.code yX1_use cX1_use 2 (some .int), Cond.fieldLink RX1 17 "RollbackPair$Inputs" "ended" "Z", Cond.methodLink RX3 78 yX3_playFrames, Cond.instanceMethod yX3_playFrames, Cond.selects RX3 yX3_playFrames yX3_playFrames, Cond.code yX3_playFrames cX3_playFrames 4 none, Cond.methodLink RX3 91 yX3_inputsOf, Cond.instanceMethod yX3_inputsOf, Cond.selects RX3 yX3_inputsOf yX3_inputsOf, Cond.code yX3_inputsOf cX3_inputsOf 2 (some (.object "RollbackPair$Inputs")), Cond.methodLink RX3 98 yX0_play, Cond.instanceMethod yX0_play, Cond.selects RX0 yX0_play yX0_play, Cond.code yX0_play cX0_play 4 none, Cond.methodLink RX0 23 yX0_before, Cond.instanceMethod yX0_before, Cond.selects RX0 yX0_before yX0_before, Cond.code yX0_before cX0_before 2 (some (.object "RollbackPair$State")), Cond.fieldLink RX0 13 "RollbackPair$History" "states" "[LRollbackPair$State;", Cond.methodLink RX0 27 yX5_follow, Cond.instanceMethod yX5_follow, Cond.selects RX5 yX5_follow yX5_follow, Cond.initialized RX5]
def wsX6_deliver_r6 : List Cond := [Cond.code yX5_follow cX5_follow 8 none, Cond.fieldLink RX5 22 "RollbackPair$State" "hitCount" "I", Cond.fieldLink RX5 7 "RollbackPair$State" "places" "[F", Cond.fieldLink RX5 13 "RollbackPair$State" "speeds" "[F", Cond.fieldLink RX5 29 "RollbackPair$State" "workDone" "D", Cond.methodLink RX5 18 yX5_move, Cond.instanceMethod yX5_move, Cond.selects RX5 yX5_move yX5_move, Cond.code yX5_move cX5_move 7 none, Cond.constantFloat RX5 33 (1063256064), Cond.constantFloat RX5 34 (1050253722), Cond.constantFloat RX5 35 (1056964608), Cond.constantFloat RX5 36 (1107296256), Cond.constantFloat RX5 37 (1115684864), Cond.methodLink RX5 26 yX5_bounceApart, Cond.instanceMethod yX5_bounceApart, Cond.selects RX5 yX5_bounceApart yX5_bounceApart, Cond.code yX5_bounceApart cX5_bounceApart 3 none]
def wsX6_deliver : List Cond := .code yX6_deliver cX6_deliver 4 (some .int) :: ((wsX6_deliver_r1 ++ (wsX6_deliver_r2 ++ (wsX6_deliver_r3 ++ (wsX6_deliver_r4 ++ (wsX6_deliver_r5 ++ wsX6_deliver_r6))))) ++ wsX30 ++ wsX60 ++ wsX40 ++ wsX20 ++ wsX10 ++ wsX00 ++ wsX50)
def wsX6_alter_r1 : List Cond := [Cond.fieldLink RX6 38 "RollbackPair$Peer" "arriving" "LRollbackPair$Row;", Cond.methodLink RX6 30 yX6_find, Cond.instanceMethod yX6_find, Cond.selects RX6 yX6_find yX6_find, Cond.initialized RX6, Cond.code yX6_find cX6_find 2 (some (.object "RollbackPair$Peer")), Cond.fieldLink RX6 9 "RollbackPair" "peers" "[LRollbackPair$Peer;", Cond.methodLink RX6 96 yX6_isPlayer, Cond.static yX6_isPlayer, Cond.code yX6_isPlayer cX6_isPlayer 1 (some .boolean), Cond.methodLink RX6 42 yX4_takeFirst, Cond.instanceMethod yX4_takeFirst, Cond.selects RX4 yX4_takeFirst yX4_takeFirst, Cond.initialized RX4, Cond.code yX4_takeFirst cX4_takeFirst 2 (some (.object "RollbackPair$Packet")), Cond.fieldLink RX4 16 "RollbackPair$Row" "size" "I", Cond.methodLink RX4 20 yX4_first, Cond.instanceMethod yX4_first, Cond.selects RX4 yX4_first yX4_first, Cond.code yX4_first cX4_first 1 (some (.object "RollbackPair$Packet")), Cond.fieldLink RX4 11 "RollbackPair$Row" "slots" "[LRollbackPair$Packet;", Cond.methodLink RX4 24 yX4_sendFirstToEnd, Cond.instanceMethod yX4_sendFirstToEnd, Cond.selects RX4 yX4_sendFirstToEnd yX4_sendFirstToEnd]
def wsX6_alter_r2 : List Cond := [Cond.code yX4_sendFirstToEnd cX4_sendFirstToEnd 3 (some .boolean), Cond.methodLink RX6 50 yX4_doubleFirst, Cond.instanceMethod yX4_doubleFirst, Cond.selects RX4 yX4_doubleFirst yX4_doubleFirst, Cond.code yX4_doubleFirst cX4_doubleFirst 3 (some .boolean), Cond.methodLink RX4 28 yX4_addLast, Cond.instanceMethod yX4_addLast, Cond.selects RX4 yX4_addLast yX4_addLast, Cond.code yX4_addLast cX4_addLast 1 (some (.object "RollbackPair$Packet")), Cond.methodLink RX4 31 yX2_copyOf, Cond.instanceMethod yX2_copyOf, Cond.selects RX2 yX2_copyOf yX2_copyOf, Cond.initialized RX2, Cond.code yX2_copyOf cX2_copyOf 2 none, Cond.fieldLink RX2 35 "RollbackPair$Packet" "number" "S", Cond.fieldLink RX2 39 "RollbackPair$Packet" "frame" "I", Cond.fieldLink RX2 42 "RollbackPair$Packet" "ack" "I", Cond.fieldLink RX2 9 "RollbackPair$Packet" "first" "I", Cond.fieldLink RX2 26 "RollbackPair$Packet" "count" "I", Cond.fieldLink RX2 27 "RollbackPair$Packet" "bits" "J", Cond.fieldLink RX2 45 "RollbackPair$Packet" "check" "I", Cond.methodLink RX6 54 yX4_sendFirstToEnd]
def wsX6_alter : List Cond := .code yX6_alter cX6_alter 4 (some .boolean) :: ((wsX6_alter_r1 ++ wsX6_alter_r2) ++ wsX30 ++ wsX60 ++ wsX40 ++ wsX20)
def wsX6_spoil_r1 : List Cond := [Cond.fieldLink RX6 38 "RollbackPair$Peer" "arriving" "LRollbackPair$Row;", Cond.methodLink RX6 30 yX6_find, Cond.instanceMethod yX6_find, Cond.selects RX6 yX6_find yX6_find, Cond.initialized RX6, Cond.code yX6_find cX6_find 2 (some (.object "RollbackPair$Peer")), Cond.fieldLink RX6 9 "RollbackPair" "peers" "[LRollbackPair$Peer;", Cond.methodLink RX6 96 yX6_isPlayer, Cond.static yX6_isPlayer, Cond.code yX6_isPlayer cX6_isPlayer 1 (some .boolean), Cond.methodLink RX6 57 yX4_first, Cond.instanceMethod yX4_first, Cond.selects RX4 yX4_first yX4_first, Cond.initialized RX4, Cond.code yX4_first cX4_first 1 (some (.object "RollbackPair$Packet")), Cond.fieldLink RX4 16 "RollbackPair$Row" "size" "I", Cond.fieldLink RX4 11 "RollbackPair$Row" "slots" "[LRollbackPair$Packet;", Cond.methodLink RX6 60 yX2_flip, Cond.instanceMethod yX2_flip, Cond.selects RX2 yX2_flip yX2_flip, Cond.initialized RX2, Cond.code yX2_flip cX2_flip 3 (some .boolean), Cond.fieldLink RX2 35 "RollbackPair$Packet" "number" "S", Cond.fieldLink RX2 39 "RollbackPair$Packet" "frame" "I"]
def wsX6_spoil_r2 : List Cond := [Cond.fieldLink RX2 42 "RollbackPair$Packet" "ack" "I", Cond.fieldLink RX2 9 "RollbackPair$Packet" "first" "I", Cond.fieldLink RX2 26 "RollbackPair$Packet" "count" "I", Cond.fieldLink RX2 27 "RollbackPair$Packet" "bits" "J", Cond.constantLong RX2 48 (4294967295), Cond.fieldLink RX2 45 "RollbackPair$Packet" "check" "I"]
def wsX6_spoil : List Cond := .code yX6_spoil cX6_spoil 6 (some .boolean) :: ((wsX6_spoil_r1 ++ wsX6_spoil_r2) ++ wsX30 ++ wsX60 ++ wsX40 ++ wsX20)
def wsX6_about_r1 : List Cond := [Cond.fieldLink RX6 66 "RollbackPair$Peer" "at" "I", Cond.fieldLink RX6 74 "RollbackPair$Peer" "stalls" "I", Cond.fieldLink RX6 77 "RollbackPair$Peer" "others" "LRollbackPair$Inputs;", Cond.fieldLink RX6 81 "RollbackPair$Inputs" "ended" "Z", Cond.fieldLink RX6 87 "RollbackPair$Inputs" "count" "I", Cond.fieldLink RX6 38 "RollbackPair$Peer" "arriving" "LRollbackPair$Row;", Cond.fieldLink RX6 90 "RollbackPair$Row" "size" "I", Cond.fieldLink RX6 93 "RollbackPair$Peer" "told" "I", Cond.methodLink RX6 30 yX6_find, Cond.instanceMethod yX6_find, Cond.selects RX6 yX6_find yX6_find, Cond.initialized RX6, Cond.code yX6_find cX6_find 2 (some (.object "RollbackPair$Peer")), Cond.fieldLink RX6 9 "RollbackPair" "peers" "[LRollbackPair$Peer;", Cond.methodLink RX6 96 yX6_isPlayer, Cond.static yX6_isPlayer, Cond.code yX6_isPlayer cX6_isPlayer 1 (some .boolean), Cond.methodLink RX6 70 yX3_confirmed, Cond.instanceMethod yX3_confirmed, Cond.selects RX3 yX3_confirmed yX3_confirmed, Cond.initialized RX3, Cond.code yX3_confirmed cX3_confirmed 2 (some .int), Cond.fieldLink RX3 37 "RollbackPair$Peer" "own" "LRollbackPair$Inputs;", Cond.fieldLink RX3 58 "RollbackPair$Inputs" "count" "I"]
def wsX6_about_r2 : List Cond := [Cond.fieldLink RX3 41 "RollbackPair$Peer" "others" "LRollbackPair$Inputs;", Cond.fieldLink RX3 61 "RollbackPair$Inputs" "ended" "Z", Cond.fieldLink RX3 51 "RollbackPair$Peer" "at" "I", Cond.methodLink RX3 65 Lib.Math.min.name, Cond.static Lib.Math.min.name, Cond.initialized "java/lang/Math", Cond.code Lib.Math.min.name Lib.Math.min.code 2 (some .int)]
def wsX6_about : List Cond := .code yX6_about cX6_about 4 (some .int) :: ((wsX6_about_r1 ++ wsX6_about_r2) ++ wsX30 ++ wsX10 ++ wsX40 ++ wsX60)
def wsX6_known : List Cond := .code yX6_known cX6_known 4 (some .int) :: ([.fieldLink RX6 87 "RollbackPair$Inputs" "count" "I", .methodLink RX6 30 yX6_find, .instanceMethod yX6_find, .selects RX6 yX6_find yX6_find, .initialized RX6, .code yX6_find cX6_find 2 (some (.object "RollbackPair$Peer")), .fieldLink RX6 9 "RollbackPair" "peers" "[LRollbackPair$Peer;", .methodLink RX6 96 yX6_isPlayer, .static yX6_isPlayer, .code yX6_isPlayer cX6_isPlayer 1 (some .boolean), .methodLink RX6 100 yX3_inputsOf, .instanceMethod yX3_inputsOf, .selects RX3 yX3_inputsOf yX3_inputsOf, .initialized RX3, .code yX3_inputsOf cX3_inputsOf 2 (some (.object "RollbackPair$Inputs")), .fieldLink RX3 18 "RollbackPair$Peer" "player" "I", .fieldLink RX3 37 "RollbackPair$Peer" "own" "LRollbackPair$Inputs;", .fieldLink RX3 41 "RollbackPair$Peer" "others" "LRollbackPair$Inputs;"] ++ wsX10 ++ wsX60 ++ wsX30)
def wsX6_used : List Cond := .code yX6_used cX6_used 5 (some .int) :: ([.fieldLink RX6 104 "RollbackPair$Peer" "history" "LRollbackPair$History;", .fieldLink RX6 66 "RollbackPair$Peer" "at" "I", .methodLink RX6 30 yX6_find, .instanceMethod yX6_find, .selects RX6 yX6_find yX6_find, .initialized RX6, .code yX6_find cX6_find 2 (some (.object "RollbackPair$Peer")), .fieldLink RX6 9 "RollbackPair" "peers" "[LRollbackPair$Peer;", .methodLink RX6 96 yX6_isPlayer, .static yX6_isPlayer, .code yX6_isPlayer cX6_isPlayer 1 (some .boolean), .methodLink RX6 108 yX0_inputPlayed, .instanceMethod yX0_inputPlayed, .selects RX0 yX0_inputPlayed yX0_inputPlayed, .initialized RX0, .code yX0_inputPlayed cX0_inputPlayed 4 (some .int), .fieldLink RX0 19 "RollbackPair$History" "inputs" "[[B"] ++ wsX30 ++ wsX60 ++ wsX00)
def wsX6_sum_r1 : List Cond := [Cond.fieldLink RX6 104 "RollbackPair$Peer" "history" "LRollbackPair$History;", Cond.fieldLink RX6 66 "RollbackPair$Peer" "at" "I", Cond.methodLink RX6 30 yX6_find, Cond.instanceMethod yX6_find, Cond.selects RX6 yX6_find yX6_find, Cond.initialized RX6, Cond.code yX6_find cX6_find 2 (some (.object "RollbackPair$Peer")), Cond.fieldLink RX6 9 "RollbackPair" "peers" "[LRollbackPair$Peer;", Cond.methodLink RX6 96 yX6_isPlayer, Cond.static yX6_isPlayer, Cond.code yX6_isPlayer cX6_isPlayer 1 (some .boolean), Cond.methodLink RX6 114 yX0_sumBefore, Cond.instanceMethod yX0_sumBefore, Cond.selects RX0 yX0_sumBefore yX0_sumBefore, Cond.initialized RX0, Cond.code yX0_sumBefore cX0_sumBefore 3 (some .int), Cond.methodLink RX0 23 yX0_before, Cond.instanceMethod yX0_before, Cond.selects RX0 yX0_before yX0_before, Cond.code yX0_before cX0_before 2 (some (.object "RollbackPair$State")), Cond.fieldLink RX0 13 "RollbackPair$History" "states" "[LRollbackPair$State;", Cond.methodLink RX0 31 yX5_total, Cond.instanceMethod yX5_total, Cond.selects RX5 yX5_total yX5_total]
def wsX6_sum_r2 : List Cond := [Cond.initialized RX5, Cond.code yX5_total cX5_total 3 (some .int), Cond.fieldLink RX5 7 "RollbackPair$State" "places" "[F", Cond.constantFloat RX5 38 (1166016512), Cond.fieldLink RX5 13 "RollbackPair$State" "speeds" "[F", Cond.fieldLink RX5 22 "RollbackPair$State" "hitCount" "I", Cond.fieldLink RX5 29 "RollbackPair$State" "workDone" "D", Cond.constantDouble RX5 39 (4634204016564240384)]
def wsX6_sum : List Cond := .code yX6_sum cX6_sum 4 (some .int) :: ((wsX6_sum_r1 ++ wsX6_sum_r2) ++ wsX30 ++ wsX60 ++ wsX00 ++ wsX50)
def wsX6_place : List Cond := .code yX6_place cX6_place 4 (some .float) :: ([.constantFloat RX6 117 (3267887104), .fieldLink RX6 122 "RollbackPair$State" "places" "[F", .methodLink RX6 30 yX6_find, .instanceMethod yX6_find, .selects RX6 yX6_find yX6_find, .initialized RX6, .code yX6_find cX6_find 2 (some (.object "RollbackPair$Peer")), .fieldLink RX6 9 "RollbackPair" "peers" "[LRollbackPair$Peer;", .methodLink RX6 96 yX6_isPlayer, .static yX6_isPlayer, .code yX6_isPlayer cX6_isPlayer 1 (some .boolean), .methodLink RX6 118 yX3_state, .instanceMethod yX3_state, .selects RX3 yX3_state yX3_state, .initialized RX3, .code yX3_state cX3_state 1 (some (.object "RollbackPair$State")), .fieldLink RX3 12 "RollbackPair$Peer" "history" "LRollbackPair$History;", .fieldLink RX3 51 "RollbackPair$Peer" "at" "I", .methodLink RX3 54 yX0_before, .instanceMethod yX0_before, .selects RX0 yX0_before yX0_before, .initialized RX0, .code yX0_before cX0_before 2 (some (.object "RollbackPair$State")), .fieldLink RX0 13 "RollbackPair$History" "states" "[LRollbackPair$State;"] ++ wsX50 ++ wsX60 ++ wsX30 ++ wsX00)
def wsX6_speed : List Cond := .code yX6_speed cX6_speed 4 (some .float) :: ([.fieldLink RX6 128 "RollbackPair$State" "speeds" "[F", .methodLink RX6 30 yX6_find, .instanceMethod yX6_find, .selects RX6 yX6_find yX6_find, .initialized RX6, .code yX6_find cX6_find 2 (some (.object "RollbackPair$Peer")), .fieldLink RX6 9 "RollbackPair" "peers" "[LRollbackPair$Peer;", .methodLink RX6 96 yX6_isPlayer, .static yX6_isPlayer, .code yX6_isPlayer cX6_isPlayer 1 (some .boolean), .methodLink RX6 118 yX3_state, .instanceMethod yX3_state, .selects RX3 yX3_state yX3_state, .initialized RX3, .code yX3_state cX3_state 1 (some (.object "RollbackPair$State")), .fieldLink RX3 12 "RollbackPair$Peer" "history" "LRollbackPair$History;", .fieldLink RX3 51 "RollbackPair$Peer" "at" "I", .methodLink RX3 54 yX0_before, .instanceMethod yX0_before, .selects RX0 yX0_before yX0_before, .initialized RX0, .code yX0_before cX0_before 2 (some (.object "RollbackPair$State")), .fieldLink RX0 13 "RollbackPair$History" "states" "[LRollbackPair$State;"] ++ wsX50 ++ wsX60 ++ wsX30 ++ wsX00)
def wsX6_hits : List Cond := .code yX6_hits cX6_hits 3 (some .int) :: ([.fieldLink RX6 131 "RollbackPair$State" "hitCount" "I", .methodLink RX6 30 yX6_find, .instanceMethod yX6_find, .selects RX6 yX6_find yX6_find, .initialized RX6, .code yX6_find cX6_find 2 (some (.object "RollbackPair$Peer")), .fieldLink RX6 9 "RollbackPair" "peers" "[LRollbackPair$Peer;", .methodLink RX6 96 yX6_isPlayer, .static yX6_isPlayer, .code yX6_isPlayer cX6_isPlayer 1 (some .boolean), .methodLink RX6 118 yX3_state, .instanceMethod yX3_state, .selects RX3 yX3_state yX3_state, .initialized RX3, .code yX3_state cX3_state 1 (some (.object "RollbackPair$State")), .fieldLink RX3 12 "RollbackPair$Peer" "history" "LRollbackPair$History;", .fieldLink RX3 51 "RollbackPair$Peer" "at" "I", .methodLink RX3 54 yX0_before, .instanceMethod yX0_before, .selects RX0 yX0_before yX0_before, .initialized RX0, .code yX0_before cX0_before 2 (some (.object "RollbackPair$State")), .fieldLink RX0 13 "RollbackPair$History" "states" "[LRollbackPair$State;"] ++ wsX50 ++ wsX60 ++ wsX30 ++ wsX00)
def wsX6_work : List Cond := .code yX6_work cX6_work 3 (some .double) :: ([.constantDouble RX6 134 (13830554455654793216), .fieldLink RX6 136 "RollbackPair$State" "workDone" "D", .methodLink RX6 30 yX6_find, .instanceMethod yX6_find, .selects RX6 yX6_find yX6_find, .initialized RX6, .code yX6_find cX6_find 2 (some (.object "RollbackPair$Peer")), .fieldLink RX6 9 "RollbackPair" "peers" "[LRollbackPair$Peer;", .methodLink RX6 96 yX6_isPlayer, .static yX6_isPlayer, .code yX6_isPlayer cX6_isPlayer 1 (some .boolean), .methodLink RX6 118 yX3_state, .instanceMethod yX3_state, .selects RX3 yX3_state yX3_state, .initialized RX3, .code yX3_state cX3_state 1 (some (.object "RollbackPair$State")), .fieldLink RX3 12 "RollbackPair$Peer" "history" "LRollbackPair$History;", .fieldLink RX3 51 "RollbackPair$Peer" "at" "I", .methodLink RX3 54 yX0_before, .instanceMethod yX0_before, .selects RX0 yX0_before yX0_before, .initialized RX0, .code yX0_before cX0_before 2 (some (.object "RollbackPair$State")), .fieldLink RX0 13 "RollbackPair$History" "states" "[LRollbackPair$State;"] ++ wsX50 ++ wsX60 ++ wsX30 ++ wsX00)
def wsX6_advice : List Cond := .code yX6_advice cX6_advice 3 (some .float) :: ([.fieldLink RX6 140 "RollbackPair$Peer" "lead" "F", .methodLink RX6 30 yX6_find, .instanceMethod yX6_find, .selects RX6 yX6_find yX6_find, .initialized RX6, .code yX6_find cX6_find 2 (some (.object "RollbackPair$Peer")), .fieldLink RX6 9 "RollbackPair" "peers" "[LRollbackPair$Peer;", .methodLink RX6 96 yX6_isPlayer, .static yX6_isPlayer, .code yX6_isPlayer cX6_isPlayer 1 (some .boolean)] ++ wsX30 ++ wsX60)
def wsX7_init_r1 : List Cond := [Cond.methodLink RX7 1 objectInit, Cond.instanceMethod objectInit, Cond.code objectInit ⟨#[0xb1]⟩ 1 none, Cond.arrayClass .int, Cond.fieldLink RX7 7 "RollbackPairModel" "at" "[I", Cond.fieldLink RX7 13 "RollbackPairModel" "stalls" "[I", Cond.fieldLink RX7 16 "RollbackPairModel" "cut" "[I", Cond.fieldLink RX7 19 "RollbackPairModel" "told" "[I", Cond.arrayClass .boolean, Cond.fieldLink RX7 22 "RollbackPairModel" "took" "[Z", Cond.arrayClass .short, Cond.fieldLink RX7 26 "RollbackPairModel" "latest" "[S", Cond.fieldLink RX7 30 "RollbackPairModel" "number" "[S", Cond.arrayClass .float, Cond.fieldLink RX7 33 "RollbackPairModel" "advice" "[F", Cond.fieldLink RX7 37 "RollbackPairModel" "input" "[I", Cond.fieldLink RX7 40 "RollbackPairModel" "uses" "[I", Cond.fieldLink RX7 43 "RollbackPairModel" "known" "[I", Cond.fieldLink RX7 46 "RollbackPairModel" "place0" "[F", Cond.fieldLink RX7 49 "RollbackPairModel" "speed0" "[F", Cond.fieldLink RX7 52 "RollbackPairModel" "place1" "[F", Cond.fieldLink RX7 55 "RollbackPairModel" "speed1" "[F", Cond.fieldLink RX7 58 "RollbackPairModel" "hits" "[I", Cond.arrayClass .double]
def wsX7_init_r2 : List Cond := [Cond.fieldLink RX7 61 "RollbackPairModel" "work" "[D", Cond.fieldLink RX7 65 "RollbackPairModel" "rows" "[I", Cond.fieldLink RX7 68 "RollbackPairModel" "pNumber" "[S", Cond.fieldLink RX7 71 "RollbackPairModel" "pFrame" "[I", Cond.fieldLink RX7 74 "RollbackPairModel" "pAck" "[I", Cond.fieldLink RX7 77 "RollbackPairModel" "pFirst" "[I", Cond.fieldLink RX7 80 "RollbackPairModel" "pCount" "[I", Cond.arrayClass .long, Cond.fieldLink RX7 83 "RollbackPairModel" "pBits" "[J", Cond.fieldLink RX7 87 "RollbackPairModel" "pCheck" "[I", Cond.fieldLink RX7 90 "RollbackPairModel" "delay" "I", Cond.fieldLink RX7 94 "RollbackPairModel" "window" "I", Cond.constantFloat RX7 97 (1090519040), Cond.constantFloat RX7 98 (1103101952)]
def wsX7_init : List Cond := .code yX7_init cX7_init 5 none :: ((wsX7_init_r1 ++ wsX7_init_r2) ++ wsX70)
def wsX7_isTwo : List Cond := .code yX7_isTwo cX7_isTwo 1 (some .boolean) :: ([])
def wsX7_move : List Cond := .code yX7_move cX7_move 9 none :: ([.constantFloat RX7 99 (3212836864), .constantFloat RX7 100 (1063256064), .constantFloat RX7 101 (1050253722), .constantFloat RX7 102 (1056964608), .constantFloat RX7 103 (1107296256), .constantFloat RX7 104 (1115684864), .fieldLink RX7 105 "RollbackPairModel" "newPlace" "F", .fieldLink RX7 109 "RollbackPairModel" "newSpeed" "F"] ++ wsX70)
def wsX7_useOf : List Cond := .code yX7_useOf cX7_useOf 6 (some .int) :: ([.fieldLink RX7 43 "RollbackPairModel" "known" "[I", .fieldLink RX7 37 "RollbackPairModel" "input" "[I", .fieldLink RX7 16 "RollbackPairModel" "cut" "[I"] ++ wsX70)
def wsX7_play_r1 : List Cond := [Cond.fieldLink RX7 40 "RollbackPairModel" "uses" "[I", Cond.fieldLink RX7 46 "RollbackPairModel" "place0" "[F", Cond.fieldLink RX7 49 "RollbackPairModel" "speed0" "[F", Cond.fieldLink RX7 105 "RollbackPairModel" "newPlace" "F", Cond.fieldLink RX7 109 "RollbackPairModel" "newSpeed" "F", Cond.fieldLink RX7 52 "RollbackPairModel" "place1" "[F", Cond.fieldLink RX7 55 "RollbackPairModel" "speed1" "[F", Cond.constantFloat RX7 102 (1056964608), Cond.fieldLink RX7 58 "RollbackPairModel" "hits" "[I", Cond.fieldLink RX7 61 "RollbackPairModel" "work" "[D", Cond.methodLink RX7 112 yX7_useOf, Cond.instanceMethod yX7_useOf, Cond.selects RX7 yX7_useOf yX7_useOf, Cond.initialized RX7, Cond.code yX7_useOf cX7_useOf 6 (some .int), Cond.fieldLink RX7 43 "RollbackPairModel" "known" "[I", Cond.fieldLink RX7 37 "RollbackPairModel" "input" "[I", Cond.fieldLink RX7 16 "RollbackPairModel" "cut" "[I", Cond.methodLink RX7 116 yX7_move, Cond.instanceMethod yX7_move, Cond.selects RX7 yX7_move yX7_move, Cond.code yX7_move cX7_move 9 none, Cond.constantFloat RX7 99 (3212836864), Cond.constantFloat RX7 100 (1063256064)]
def wsX7_play_r2 : List Cond := [Cond.constantFloat RX7 101 (1050253722), Cond.constantFloat RX7 103 (1107296256), Cond.constantFloat RX7 104 (1115684864)]
def wsX7_play : List Cond := .code yX7_play cX7_play 15 none :: ((wsX7_play_r1 ++ wsX7_play_r2) ++ wsX70)
def wsX7_again_r1 : List Cond := [Cond.fieldLink RX7 7 "RollbackPairModel" "at" "[I", Cond.fieldLink RX7 40 "RollbackPairModel" "uses" "[I", Cond.methodLink RX7 112 yX7_useOf, Cond.instanceMethod yX7_useOf, Cond.selects RX7 yX7_useOf yX7_useOf, Cond.initialized RX7, Cond.code yX7_useOf cX7_useOf 6 (some .int), Cond.fieldLink RX7 43 "RollbackPairModel" "known" "[I", Cond.fieldLink RX7 37 "RollbackPairModel" "input" "[I", Cond.fieldLink RX7 16 "RollbackPairModel" "cut" "[I", Cond.methodLink RX7 120 yX7_play, Cond.instanceMethod yX7_play, Cond.selects RX7 yX7_play yX7_play, Cond.code yX7_play cX7_play 15 none, Cond.fieldLink RX7 46 "RollbackPairModel" "place0" "[F", Cond.fieldLink RX7 49 "RollbackPairModel" "speed0" "[F", Cond.fieldLink RX7 105 "RollbackPairModel" "newPlace" "F", Cond.fieldLink RX7 109 "RollbackPairModel" "newSpeed" "F", Cond.fieldLink RX7 52 "RollbackPairModel" "place1" "[F", Cond.fieldLink RX7 55 "RollbackPairModel" "speed1" "[F", Cond.constantFloat RX7 102 (1056964608), Cond.fieldLink RX7 58 "RollbackPairModel" "hits" "[I", Cond.fieldLink RX7 61 "RollbackPairModel" "work" "[D", Cond.methodLink RX7 116 yX7_move]
def wsX7_again_r2 : List Cond := [Cond.instanceMethod yX7_move, Cond.selects RX7 yX7_move yX7_move, Cond.code yX7_move cX7_move 9 none, Cond.constantFloat RX7 99 (3212836864), Cond.constantFloat RX7 100 (1063256064), Cond.constantFloat RX7 101 (1050253722), Cond.constantFloat RX7 103 (1107296256), Cond.constantFloat RX7 104 (1115684864)]
def wsX7_again : List Cond := .code yX7_again cX7_again 7 (some .int) :: ((wsX7_again_r1 ++ wsX7_again_r2) ++ wsX70)
def wsX7_check : List Cond := .code yX7_check cX7_check 3 (some .int) :: ([.fieldLink RX7 68 "RollbackPairModel" "pNumber" "[S", .fieldLink RX7 71 "RollbackPairModel" "pFrame" "[I", .fieldLink RX7 74 "RollbackPairModel" "pAck" "[I", .fieldLink RX7 77 "RollbackPairModel" "pFirst" "[I", .fieldLink RX7 80 "RollbackPairModel" "pCount" "[I", .fieldLink RX7 83 "RollbackPairModel" "pBits" "[J"] ++ wsX70)
def wsX7_send : List Cond := .code yX7_send cX7_send 6 none :: ([.fieldLink RX7 65 "RollbackPairModel" "rows" "[I", .fieldLink RX7 43 "RollbackPairModel" "known" "[I", .fieldLink RX7 68 "RollbackPairModel" "pNumber" "[S", .fieldLink RX7 30 "RollbackPairModel" "number" "[S", .fieldLink RX7 71 "RollbackPairModel" "pFrame" "[I", .fieldLink RX7 7 "RollbackPairModel" "at" "[I", .fieldLink RX7 74 "RollbackPairModel" "pAck" "[I", .fieldLink RX7 77 "RollbackPairModel" "pFirst" "[I", .fieldLink RX7 19 "RollbackPairModel" "told" "[I", .fieldLink RX7 80 "RollbackPairModel" "pCount" "[I", .fieldLink RX7 83 "RollbackPairModel" "pBits" "[J", .fieldLink RX7 37 "RollbackPairModel" "input" "[I", .fieldLink RX7 87 "RollbackPairModel" "pCheck" "[I", .methodLink RX7 124 yX7_check, .instanceMethod yX7_check, .selects RX7 yX7_check yX7_check, .initialized RX7, .code yX7_check cX7_check 3 (some .int)] ++ wsX70)
def wsX7_copy : List Cond := .code yX7_copy cX7_copy 3 none :: ([.fieldLink RX7 68 "RollbackPairModel" "pNumber" "[S", .fieldLink RX7 71 "RollbackPairModel" "pFrame" "[I", .fieldLink RX7 74 "RollbackPairModel" "pAck" "[I", .fieldLink RX7 77 "RollbackPairModel" "pFirst" "[I", .fieldLink RX7 80 "RollbackPairModel" "pCount" "[I", .fieldLink RX7 83 "RollbackPairModel" "pBits" "[J", .fieldLink RX7 87 "RollbackPairModel" "pCheck" "[I"] ++ wsX70)
def wsX7_take : List Cond := .code yX7_take cX7_take 3 none :: ([.fieldLink RX7 65 "RollbackPairModel" "rows" "[I", .methodLink RX7 128 yX7_copy, .instanceMethod yX7_copy, .selects RX7 yX7_copy yX7_copy, .initialized RX7, .code yX7_copy cX7_copy 3 none, .fieldLink RX7 68 "RollbackPairModel" "pNumber" "[S", .fieldLink RX7 71 "RollbackPairModel" "pFrame" "[I", .fieldLink RX7 74 "RollbackPairModel" "pAck" "[I", .fieldLink RX7 77 "RollbackPairModel" "pFirst" "[I", .fieldLink RX7 80 "RollbackPairModel" "pCount" "[I", .fieldLink RX7 83 "RollbackPairModel" "pBits" "[J", .fieldLink RX7 87 "RollbackPairModel" "pCheck" "[I"] ++ wsX70)
def wsX7_advance_r1 : List Cond := [Cond.fieldLink RX7 16 "RollbackPairModel" "cut" "[I", Cond.fieldLink RX7 7 "RollbackPairModel" "at" "[I", Cond.fieldLink RX7 43 "RollbackPairModel" "known" "[I", Cond.fieldLink RX7 94 "RollbackPairModel" "window" "I", Cond.fieldLink RX7 13 "RollbackPairModel" "stalls" "[I", Cond.fieldLink RX7 37 "RollbackPairModel" "input" "[I", Cond.fieldLink RX7 90 "RollbackPairModel" "delay" "I", Cond.methodLink RX7 131 yX7_isTwo, Cond.static yX7_isTwo, Cond.initialized RX7, Cond.code yX7_isTwo cX7_isTwo 1 (some .boolean), Cond.methodLink RX7 135 yX7_again, Cond.instanceMethod yX7_again, Cond.selects RX7 yX7_again yX7_again, Cond.code yX7_again cX7_again 7 (some .int), Cond.fieldLink RX7 40 "RollbackPairModel" "uses" "[I", Cond.methodLink RX7 112 yX7_useOf, Cond.instanceMethod yX7_useOf, Cond.selects RX7 yX7_useOf yX7_useOf, Cond.code yX7_useOf cX7_useOf 6 (some .int), Cond.methodLink RX7 120 yX7_play, Cond.instanceMethod yX7_play, Cond.selects RX7 yX7_play yX7_play, Cond.code yX7_play cX7_play 15 none]
def wsX7_advance_r2 : List Cond := [Cond.fieldLink RX7 46 "RollbackPairModel" "place0" "[F", Cond.fieldLink RX7 49 "RollbackPairModel" "speed0" "[F", Cond.fieldLink RX7 105 "RollbackPairModel" "newPlace" "F", Cond.fieldLink RX7 109 "RollbackPairModel" "newSpeed" "F", Cond.fieldLink RX7 52 "RollbackPairModel" "place1" "[F", Cond.fieldLink RX7 55 "RollbackPairModel" "speed1" "[F", Cond.constantFloat RX7 102 (1056964608), Cond.fieldLink RX7 58 "RollbackPairModel" "hits" "[I", Cond.fieldLink RX7 61 "RollbackPairModel" "work" "[D", Cond.methodLink RX7 116 yX7_move, Cond.instanceMethod yX7_move, Cond.selects RX7 yX7_move yX7_move, Cond.code yX7_move cX7_move 9 none, Cond.constantFloat RX7 99 (3212836864), Cond.constantFloat RX7 100 (1063256064), Cond.constantFloat RX7 101 (1050253722), Cond.constantFloat RX7 103 (1107296256), Cond.constantFloat RX7 104 (1115684864), Cond.methodLink RX7 139 yX7_send, Cond.instanceMethod yX7_send, Cond.selects RX7 yX7_send yX7_send, Cond.code yX7_send cX7_send 6 none, Cond.fieldLink RX7 65 "RollbackPairModel" "rows" "[I", Cond.fieldLink RX7 68 "RollbackPairModel" "pNumber" "[S"]
def wsX7_advance_r3 : List Cond := [Cond.fieldLink RX7 30 "RollbackPairModel" "number" "[S", Cond.fieldLink RX7 71 "RollbackPairModel" "pFrame" "[I", Cond.fieldLink RX7 74 "RollbackPairModel" "pAck" "[I", Cond.fieldLink RX7 77 "RollbackPairModel" "pFirst" "[I", Cond.fieldLink RX7 19 "RollbackPairModel" "told" "[I", Cond.fieldLink RX7 80 "RollbackPairModel" "pCount" "[I", Cond.fieldLink RX7 83 "RollbackPairModel" "pBits" "[J", Cond.fieldLink RX7 87 "RollbackPairModel" "pCheck" "[I", Cond.methodLink RX7 124 yX7_check, Cond.instanceMethod yX7_check, Cond.selects RX7 yX7_check yX7_check, Cond.code yX7_check cX7_check 3 (some .int)]
def wsX7_advance : List Cond := .code yX7_advance cX7_advance 5 (some .int) :: ((wsX7_advance_r1 ++ (wsX7_advance_r2 ++ wsX7_advance_r3)) ++ wsX70)
def wsX7_replay_r1 : List Cond := [Cond.fieldLink RX7 43 "RollbackPairModel" "known" "[I", Cond.fieldLink RX7 7 "RollbackPairModel" "at" "[I", Cond.fieldLink RX7 40 "RollbackPairModel" "uses" "[I", Cond.fieldLink RX7 37 "RollbackPairModel" "input" "[I", Cond.methodLink RX7 135 yX7_again, Cond.instanceMethod yX7_again, Cond.selects RX7 yX7_again yX7_again, Cond.initialized RX7, Cond.code yX7_again cX7_again 7 (some .int), Cond.methodLink RX7 112 yX7_useOf, Cond.instanceMethod yX7_useOf, Cond.selects RX7 yX7_useOf yX7_useOf, Cond.code yX7_useOf cX7_useOf 6 (some .int), Cond.fieldLink RX7 16 "RollbackPairModel" "cut" "[I", Cond.methodLink RX7 120 yX7_play, Cond.instanceMethod yX7_play, Cond.selects RX7 yX7_play yX7_play, Cond.code yX7_play cX7_play 15 none, Cond.fieldLink RX7 46 "RollbackPairModel" "place0" "[F", Cond.fieldLink RX7 49 "RollbackPairModel" "speed0" "[F", Cond.fieldLink RX7 105 "RollbackPairModel" "newPlace" "F", Cond.fieldLink RX7 109 "RollbackPairModel" "newSpeed" "F", Cond.fieldLink RX7 52 "RollbackPairModel" "place1" "[F", Cond.fieldLink RX7 55 "RollbackPairModel" "speed1" "[F"]
def wsX7_replay_r2 : List Cond := [Cond.constantFloat RX7 102 (1056964608), Cond.fieldLink RX7 58 "RollbackPairModel" "hits" "[I", Cond.fieldLink RX7 61 "RollbackPairModel" "work" "[D", Cond.methodLink RX7 116 yX7_move, Cond.instanceMethod yX7_move, Cond.selects RX7 yX7_move yX7_move, Cond.code yX7_move cX7_move 9 none, Cond.constantFloat RX7 99 (3212836864), Cond.constantFloat RX7 100 (1063256064), Cond.constantFloat RX7 101 (1050253722), Cond.constantFloat RX7 103 (1107296256), Cond.constantFloat RX7 104 (1115684864)]
def wsX7_replay : List Cond := .code yX7_replay cX7_replay 5 (some .int) :: ((wsX7_replay_r1 ++ wsX7_replay_r2) ++ wsX70)
def wsX7_deliver_r1 : List Cond := [Cond.fieldLink RX7 65 "RollbackPairModel" "rows" "[I", Cond.fieldLink RX7 68 "RollbackPairModel" "pNumber" "[S", Cond.fieldLink RX7 26 "RollbackPairModel" "latest" "[S", Cond.fieldLink RX7 87 "RollbackPairModel" "pCheck" "[I", Cond.fieldLink RX7 16 "RollbackPairModel" "cut" "[I", Cond.fieldLink RX7 22 "RollbackPairModel" "took" "[Z", Cond.fieldLink RX7 13 "RollbackPairModel" "stalls" "[I", Cond.fieldLink RX7 33 "RollbackPairModel" "advice" "[F", Cond.constantFloat RX7 146 (1061158912), Cond.constantFloat RX7 147 (1048576000), Cond.fieldLink RX7 7 "RollbackPairModel" "at" "[I", Cond.fieldLink RX7 71 "RollbackPairModel" "pFrame" "[I", Cond.fieldLink RX7 74 "RollbackPairModel" "pAck" "[I", Cond.fieldLink RX7 19 "RollbackPairModel" "told" "[I", Cond.fieldLink RX7 43 "RollbackPairModel" "known" "[I", Cond.fieldLink RX7 80 "RollbackPairModel" "pCount" "[I", Cond.fieldLink RX7 77 "RollbackPairModel" "pFirst" "[I", Cond.fieldLink RX7 37 "RollbackPairModel" "input" "[I", Cond.fieldLink RX7 83 "RollbackPairModel" "pBits" "[J", Cond.constantLong RX7 148 (7), Cond.methodLink RX7 131 yX7_isTwo, Cond.static yX7_isTwo, Cond.initialized RX7, Cond.code yX7_isTwo cX7_isTwo 1 (some .boolean)]
def wsX7_deliver_r2 : List Cond := [Cond.methodLink RX7 143 yX7_take, Cond.instanceMethod yX7_take, Cond.selects RX7 yX7_take yX7_take, Cond.code yX7_take cX7_take 3 none, Cond.methodLink RX7 128 yX7_copy, Cond.instanceMethod yX7_copy, Cond.selects RX7 yX7_copy yX7_copy, Cond.code yX7_copy cX7_copy 3 none, Cond.methodLink RX7 124 yX7_check, Cond.instanceMethod yX7_check, Cond.selects RX7 yX7_check yX7_check, Cond.code yX7_check cX7_check 3 (some .int), Cond.methodLink RX7 150 yX7_replay, Cond.instanceMethod yX7_replay, Cond.selects RX7 yX7_replay yX7_replay, Cond.code yX7_replay cX7_replay 5 (some .int), Cond.fieldLink RX7 40 "RollbackPairModel" "uses" "[I", Cond.methodLink RX7 135 yX7_again, Cond.instanceMethod yX7_again, Cond.selects RX7 yX7_again yX7_again, Cond.code yX7_again cX7_again 7 (some .int), Cond.methodLink RX7 112 yX7_useOf, Cond.instanceMethod yX7_useOf, Cond.selects RX7 yX7_useOf yX7_useOf]
def wsX7_deliver_r3 : List Cond := [Cond.code yX7_useOf cX7_useOf 6 (some .int), Cond.methodLink RX7 120 yX7_play, Cond.instanceMethod yX7_play, Cond.selects RX7 yX7_play yX7_play, Cond.code yX7_play cX7_play 15 none, Cond.fieldLink RX7 46 "RollbackPairModel" "place0" "[F", Cond.fieldLink RX7 49 "RollbackPairModel" "speed0" "[F", Cond.fieldLink RX7 105 "RollbackPairModel" "newPlace" "F", Cond.fieldLink RX7 109 "RollbackPairModel" "newSpeed" "F", Cond.fieldLink RX7 52 "RollbackPairModel" "place1" "[F", Cond.fieldLink RX7 55 "RollbackPairModel" "speed1" "[F", Cond.constantFloat RX7 102 (1056964608), Cond.fieldLink RX7 58 "RollbackPairModel" "hits" "[I", Cond.fieldLink RX7 61 "RollbackPairModel" "work" "[D", Cond.methodLink RX7 116 yX7_move, Cond.instanceMethod yX7_move, Cond.selects RX7 yX7_move yX7_move, Cond.code yX7_move cX7_move 9 none, Cond.constantFloat RX7 99 (3212836864), Cond.constantFloat RX7 100 (1063256064), Cond.constantFloat RX7 101 (1050253722), Cond.constantFloat RX7 103 (1107296256), Cond.constantFloat RX7 104 (1115684864)]
def wsX7_deliver : List Cond := .code yX7_deliver cX7_deliver 8 (some .int) :: ((wsX7_deliver_r1 ++ (wsX7_deliver_r2 ++ wsX7_deliver_r3)) ++ wsX70)
def wsX7_alter : List Cond := .code yX7_alter cX7_alter 3 (some .boolean) :: ([.fieldLink RX7 65 "RollbackPairModel" "rows" "[I", .methodLink RX7 131 yX7_isTwo, .static yX7_isTwo, .initialized RX7, .code yX7_isTwo cX7_isTwo 1 (some .boolean), .methodLink RX7 128 yX7_copy, .instanceMethod yX7_copy, .selects RX7 yX7_copy yX7_copy, .code yX7_copy cX7_copy 3 none, .fieldLink RX7 68 "RollbackPairModel" "pNumber" "[S", .fieldLink RX7 71 "RollbackPairModel" "pFrame" "[I", .fieldLink RX7 74 "RollbackPairModel" "pAck" "[I", .fieldLink RX7 77 "RollbackPairModel" "pFirst" "[I", .fieldLink RX7 80 "RollbackPairModel" "pCount" "[I", .fieldLink RX7 83 "RollbackPairModel" "pBits" "[J", .fieldLink RX7 87 "RollbackPairModel" "pCheck" "[I", .methodLink RX7 143 yX7_take, .instanceMethod yX7_take, .selects RX7 yX7_take yX7_take, .code yX7_take cX7_take 3 none] ++ wsX70)
def wsX7_spoil : List Cond := .code yX7_spoil cX7_spoil 5 (some .boolean) :: ([.fieldLink RX7 65 "RollbackPairModel" "rows" "[I", .fieldLink RX7 68 "RollbackPairModel" "pNumber" "[S", .fieldLink RX7 71 "RollbackPairModel" "pFrame" "[I", .fieldLink RX7 74 "RollbackPairModel" "pAck" "[I", .fieldLink RX7 77 "RollbackPairModel" "pFirst" "[I", .fieldLink RX7 80 "RollbackPairModel" "pCount" "[I", .fieldLink RX7 83 "RollbackPairModel" "pBits" "[J", .constantLong RX7 153 (4294967295), .fieldLink RX7 87 "RollbackPairModel" "pCheck" "[I", .methodLink RX7 131 yX7_isTwo, .static yX7_isTwo, .initialized RX7, .code yX7_isTwo cX7_isTwo 1 (some .boolean)] ++ wsX70)
def wsX7_about : List Cond := .code yX7_about cX7_about 4 (some .int) :: ([.fieldLink RX7 43 "RollbackPairModel" "known" "[I", .fieldLink RX7 16 "RollbackPairModel" "cut" "[I", .fieldLink RX7 7 "RollbackPairModel" "at" "[I", .fieldLink RX7 13 "RollbackPairModel" "stalls" "[I", .fieldLink RX7 65 "RollbackPairModel" "rows" "[I", .fieldLink RX7 19 "RollbackPairModel" "told" "[I", .methodLink RX7 131 yX7_isTwo, .static yX7_isTwo, .initialized RX7, .code yX7_isTwo cX7_isTwo 1 (some .boolean)] ++ wsX70)
def wsX7_known : List Cond := .code yX7_known cX7_known 3 (some .int) :: ([.fieldLink RX7 43 "RollbackPairModel" "known" "[I", .methodLink RX7 131 yX7_isTwo, .static yX7_isTwo, .initialized RX7, .code yX7_isTwo cX7_isTwo 1 (some .boolean)] ++ wsX70)
def wsX7_used : List Cond := .code yX7_used cX7_used 4 (some .int) :: ([.fieldLink RX7 7 "RollbackPairModel" "at" "[I", .fieldLink RX7 40 "RollbackPairModel" "uses" "[I", .methodLink RX7 131 yX7_isTwo, .static yX7_isTwo, .initialized RX7, .code yX7_isTwo cX7_isTwo 1 (some .boolean)] ++ wsX70)
def wsX7_sum : List Cond := .code yX7_sum cX7_sum 5 (some .int) :: ([.fieldLink RX7 7 "RollbackPairModel" "at" "[I", .fieldLink RX7 46 "RollbackPairModel" "place0" "[F", .constantFloat RX7 155 (1166016512), .fieldLink RX7 49 "RollbackPairModel" "speed0" "[F", .fieldLink RX7 52 "RollbackPairModel" "place1" "[F", .fieldLink RX7 55 "RollbackPairModel" "speed1" "[F", .fieldLink RX7 58 "RollbackPairModel" "hits" "[I", .fieldLink RX7 61 "RollbackPairModel" "work" "[D", .constantDouble RX7 156 (4634204016564240384), .methodLink RX7 131 yX7_isTwo, .static yX7_isTwo, .initialized RX7, .code yX7_isTwo cX7_isTwo 1 (some .boolean)] ++ wsX70)
def wsX7_place : List Cond := .code yX7_place cX7_place 4 (some .float) :: ([.constantFloat RX7 158 (3267887104), .fieldLink RX7 7 "RollbackPairModel" "at" "[I", .fieldLink RX7 46 "RollbackPairModel" "place0" "[F", .fieldLink RX7 52 "RollbackPairModel" "place1" "[F", .methodLink RX7 131 yX7_isTwo, .static yX7_isTwo, .initialized RX7, .code yX7_isTwo cX7_isTwo 1 (some .boolean)] ++ wsX70)
def wsX7_speed : List Cond := .code yX7_speed cX7_speed 4 (some .float) :: ([.fieldLink RX7 7 "RollbackPairModel" "at" "[I", .fieldLink RX7 49 "RollbackPairModel" "speed0" "[F", .fieldLink RX7 55 "RollbackPairModel" "speed1" "[F", .methodLink RX7 131 yX7_isTwo, .static yX7_isTwo, .initialized RX7, .code yX7_isTwo cX7_isTwo 1 (some .boolean)] ++ wsX70)
def wsX7_hits : List Cond := .code yX7_hits cX7_hits 2 (some .int) :: ([.fieldLink RX7 58 "RollbackPairModel" "hits" "[I", .fieldLink RX7 7 "RollbackPairModel" "at" "[I", .methodLink RX7 131 yX7_isTwo, .static yX7_isTwo, .initialized RX7, .code yX7_isTwo cX7_isTwo 1 (some .boolean)] ++ wsX70)
def wsX7_work : List Cond := .code yX7_work cX7_work 2 (some .double) :: ([.fieldLink RX7 61 "RollbackPairModel" "work" "[D", .fieldLink RX7 7 "RollbackPairModel" "at" "[I", .constantDouble RX7 159 (13830554455654793216), .methodLink RX7 131 yX7_isTwo, .static yX7_isTwo, .initialized RX7, .code yX7_isTwo cX7_isTwo 1 (some .boolean)] ++ wsX70)
def wsX7_advice : List Cond := .code yX7_advice cX7_advice 2 (some .float) :: ([.fieldLink RX7 33 "RollbackPairModel" "advice" "[F", .methodLink RX7 131 yX7_isTwo, .static yX7_isTwo, .initialized RX7, .code yX7_isTwo cX7_isTwo 1 (some .boolean)] ++ wsX70)
def wsJ9_max_7cf53 : List Cond := .code yJ9_max_7cf53 cJ9_max_7cf53 2 (some .int) :: ([])
def wsJ9_min_7cf53 : List Cond := .code yJ9_min_7cf53 cJ9_min_7cf53 2 (some .int) :: ([])
def wsL_cell : List Cond := .code yL_cell cL_cell 2 (some .int) :: ([])
def wsL_law_r1 : List Cond := [Cond.classLink RL 7 RX6, Cond.instantiable RX6 1, Cond.initialized RX6, Cond.classLink RL 18 RX7, Cond.instantiable RX7 29, Cond.initialized RX7, Cond.methodLink RL 9 yL_cell, Cond.static yL_cell, Cond.initialized RL, Cond.code yL_cell cL_cell 2 (some .int), Cond.methodLink RL 15 yX6_init, Cond.instanceMethod yX6_init, Cond.code yX6_init cX6_init 8 none, Cond.methodLink RX6 1 objectInit, Cond.instanceMethod objectInit, Cond.code objectInit ⟨#[0xb1]⟩ 1 none, Cond.classLink RX6 7 RX3, Cond.fieldLink RX6 9 "RollbackPair" "peers" "[LRollbackPair$Peer;", Cond.methodLink RX6 15 Lib.Math.min.name, Cond.static Lib.Math.min.name, Cond.initialized "java/lang/Math", Cond.code Lib.Math.min.name Lib.Math.min.code 2 (some .int), Cond.methodLink RX6 21 Lib.Math.max.name, Cond.static Lib.Math.max.name]
def wsL_law_r2 : List Cond := [Cond.code Lib.Math.max.name Lib.Math.max.code 2 (some .int), Cond.classLink RX6 24 RX4, Cond.instantiable RX4 2, Cond.initialized RX4, Cond.instantiable RX3 14, Cond.initialized RX3, Cond.methodLink RX6 26 yX4_init, Cond.instanceMethod yX4_init, Cond.code yX4_init cX4_init 2 none, Cond.methodLink RX4 1 objectInit, Cond.classLink RX4 9 RX2, Cond.fieldLink RX4 11 "RollbackPair$Row" "slots" "[LRollbackPair$Packet;", Cond.instantiable RX2 7, Cond.initialized RX2, Cond.instanceMethod yX2_init, Cond.code yX2_init cX2_init 1 none, Cond.methodLink RX2 3 objectInit, Cond.methodLink RX6 27 yX3_init, Cond.instanceMethod yX3_init, Cond.code yX3_init cX3_init 7 none, Cond.methodLink RX3 3 objectInit, Cond.classLink RX3 9 RX0, Cond.instantiable RX0 2, Cond.initialized RX0]
def wsL_law_r3 : List Cond := [Cond.fieldLink RX3 12 "RollbackPair$Peer" "history" "LRollbackPair$History;", Cond.fieldLink RX3 18 "RollbackPair$Peer" "player" "I", Cond.fieldLink RX3 22 "RollbackPair$Peer" "window" "I", Cond.fieldLink RX3 25 "RollbackPair$Peer" "arriving" "LRollbackPair$Row;", Cond.fieldLink RX3 29 "RollbackPair$Peer" "leaving" "LRollbackPair$Row;", Cond.classLink RX3 32 RX1, Cond.instantiable RX1 3, Cond.initialized RX1, Cond.fieldLink RX3 37 "RollbackPair$Peer" "own" "LRollbackPair$Inputs;", Cond.fieldLink RX3 41 "RollbackPair$Peer" "others" "LRollbackPair$Inputs;", Cond.fieldLink RX3 44 "RollbackPair$Peer" "told" "I", Cond.fieldLink RX3 47 "RollbackPair$Peer" "nextNumber" "S", Cond.methodLink RX3 11 yX0_init, Cond.instanceMethod yX0_init, Cond.code yX0_init cX0_init 2 none, Cond.methodLink RX0 3 objectInit, Cond.classLink RX0 11 RX5, Cond.fieldLink RX0 13 "RollbackPair$History" "states" "[LRollbackPair$State;", Cond.classLink RX0 17 "[[B", Cond.arrayClass .byte, Cond.fieldLink RX0 19 "RollbackPair$History" "inputs" "[[B", Cond.instantiable RX5 4, Cond.initialized RX5, Cond.methodLink RX0 22 yX5_init]
def wsL_law_r4 : List Cond := [Cond.instanceMethod yX5_init, Cond.code yX5_init cX5_init 1 none, Cond.methodLink RX5 1 objectInit, Cond.arrayClass .float, Cond.fieldLink RX5 7 "RollbackPair$State" "places" "[F", Cond.fieldLink RX5 13 "RollbackPair$State" "speeds" "[F", Cond.constantFloat RX5 16 (1090519040), Cond.constantFloat RX5 17 (1103101952), Cond.methodLink RX3 34 yX1_init, Cond.instanceMethod yX1_init, Cond.code yX1_init cX1_init 3 none, Cond.methodLink RX1 1 objectInit, Cond.fieldLink RX1 7 "RollbackPair$Inputs" "kept" "[B", Cond.fieldLink RX1 13 "RollbackPair$Inputs" "count" "I", Cond.methodLink RL 20 yX7_init, Cond.instanceMethod yX7_init, Cond.code yX7_init cX7_init 5 none, Cond.methodLink RX7 1 objectInit, Cond.arrayClass .int, Cond.fieldLink RX7 7 "RollbackPairModel" "at" "[I", Cond.fieldLink RX7 13 "RollbackPairModel" "stalls" "[I", Cond.fieldLink RX7 16 "RollbackPairModel" "cut" "[I", Cond.fieldLink RX7 19 "RollbackPairModel" "told" "[I", Cond.arrayClass .boolean]
def wsL_law_r5 : List Cond := [Cond.fieldLink RX7 22 "RollbackPairModel" "took" "[Z", Cond.arrayClass .short, Cond.fieldLink RX7 26 "RollbackPairModel" "latest" "[S", Cond.fieldLink RX7 30 "RollbackPairModel" "number" "[S", Cond.fieldLink RX7 33 "RollbackPairModel" "advice" "[F", Cond.fieldLink RX7 37 "RollbackPairModel" "input" "[I", Cond.fieldLink RX7 40 "RollbackPairModel" "uses" "[I", Cond.fieldLink RX7 43 "RollbackPairModel" "known" "[I", Cond.fieldLink RX7 46 "RollbackPairModel" "place0" "[F", Cond.fieldLink RX7 49 "RollbackPairModel" "speed0" "[F", Cond.fieldLink RX7 52 "RollbackPairModel" "place1" "[F", Cond.fieldLink RX7 55 "RollbackPairModel" "speed1" "[F", Cond.fieldLink RX7 58 "RollbackPairModel" "hits" "[I", Cond.arrayClass .double, Cond.fieldLink RX7 61 "RollbackPairModel" "work" "[D", Cond.fieldLink RX7 65 "RollbackPairModel" "rows" "[I", Cond.fieldLink RX7 68 "RollbackPairModel" "pNumber" "[S", Cond.fieldLink RX7 71 "RollbackPairModel" "pFrame" "[I", Cond.fieldLink RX7 74 "RollbackPairModel" "pAck" "[I", Cond.fieldLink RX7 77 "RollbackPairModel" "pFirst" "[I", Cond.fieldLink RX7 80 "RollbackPairModel" "pCount" "[I", Cond.arrayClass .long, Cond.fieldLink RX7 83 "RollbackPairModel" "pBits" "[J", Cond.fieldLink RX7 87 "RollbackPairModel" "pCheck" "[I"]
def wsL_law_r6 : List Cond := [Cond.fieldLink RX7 90 "RollbackPairModel" "delay" "I", Cond.fieldLink RX7 94 "RollbackPairModel" "window" "I", Cond.constantFloat RX7 97 (1090519040), Cond.constantFloat RX7 98 (1103101952), Cond.methodLink RL 21 yX6_advance, Cond.instanceMethod yX6_advance, Cond.selects RX6 yX6_advance yX6_advance, Cond.code yX6_advance cX6_advance 4 (some .int), Cond.methodLink RX6 30 yX6_find, Cond.instanceMethod yX6_find, Cond.selects RX6 yX6_find yX6_find, Cond.code yX6_find cX6_find 2 (some (.object "RollbackPair$Peer")), Cond.methodLink RX6 96 yX6_isPlayer, Cond.static yX6_isPlayer, Cond.code yX6_isPlayer cX6_isPlayer 1 (some .boolean), Cond.methodLink RX6 34 yX3_goOn, Cond.instanceMethod yX3_goOn, Cond.selects RX3 yX3_goOn yX3_goOn, Cond.code yX3_goOn cX3_goOn 2 (some .int), Cond.fieldLink RX3 61 "RollbackPair$Inputs" "ended" "Z", Cond.fieldLink RX3 51 "RollbackPair$Peer" "at" "I", Cond.fieldLink RX3 58 "RollbackPair$Inputs" "count" "I", Cond.methodLink RX3 71 yX3_stall, Cond.instanceMethod yX3_stall]
def wsL_law_r7 : List Cond := [Cond.selects RX3 yX3_stall yX3_stall, Cond.code yX3_stall cX3_stall 1 none, Cond.fieldLink RX3 84 "RollbackPair$Peer" "stalls" "I", Cond.methodLink RX3 87 yX3_firstWrong, Cond.instanceMethod yX3_firstWrong, Cond.selects RX3 yX3_firstWrong yX3_firstWrong, Cond.code yX3_firstWrong cX3_firstWrong 3 (some .int), Cond.methodLink RX3 102 yX0_inputPlayed, Cond.instanceMethod yX0_inputPlayed, Cond.selects RX0 yX0_inputPlayed yX0_inputPlayed, Cond.code yX0_inputPlayed cX0_inputPlayed 4 (some .int), Cond.methodLink RX3 95 yX1_use, Cond.instanceMethod yX1_use, Cond.selects RX1 yX1_use yX1_use, Cond.code yX1_use cX1_use 2 (some .int), Cond.fieldLink RX1 17 "RollbackPair$Inputs" "ended" "Z", Cond.methodLink RX3 78 yX3_playFrames, Cond.instanceMethod yX3_playFrames, Cond.selects RX3 yX3_playFrames yX3_playFrames, Cond.code yX3_playFrames cX3_playFrames 4 none, Cond.methodLink RX3 91 yX3_inputsOf, Cond.instanceMethod yX3_inputsOf, Cond.selects RX3 yX3_inputsOf yX3_inputsOf, Cond.code yX3_inputsOf cX3_inputsOf 2 (some (.object "RollbackPair$Inputs"))]
def wsL_law_r8 : List Cond := [Cond.methodLink RX3 98 yX0_play, Cond.instanceMethod yX0_play, Cond.selects RX0 yX0_play yX0_play, Cond.code yX0_play cX0_play 4 none, Cond.methodLink RX0 23 yX0_before, Cond.instanceMethod yX0_before, Cond.selects RX0 yX0_before yX0_before, Cond.code yX0_before cX0_before 2 (some (.object "RollbackPair$State")), Cond.methodLink RX0 27 yX5_follow, Cond.instanceMethod yX5_follow, Cond.selects RX5 yX5_follow yX5_follow, Cond.code yX5_follow cX5_follow 8 none, Cond.fieldLink RX5 22 "RollbackPair$State" "hitCount" "I", Cond.fieldLink RX5 29 "RollbackPair$State" "workDone" "D", Cond.methodLink RX5 18 yX5_move, Cond.instanceMethod yX5_move, Cond.selects RX5 yX5_move yX5_move, Cond.code yX5_move cX5_move 7 none, Cond.constantFloat RX5 33 (1063256064), Cond.constantFloat RX5 34 (1050253722), Cond.constantFloat RX5 35 (1056964608), Cond.constantFloat RX5 36 (1107296256), Cond.constantFloat RX5 37 (1115684864), Cond.methodLink RX5 26 yX5_bounceApart]
def wsL_law_r9 : List Cond := [Cond.instanceMethod yX5_bounceApart, Cond.selects RX5 yX5_bounceApart yX5_bounceApart, Cond.code yX5_bounceApart cX5_bounceApart 3 none, Cond.methodLink RX3 74 yX1_learn, Cond.instanceMethod yX1_learn, Cond.selects RX1 yX1_learn yX1_learn, Cond.code yX1_learn cX1_learn 2 none, Cond.methodLink RX3 81 yX3_sendPacket, Cond.instanceMethod yX3_sendPacket, Cond.selects RX3 yX3_sendPacket yX3_sendPacket, Cond.code yX3_sendPacket cX3_sendPacket 3 none, Cond.fieldLink RX3 112 "RollbackPair$Packet" "number" "S", Cond.fieldLink RX3 117 "RollbackPair$Packet" "frame" "I", Cond.fieldLink RX3 120 "RollbackPair$Packet" "ack" "I", Cond.fieldLink RX3 131 "RollbackPair$Packet" "check" "I", Cond.methodLink RX3 106 yX4_addLast, Cond.instanceMethod yX4_addLast, Cond.selects RX4 yX4_addLast yX4_addLast, Cond.code yX4_addLast cX4_addLast 1 (some (.object "RollbackPair$Packet")), Cond.fieldLink RX4 16 "RollbackPair$Row" "size" "I", Cond.methodLink RX3 123 yX2_carry, Cond.instanceMethod yX2_carry, Cond.selects RX2 yX2_carry yX2_carry, Cond.code yX2_carry cX2_carry 4 none]
def wsL_law_r10 : List Cond := [Cond.fieldLink RX2 9 "RollbackPair$Packet" "first" "I", Cond.fieldLink RX2 15 "RollbackPair$Inputs" "count" "I", Cond.methodLink RX2 20 Lib.Math.min.name, Cond.fieldLink RX2 26 "RollbackPair$Packet" "count" "I", Cond.fieldLink RX2 27 "RollbackPair$Packet" "bits" "J", Cond.methodLink RX2 31 yX1_use, Cond.methodLink RX3 127 yX2_rightCheck, Cond.instanceMethod yX2_rightCheck, Cond.selects RX2 yX2_rightCheck yX2_rightCheck, Cond.code yX2_rightCheck cX2_rightCheck 2 (some .int), Cond.fieldLink RX2 35 "RollbackPair$Packet" "number" "S", Cond.fieldLink RX2 39 "RollbackPair$Packet" "frame" "I", Cond.fieldLink RX2 42 "RollbackPair$Packet" "ack" "I", Cond.methodLink RL 25 yX7_advance, Cond.instanceMethod yX7_advance, Cond.selects RX7 yX7_advance yX7_advance, Cond.code yX7_advance cX7_advance 5 (some .int), Cond.methodLink RX7 131 yX7_isTwo, Cond.static yX7_isTwo, Cond.code yX7_isTwo cX7_isTwo 1 (some .boolean), Cond.methodLink RX7 135 yX7_again, Cond.instanceMethod yX7_again, Cond.selects RX7 yX7_again yX7_again, Cond.code yX7_again cX7_again 7 (some .int)]
def wsL_law_r11 : List Cond := [Cond.methodLink RX7 112 yX7_useOf, Cond.instanceMethod yX7_useOf, Cond.selects RX7 yX7_useOf yX7_useOf, Cond.code yX7_useOf cX7_useOf 6 (some .int), Cond.methodLink RX7 120 yX7_play, Cond.instanceMethod yX7_play, Cond.selects RX7 yX7_play yX7_play, Cond.code yX7_play cX7_play 15 none, Cond.fieldLink RX7 105 "RollbackPairModel" "newPlace" "F", Cond.fieldLink RX7 109 "RollbackPairModel" "newSpeed" "F", Cond.constantFloat RX7 102 (1056964608), Cond.methodLink RX7 116 yX7_move, Cond.instanceMethod yX7_move, Cond.selects RX7 yX7_move yX7_move, Cond.code yX7_move cX7_move 9 none, Cond.constantFloat RX7 99 (3212836864), Cond.constantFloat RX7 100 (1063256064), Cond.constantFloat RX7 101 (1050253722), Cond.constantFloat RX7 103 (1107296256), Cond.constantFloat RX7 104 (1115684864), Cond.methodLink RX7 139 yX7_send, Cond.instanceMethod yX7_send, Cond.selects RX7 yX7_send yX7_send, Cond.code yX7_send cX7_send 6 none]
def wsL_law_r12 : List Cond := [Cond.methodLink RX7 124 yX7_check, Cond.instanceMethod yX7_check, Cond.selects RX7 yX7_check yX7_check, Cond.code yX7_check cX7_check 3 (some .int), Cond.methodLink RL 26 yX6_deliver, Cond.instanceMethod yX6_deliver, Cond.selects RX6 yX6_deliver yX6_deliver, Cond.code yX6_deliver cX6_deliver 4 (some .int), Cond.fieldLink RX6 38 "RollbackPair$Peer" "arriving" "LRollbackPair$Row;", Cond.methodLink RX6 42 yX4_takeFirst, Cond.instanceMethod yX4_takeFirst, Cond.selects RX4 yX4_takeFirst yX4_takeFirst, Cond.code yX4_takeFirst cX4_takeFirst 2 (some (.object "RollbackPair$Packet")), Cond.methodLink RX4 20 yX4_first, Cond.instanceMethod yX4_first, Cond.selects RX4 yX4_first yX4_first, Cond.code yX4_first cX4_first 1 (some (.object "RollbackPair$Packet")), Cond.methodLink RX4 24 yX4_sendFirstToEnd, Cond.instanceMethod yX4_sendFirstToEnd, Cond.selects RX4 yX4_sendFirstToEnd yX4_sendFirstToEnd, Cond.code yX4_sendFirstToEnd cX4_sendFirstToEnd 3 (some .boolean), Cond.methodLink RX6 46 yX3_receive, Cond.instanceMethod yX3_receive, Cond.selects RX3 yX3_receive yX3_receive]
def wsL_law_r13 : List Cond := [Cond.code yX3_receive cX3_receive 4 (some .int), Cond.fieldLink RX3 138 "RollbackPair$Peer" "hasTaken" "Z", Cond.fieldLink RX3 141 "RollbackPair$Peer" "latestNumber" "S", Cond.fieldLink RX3 144 "RollbackPair$Peer" "lead" "F", Cond.constantFloat RX3 148 (1061158912), Cond.constantFloat RX3 149 (1048576000), Cond.methodLink RX3 134 yX3_takes, Cond.instanceMethod yX3_takes, Cond.selects RX3 yX3_takes yX3_takes, Cond.code yX3_takes cX3_takes 2 (some .boolean), Cond.methodLink RX3 150 yX3_learnFrom, Cond.instanceMethod yX3_learnFrom, Cond.selects RX3 yX3_learnFrom yX3_learnFrom, Cond.code yX3_learnFrom cX3_learnFrom 5 none, Cond.fieldLink RX3 154 "RollbackPair$Packet" "count" "I", Cond.methodLink RX3 65 Lib.Math.min.name, Cond.fieldLink RX3 155 "RollbackPair$Packet" "first" "I", Cond.methodLink RX3 158 yX2_input, Cond.instanceMethod yX2_input, Cond.selects RX2 yX2_input yX2_input, Cond.code yX2_input cX2_input 2 (some .int), Cond.methodLink RL 30 yX7_deliver, Cond.instanceMethod yX7_deliver, Cond.selects RX7 yX7_deliver yX7_deliver]
def wsL_law_r14 : List Cond := [Cond.code yX7_deliver cX7_deliver 8 (some .int), Cond.constantFloat RX7 146 (1061158912), Cond.constantFloat RX7 147 (1048576000), Cond.constantLong RX7 148 (7), Cond.methodLink RX7 143 yX7_take, Cond.instanceMethod yX7_take, Cond.selects RX7 yX7_take yX7_take, Cond.code yX7_take cX7_take 3 none, Cond.methodLink RX7 128 yX7_copy, Cond.instanceMethod yX7_copy, Cond.selects RX7 yX7_copy yX7_copy, Cond.code yX7_copy cX7_copy 3 none, Cond.methodLink RX7 150 yX7_replay, Cond.instanceMethod yX7_replay, Cond.selects RX7 yX7_replay yX7_replay, Cond.code yX7_replay cX7_replay 5 (some .int), Cond.methodLink RL 31 yX6_alter, Cond.instanceMethod yX6_alter, Cond.selects RX6 yX6_alter yX6_alter, Cond.code yX6_alter cX6_alter 4 (some .boolean), Cond.methodLink RX6 50 yX4_doubleFirst, Cond.instanceMethod yX4_doubleFirst, Cond.selects RX4 yX4_doubleFirst yX4_doubleFirst, Cond.code yX4_doubleFirst cX4_doubleFirst 3 (some .boolean)]
def wsL_law_r15 : List Cond := [Cond.methodLink RX4 28 yX4_addLast, Cond.methodLink RX4 31 yX2_copyOf, Cond.instanceMethod yX2_copyOf, Cond.selects RX2 yX2_copyOf yX2_copyOf, Cond.code yX2_copyOf cX2_copyOf 2 none, Cond.fieldLink RX2 45 "RollbackPair$Packet" "check" "I", Cond.methodLink RX6 54 yX4_sendFirstToEnd, Cond.methodLink RL 35 yX7_alter, Cond.instanceMethod yX7_alter, Cond.selects RX7 yX7_alter yX7_alter, Cond.code yX7_alter cX7_alter 3 (some .boolean), Cond.methodLink RL 36 yX6_spoil, Cond.instanceMethod yX6_spoil, Cond.selects RX6 yX6_spoil yX6_spoil, Cond.code yX6_spoil cX6_spoil 6 (some .boolean), Cond.methodLink RX6 57 yX4_first, Cond.methodLink RX6 60 yX2_flip, Cond.instanceMethod yX2_flip, Cond.selects RX2 yX2_flip yX2_flip, Cond.code yX2_flip cX2_flip 3 (some .boolean), Cond.constantLong RX2 48 (4294967295), Cond.methodLink RL 40 yX7_spoil, Cond.instanceMethod yX7_spoil, Cond.selects RX7 yX7_spoil yX7_spoil]
def wsL_law_r16 : List Cond := [Cond.code yX7_spoil cX7_spoil 5 (some .boolean), Cond.constantLong RX7 153 (4294967295), Cond.methodLink RL 41 yX6_about, Cond.instanceMethod yX6_about, Cond.selects RX6 yX6_about yX6_about, Cond.code yX6_about cX6_about 4 (some .int), Cond.fieldLink RX6 66 "RollbackPair$Peer" "at" "I", Cond.fieldLink RX6 74 "RollbackPair$Peer" "stalls" "I", Cond.fieldLink RX6 77 "RollbackPair$Peer" "others" "LRollbackPair$Inputs;", Cond.fieldLink RX6 81 "RollbackPair$Inputs" "ended" "Z", Cond.fieldLink RX6 87 "RollbackPair$Inputs" "count" "I", Cond.fieldLink RX6 90 "RollbackPair$Row" "size" "I", Cond.fieldLink RX6 93 "RollbackPair$Peer" "told" "I", Cond.methodLink RX6 70 yX3_confirmed, Cond.instanceMethod yX3_confirmed, Cond.selects RX3 yX3_confirmed yX3_confirmed, Cond.code yX3_confirmed cX3_confirmed 2 (some .int), Cond.methodLink RL 44 yX7_about, Cond.instanceMethod yX7_about, Cond.selects RX7 yX7_about yX7_about, Cond.code yX7_about cX7_about 4 (some .int), Cond.methodLink RL 45 yX6_known, Cond.instanceMethod yX6_known, Cond.selects RX6 yX6_known yX6_known]
def wsL_law_r17 : List Cond := [Cond.code yX6_known cX6_known 4 (some .int), Cond.methodLink RX6 100 yX3_inputsOf, Cond.methodLink RL 48 yX7_known, Cond.instanceMethod yX7_known, Cond.selects RX7 yX7_known yX7_known, Cond.code yX7_known cX7_known 3 (some .int), Cond.methodLink RL 49 yX6_used, Cond.instanceMethod yX6_used, Cond.selects RX6 yX6_used yX6_used, Cond.code yX6_used cX6_used 5 (some .int), Cond.fieldLink RX6 104 "RollbackPair$Peer" "history" "LRollbackPair$History;", Cond.methodLink RX6 108 yX0_inputPlayed, Cond.methodLink RL 53 yX7_used, Cond.instanceMethod yX7_used, Cond.selects RX7 yX7_used yX7_used, Cond.code yX7_used cX7_used 4 (some .int), Cond.methodLink RL 54 yX6_sum, Cond.instanceMethod yX6_sum, Cond.selects RX6 yX6_sum yX6_sum, Cond.code yX6_sum cX6_sum 4 (some .int), Cond.methodLink RX6 114 yX0_sumBefore, Cond.instanceMethod yX0_sumBefore, Cond.selects RX0 yX0_sumBefore yX0_sumBefore, Cond.code yX0_sumBefore cX0_sumBefore 3 (some .int)]
def wsL_law_r18 : List Cond := [Cond.methodLink RX0 31 yX5_total, Cond.instanceMethod yX5_total, Cond.selects RX5 yX5_total yX5_total, Cond.code yX5_total cX5_total 3 (some .int), Cond.constantFloat RX5 38 (1166016512), Cond.constantDouble RX5 39 (4634204016564240384), Cond.methodLink RL 57 yX7_sum, Cond.instanceMethod yX7_sum, Cond.selects RX7 yX7_sum yX7_sum, Cond.code yX7_sum cX7_sum 5 (some .int), Cond.constantFloat RX7 155 (1166016512), Cond.constantDouble RX7 156 (4634204016564240384), Cond.methodLink RL 58 yX6_place, Cond.instanceMethod yX6_place, Cond.selects RX6 yX6_place yX6_place, Cond.code yX6_place cX6_place 4 (some .float), Cond.constantFloat RX6 117 (3267887104), Cond.fieldLink RX6 122 "RollbackPair$State" "places" "[F", Cond.methodLink RX6 118 yX3_state, Cond.instanceMethod yX3_state, Cond.selects RX3 yX3_state yX3_state, Cond.code yX3_state cX3_state 1 (some (.object "RollbackPair$State")), Cond.methodLink RX3 54 yX0_before, Cond.methodLink RL 62 yX7_place]
def wsL_law_r19 : List Cond := [Cond.instanceMethod yX7_place, Cond.selects RX7 yX7_place yX7_place, Cond.code yX7_place cX7_place 4 (some .float), Cond.constantFloat RX7 158 (3267887104), Cond.methodLink RL 63 yX6_speed, Cond.instanceMethod yX6_speed, Cond.selects RX6 yX6_speed yX6_speed, Cond.code yX6_speed cX6_speed 4 (some .float), Cond.fieldLink RX6 128 "RollbackPair$State" "speeds" "[F", Cond.methodLink RL 66 yX7_speed, Cond.instanceMethod yX7_speed, Cond.selects RX7 yX7_speed yX7_speed, Cond.code yX7_speed cX7_speed 4 (some .float), Cond.methodLink RL 67 yX6_hits, Cond.instanceMethod yX6_hits, Cond.selects RX6 yX6_hits yX6_hits, Cond.code yX6_hits cX6_hits 3 (some .int), Cond.fieldLink RX6 131 "RollbackPair$State" "hitCount" "I", Cond.methodLink RL 70 yX7_hits, Cond.instanceMethod yX7_hits, Cond.selects RX7 yX7_hits yX7_hits, Cond.code yX7_hits cX7_hits 2 (some .int), Cond.methodLink RL 71 yX6_work, Cond.instanceMethod yX6_work]
def wsL_law_r20 : List Cond := [Cond.selects RX6 yX6_work yX6_work, Cond.code yX6_work cX6_work 3 (some .double), Cond.constantDouble RX6 134 (13830554455654793216), Cond.fieldLink RX6 136 "RollbackPair$State" "workDone" "D", Cond.methodLink RL 75 yX7_work, Cond.instanceMethod yX7_work, Cond.selects RX7 yX7_work yX7_work, Cond.code yX7_work cX7_work 2 (some .double), Cond.constantDouble RX7 159 (13830554455654793216), Cond.methodLink RL 76 yX6_advice, Cond.instanceMethod yX6_advice, Cond.selects RX6 yX6_advice yX6_advice, Cond.code yX6_advice cX6_advice 3 (some .float), Cond.fieldLink RX6 140 "RollbackPair$Peer" "lead" "F", Cond.methodLink RL 80 yX7_advice, Cond.instanceMethod yX7_advice, Cond.selects RX7 yX7_advice yX7_advice, Cond.code yX7_advice cX7_advice 2 (some .float)]
def wsL_law : List Cond := (wsL_law_r1 ++ (wsL_law_r2 ++ (wsL_law_r3 ++ (wsL_law_r4 ++ (wsL_law_r5 ++ (wsL_law_r6 ++ (wsL_law_r7 ++ (wsL_law_r8 ++ (wsL_law_r9 ++ (wsL_law_r10 ++ (wsL_law_r11 ++ (wsL_law_r12 ++ (wsL_law_r13 ++ (wsL_law_r14 ++ (wsL_law_r15 ++ (wsL_law_r16 ++ (wsL_law_r17 ++ (wsL_law_r18 ++ (wsL_law_r19 ++ wsL_law_r20))))))))))))))))))) ++ wsX60 ++ wsX70 ++ wsX40 ++ wsX30 ++ wsX20 ++ wsX00 ++ wsX10 ++ wsX50 ++ ([] : List Cond)
abbrev vwCl : List vw_C := [(RX0, TX0, 2), (RX1, TX1, 3), (RX2, TX2, 7), (RX3, TX3, 14), (RX4, TX4, 2), (RX5, TX5, 4), (RX6, TX6, 1), (RX7, TX7, 29)]
end
section
/-! a stretch of cells: the k-th cell lies at the address ad k and holds M k -/
def sg (ad : Nat → Nat) (n : Nat) (M : Nat → va_E) : va_W := (List.range n).map (fun k => (ad k, M k))
theorem sg_at {ad : Nat → Nat} {n k : Nat} {M : Nat → va_E} (h : k < n) : (sg ad n M)[k]? = some (ad k, M k) := by
  unfold sg
  rw [List.getElem?_map, List.getElem?_range h]
  rfl
theorem sg_atE {ad : Nat → Nat} {n k : Nat} {M : Nat → va_E} {e : va_E} (h : k < n) (hM : M k = e) : (sg ad n M)[k]? = some (ad k, e) := by
  rw [sg_at h, hM]
theorem sg_of {ad : Nat → Nat} {n k : Nat} {M : Nat → va_E} {q : Nat × va_E} (h : (sg ad n M)[k]? = some q) : k < n ∧ q = (ad k, M k) := by
  have hl := (List.getElem?_eq_some_iff.mp h).1
  have hk : k < n := by unfold sg at hl; simpa using hl
  rw [sg_at hk] at h
  exact ⟨hk, (Option.some.inj h).symm⟩
theorem sg_set {ad : Nat → Nat} {n k : Nat} {M : Nat → va_E} {e : va_E} (hk : k < n) : (sg ad n M).set k (ad k, e) = sg ad n (va_up M k e) := by
  apply List.ext_getElem?
  intro i
  by_cases hi : i < n
  · rw [sg_at hi]
    by_cases h : i = k
    · subst h
      rw [List.getElem?_set_self (by unfold sg; simpa using hk), va_up_self]
    · rw [List.getElem?_set_ne (Ne.symm h), sg_at hi, va_up_ne M e h]
  · rw [List.getElem?_eq_none (by unfold sg; simp; omega), List.getElem?_eq_none (by unfold sg; simp; omega)]
def Ad (ad : Nat → Nat) (n : Nat) : Nat → Prop := fun q => ∃ k : Nat, k < n ∧ q = ad k
def Inj (ad : Nat → Nat) (n : Nat) : Prop := ∀ i j : Nat, i < n → j < n → ad i = ad j → i = j
theorem sg_D {ad : Nat → Nat} {n : Nat} {M : Nat → va_E} (h : Inj ad n) : va_D (Ad ad n) (sg ad n M) := by
  refine ⟨fun i j x y hx hy hxy => ?_, fun k q hk => ?_⟩
  · obtain ⟨h1, rfl⟩ := sg_of hx
    obtain ⟨h2, rfl⟩ := sg_of hy
    exact h i j h1 h2 hxy
  · obtain ⟨h1, rfl⟩ := sg_of hk
    exact ⟨k, h1, rfl⟩
theorem sg_P {D : va_G} {cl : List vw_C} {ad : Nat → Nat} {n : Nat} {M : Nat → va_E} {H : Heap} : va_P D cl (sg ad n M) H ↔ ∀ k : Nat, k < n → va_at D cl (ad k, M k) H := by
  constructor
  · intro h k hk
    exact h k _ (sg_at hk)
  · intro h k q hq
    obtain ⟨h1, rfl⟩ := sg_of hq
    exact h k h1
theorem sg_congr {ad : Nat → Nat} {n : Nat} {M M' : Nat → va_E} (h : ∀ k : Nat, k < n → M k = M' k) : sg ad n M = sg ad n M' := by
  unfold sg
  apply List.map_congr_left
  intro a ha
  rw [h a (List.mem_range.mp ha)]
/-- the array classes -/
abbrev tysC (cs : Nat → ClassId) : List (ClassId × FieldType) := [(cs 0, .int), (cs 1, .byte), (cs 2, .short), (cs 3, .boolean), (cs 4, .float), (cs 5, .long), (cs 6, .double), (cs 7, .object "RollbackPair$Packet"), (cs 8, .object "RollbackPair$State"), (cs 9, .object "RollbackPair$Peer"), (cs 10, .array .byte)]
abbrev eI (cs : Nat → ClassId) (n : Nat) (f : Nat → Int32) : va_E := .inl (cs 0, n, .inl f)
abbrev eB (cs : Nat → ClassId) (n : Nat) (f : Nat → Int32) : va_E := .inl (cs 1, n, .inl f)
abbrev eS (cs : Nat → ClassId) (n : Nat) (f : Nat → Int32) : va_E := .inl (cs 2, n, .inl f)
abbrev eZ (cs : Nat → ClassId) (n : Nat) (f : Nat → Int32) : va_E := .inl (cs 3, n, .inl f)
abbrev eF (cs : Nat → ClassId) (n : Nat) (f : Nat → UInt32) : va_E := .inl (cs 4, n, .inr (.inr (.inl f)))
abbrev eJ (cs : Nat → ClassId) (n : Nat) (f : Nat → Int64) : va_E := .inl (cs 5, n, .inr (.inl f))
abbrev eD (cs : Nat → ClassId) (n : Nat) (f : Nat → UInt64) : va_E := .inl (cs 6, n, .inr (.inr (.inr (.inl f))))
abbrev eQ (cs : Nat → ClassId) (t n : Nat) (f : Nat → Option Nat) : va_E := .inl (cs t, n, .inr (.inr (.inr (.inr f))))
theorem nI_in' {j n : Nat} (h : j < n) (hn : n < 2 ^ 31) : vp_in (nI j) n := vp_in_nI h hn
/-- the world of a contract: the cells and the classes -/
def PW (D : va_G) (cs : Nat → ClassId) (ad : Nat → Nat) (n : Nat) (M : Nat → va_E) (U : State) : Prop := va_P D vwCl (sg ad n M) U.heap ∧ va_K D vwCl (tysC cs) U
abbrev CTi (l : Launch) (y : MethodName) (ws : List Cond) (rm : Room) (D : va_G) (cs : Nat → ClassId) (ad : Nat → Nat) (n : Nat) (M : Nat → va_E) (av : List Value) (post : Int32 → (Nat → va_E) → Prop) : Prop := Met l y ws rm (va_Pc av (PW D cs ad n M)) (va_Qi post (PW D cs ad n) (Ad ad n)) 0 0 (Ad ad n)
abbrev CTf (l : Launch) (y : MethodName) (ws : List Cond) (rm : Room) (D : va_G) (cs : Nat → ClassId) (ad : Nat → Nat) (n : Nat) (M : Nat → va_E) (av : List Value) (post : UInt32 → (Nat → va_E) → Prop) : Prop := Met l y ws rm (va_Pc av (PW D cs ad n M)) (va_Qf post (PW D cs ad n) (Ad ad n)) 0 0 (Ad ad n)
abbrev CTd (l : Launch) (y : MethodName) (ws : List Cond) (rm : Room) (D : va_G) (cs : Nat → ClassId) (ad : Nat → Nat) (n : Nat) (M : Nat → va_E) (av : List Value) (post : UInt64 → (Nat → va_E) → Prop) : Prop := Met l y ws rm (va_Pc av (PW D cs ad n M)) (va_Qd post (PW D cs ad n) (Ad ad n)) 0 0 (Ad ad n)
abbrev CTv (l : Launch) (y : MethodName) (ws : List Cond) (rm : Room) (D : va_G) (cs : Nat → ClassId) (ad : Nat → Nat) (n : Nat) (M : Nat → va_E) (av : List Value) (post : (Nat → va_E) → Prop) : Prop := Met l y ws rm (va_Pc av (PW D cs ad n M)) (va_Qv post (PW D cs ad n) (Ad ad n)) 0 0 (Ad ad n)
abbrev CTq (l : Launch) (y : MethodName) (ws : List Cond) (rm : Room) (D : va_G) (cs : Nat → ClassId) (ad : Nat → Nat) (n : Nat) (M : Nat → va_E) (av : List Value) (post : Option Nat → (Nat → va_E) → Prop) : Prop := Met l y ws rm (va_Pc av (PW D cs ad n M)) (va_Qq post (PW D cs ad n) (Ad ad n)) 0 0 (Ad ad n)
theorem PW_blind {D : va_G} {cs : Nat → ClassId} {ad : Nat → Nat} {n : Nat} {M : Nat → va_E} {av : List Value} : FrameBlind (va_Pc av (PW D cs ad n M)) :=
  fun a U g mk q => ⟨q.1, q.2.1, va_K.moved (u := U) (U := U.calling g mk a) (Vm.Alike.refl U.vm) q.2.2⟩
section RWS
variable {p : Program} {l : Launch} {e : Env} {R : Room} {s : State} {m : MethodId} {args : Array Value} {below : List Frame} {meth : Method} {c : Code} {H : Heap} {locs : List Loc} {cells slots : Nat} {Q : State → Prop}
variable {cc : ByteArray} {pc : Nat} {ls : Array Slot} {rest : List Value} {D : va_G} {cs : Nat → ClassId} {ad : Nat → Nat} {n : Nat} {M : Nat → va_E} {H0 : Heap}
theorem m_get (hx : p.tables.exec = Jvm.exec) (hb : c.code = cc) {own C : String} {T : u_T} {N ci index : Nat} {Ts : List Cond} (hts : ∀ w ∈ Ts, w.before args s = true) (hin : ∀ w ∈ u_ws C T N, w ∈ Ts) (hown : s.vm.findClass own = some m.cls) (hK : va_K D vwCl (tysC cs) s) (hP : va_P D vwCl (sg ad n M) H) (hc : vwCl[ci]? = some (C, T, N)) {k : Nat} (hk : k < n) {fs : List Value} (hM : M k = .inr (ci, fs)) (j : Nat) (hj : j < N) (hlink : (Cond.fieldLink own index (T j).1 (T j).2.1 (T j).2.2.1).before args s = true) {v : Value} (hv : fs[j]? = some v) (hdg : decode cc pc = .ok (.getfield index, 3))
    (kk : W p l e R s m args below meth c H locs cells slots Q (F0 m (pc + 3) ls (v :: rest))) : W p l e R s m args below meth c H locs cells slots Q (F0 m pc ls (.ref (ad k) :: rest)) :=
  va_get hx hb hts hin hown hK hP k (sg_atE hk hM) hc j hj hlink (fun _ h => h) hv hdg kk
theorem m_put (hx : p.tables.exec = Jvm.exec) (hb : c.code = cc) {own C : String} {T : u_T} {N ci index : Nat} {Ts : List Cond} (hts : ∀ w ∈ Ts, w.before args s = true) (hin : ∀ w ∈ u_ws C T N, w ∈ Ts) (ty0 : Nat → FieldType) (hty : ∀ k, k < N → parseFieldDescriptor (T k).2.2.1 = some (ty0 k)) (hnm : ∀ a, a < N → ∀ b, b < N → a ≠ b → (T a).2.1 ≠ (T b).2.1) (hown : s.vm.findClass own = some m.cls) (hK : va_K D vwCl (tysC cs) s) (hP : va_P D vwCl (sg ad n M) H) (hJ : Inj ad n) (hS : va_S (Ad ad n) H0 H locs) (hc : vwCl[ci]? = some (C, T, N)) {k : Nat} (hk : k < n) {fs : List Value} (hM : M k = .inr (ci, fs)) (j : Nat) (hj : j < N) (hlink : (Cond.fieldLink own index (T j).1 (T j).2.1 (T j).2.2.1).before args s = true) (hfin : (T j).2.2.2 = false) {v : Value} (hn : narrow (ty0 j) v = v) (hfit : fits (ty0 j) v = true) (hl : j < fs.length) {fs' : List Value} (hfs : fs.set j v = fs') (hdg : decode cc pc = .ok (.putfield index, 3))
    (kk : ∀ (H1 : Heap) (locs1 : List Loc), va_P D vwCl (sg ad n (va_up M k (.inr (ci, fs')))) H1 → va_S (Ad ad n) H0 H1 locs1 → W p l e R s m args below meth c H1 locs1 cells slots Q (F0 m (pc + 3) ls rest)) : W p l e R s m args below meth c H locs cells slots Q (F0 m pc ls (v :: .ref (ad k) :: rest)) := by
  subst hfs
  refine va_put hx hb hts hin ty0 hty hnm hown hK hP (sg_D hJ) hS k (sg_atE hk hM) hc j hj hlink (fun _ h => h) hfin (hty j hj) hn hfit hl hdg (fun H1 locs1 h1 _ h3 => ?_)
  rw [sg_set hk] at h1
  exact kk H1 locs1 h1 h3
theorem m_iald (hx : p.tables.exec = Jvm.exec) (hb : c.code = cc) (hK : va_K D vwCl (tysC cs) s) (hP : va_P D vwCl (sg ad n M) H) {k : Nat} (hk : k < n) {N : Nat} {f : Nat → Int32} (hM : M k = eI cs N f) {i : Nat} (hi : i < N) (hN : N < 2 ^ 31) (hdg : decode cc pc = .ok (.iaload, 1))
    (kk : W p l e R s m args below meth c H locs cells slots Q (F0 m (pc + 1) ls (.int (f i) :: rest))) : W p l e R s m args below meth c H locs cells slots Q (F0 m pc ls (.int (nI i) :: .ref (ad k) :: rest)) :=
  va_iald hx hb hK hP k 0 (sg_atE hk hM) rfl (nI_in' hi hN) hdg (by rw [nI_clamp (Nat.lt_trans hi hN)]; exact kk)
theorem m_bald (hx : p.tables.exec = Jvm.exec) (hb : c.code = cc) (hK : va_K D vwCl (tysC cs) s) (hP : va_P D vwCl (sg ad n M) H) {k : Nat} (hk : k < n) {N : Nat} {f : Nat → Int32} (hM : M k = eB cs N f) {i : Nat} (hi : i < N) (hN : N < 2 ^ 31) (hdg : decode cc pc = .ok (.baload, 1))
    (kk : W p l e R s m args below meth c H locs cells slots Q (F0 m (pc + 1) ls (.int (f i) :: rest))) : W p l e R s m args below meth c H locs cells slots Q (F0 m pc ls (.int (nI i) :: .ref (ad k) :: rest)) :=
  va_bald hx hb hK hP k 1 (sg_atE hk hM) rfl (nI_in' hi hN) hdg (by rw [nI_clamp (Nat.lt_trans hi hN)]; exact kk)
theorem m_sald (hx : p.tables.exec = Jvm.exec) (hb : c.code = cc) (hK : va_K D vwCl (tysC cs) s) (hP : va_P D vwCl (sg ad n M) H) {k : Nat} (hk : k < n) {N : Nat} {f : Nat → Int32} (hM : M k = eS cs N f) {i : Nat} (hi : i < N) (hN : N < 2 ^ 31) (hdg : decode cc pc = .ok (.saload, 1))
    (kk : W p l e R s m args below meth c H locs cells slots Q (F0 m (pc + 1) ls (.int (f i) :: rest))) : W p l e R s m args below meth c H locs cells slots Q (F0 m pc ls (.int (nI i) :: .ref (ad k) :: rest)) :=
  va_sald hx hb hK hP k 2 (sg_atE hk hM) rfl (nI_in' hi hN) hdg (by rw [nI_clamp (Nat.lt_trans hi hN)]; exact kk)
theorem m_zald (hx : p.tables.exec = Jvm.exec) (hb : c.code = cc) (hK : va_K D vwCl (tysC cs) s) (hP : va_P D vwCl (sg ad n M) H) {k : Nat} (hk : k < n) {N : Nat} {f : Nat → Int32} (hM : M k = eZ cs N f) {i : Nat} (hi : i < N) (hN : N < 2 ^ 31) (hdg : decode cc pc = .ok (.baload, 1))
    (kk : W p l e R s m args below meth c H locs cells slots Q (F0 m (pc + 1) ls (.int (f i) :: rest))) : W p l e R s m args below meth c H locs cells slots Q (F0 m pc ls (.int (nI i) :: .ref (ad k) :: rest)) :=
  va_zald hx hb hK hP k 3 (sg_atE hk hM) rfl (nI_in' hi hN) hdg (by rw [nI_clamp (Nat.lt_trans hi hN)]; exact kk)
theorem m_fald (hx : p.tables.exec = Jvm.exec) (hb : c.code = cc) (hK : va_K D vwCl (tysC cs) s) (hP : va_P D vwCl (sg ad n M) H) {k : Nat} (hk : k < n) {N : Nat} {f : Nat → UInt32} (hM : M k = eF cs N f) {i : Nat} (hi : i < N) (hN : N < 2 ^ 31) (hdg : decode cc pc = .ok (.faload, 1))
    (kk : W p l e R s m args below meth c H locs cells slots Q (F0 m (pc + 1) ls (.float (f i) :: rest))) : W p l e R s m args below meth c H locs cells slots Q (F0 m pc ls (.int (nI i) :: .ref (ad k) :: rest)) :=
  va_fald hx hb hK hP k 4 (sg_atE hk hM) rfl (nI_in' hi hN) hdg (by rw [nI_clamp (Nat.lt_trans hi hN)]; exact kk)
theorem m_lald (hx : p.tables.exec = Jvm.exec) (hb : c.code = cc) (hK : va_K D vwCl (tysC cs) s) (hP : va_P D vwCl (sg ad n M) H) {k : Nat} (hk : k < n) {N : Nat} {f : Nat → Int64} (hM : M k = eJ cs N f) {i : Nat} (hi : i < N) (hN : N < 2 ^ 31) (hdg : decode cc pc = .ok (.laload, 1))
    (kk : W p l e R s m args below meth c H locs cells slots Q (F0 m (pc + 1) ls (.long (f i) :: rest))) : W p l e R s m args below meth c H locs cells slots Q (F0 m pc ls (.int (nI i) :: .ref (ad k) :: rest)) :=
  va_lald hx hb hK hP k 5 (sg_atE hk hM) rfl (nI_in' hi hN) hdg (by rw [nI_clamp (Nat.lt_trans hi hN)]; exact kk)
theorem m_dald (hx : p.tables.exec = Jvm.exec) (hb : c.code = cc) (hK : va_K D vwCl (tysC cs) s) (hP : va_P D vwCl (sg ad n M) H) {k : Nat} (hk : k < n) {N : Nat} {f : Nat → UInt64} (hM : M k = eD cs N f) {i : Nat} (hi : i < N) (hN : N < 2 ^ 31) (hdg : decode cc pc = .ok (.daload, 1))
    (kk : W p l e R s m args below meth c H locs cells slots Q (F0 m (pc + 1) ls (.double (f i) :: rest))) : W p l e R s m args below meth c H locs cells slots Q (F0 m pc ls (.int (nI i) :: .ref (ad k) :: rest)) :=
  va_dald hx hb hK hP k 6 (sg_atE hk hM) rfl (nI_in' hi hN) hdg (by rw [nI_clamp (Nat.lt_trans hi hN)]; exact kk)
/-- a place of a row of objects: t its class's place among the array classes -/
theorem m_aald (hx : p.tables.exec = Jvm.exec) (hb : c.code = cc) (hK : va_K D vwCl (tysC cs) s) (hP : va_P D vwCl (sg ad n M) H) (t : Nat) {C : String} (ht : (tysC cs)[t]? = some (cs t, .object C)) {k : Nat} (hk : k < n) {N : Nat} {f : Nat → Option Nat} (hM : M k = eQ cs t N f) {i : Nat} (hi : i < N) (hN : N < 2 ^ 31) {r : Option Nat} (hr : f i = r) (hdg : decode cc pc = .ok (.aaload, 1))
    (kk : W p l e R s m args below meth c H locs cells slots Q (F0 m (pc + 1) ls (va_rf r :: rest))) : W p l e R s m args below meth c H locs cells slots Q (F0 m pc ls (.int (nI i) :: .ref (ad k) :: rest)) :=
  va_aldq hx hb hK hP k t (sg_atE hk hM) ht (nI_in' hi hN) hdg (by rw [nI_clamp (Nat.lt_trans hi hN), hr]; exact kk)
theorem m_iast (hx : p.tables.exec = Jvm.exec) (hb : c.code = cc) (hK : va_K D vwCl (tysC cs) s) (hP : va_P D vwCl (sg ad n M) H) (hJ : Inj ad n) (hS : va_S (Ad ad n) H0 H locs) {k : Nat} (hk : k < n) {N : Nat} {f : Nat → Int32} (hM : M k = eI cs N f) {i : Nat} {x : Int32} (hi : i < N) (hN : N < 2 ^ 31) (hdg : decode cc pc = .ok (.iastore, 1))
    (kk : ∀ (H1 : Heap) (locs1 : List Loc), va_P D vwCl (sg ad n (va_up M k (eI cs N (upd f i x)))) H1 → va_S (Ad ad n) H0 H1 locs1 → W p l e R s m args below meth c H1 locs1 cells slots Q (F0 m (pc + 1) ls rest)) : W p l e R s m args below meth c H locs cells slots Q (F0 m pc ls (.int x :: .int (nI i) :: .ref (ad k) :: rest)) := by
  refine va_iast hx hb hK hP (sg_D hJ) hS k 0 (sg_atE hk hM) rfl (nI_in' hi hN) hdg (fun H1 locs1 h1 _ h3 => ?_)
  rw [sg_set hk, nI_clamp (Nat.lt_trans hi hN)] at h1
  exact kk H1 locs1 h1 h3
theorem m_bast (hx : p.tables.exec = Jvm.exec) (hb : c.code = cc) (hK : va_K D vwCl (tysC cs) s) (hP : va_P D vwCl (sg ad n M) H) (hJ : Inj ad n) (hS : va_S (Ad ad n) H0 H locs) {k : Nat} (hk : k < n) {N : Nat} {f : Nat → Int32} (hM : M k = eB cs N f) {i : Nat} {x y : Int32} (hi : i < N) (hN : N < 2 ^ 31) (hy : x.toInt8.toInt32 = y) (hdg : decode cc pc = .ok (.bastore, 1))
    (kk : ∀ (H1 : Heap) (locs1 : List Loc), va_P D vwCl (sg ad n (va_up M k (eB cs N (upd f i y)))) H1 → va_S (Ad ad n) H0 H1 locs1 → W p l e R s m args below meth c H1 locs1 cells slots Q (F0 m (pc + 1) ls rest)) : W p l e R s m args below meth c H locs cells slots Q (F0 m pc ls (.int x :: .int (nI i) :: .ref (ad k) :: rest)) := by
  refine va_bast hx hb hK hP (sg_D hJ) hS k 1 (sg_atE hk hM) rfl (nI_in' hi hN) hdg (fun H1 locs1 h1 _ h3 => ?_)
  rw [sg_set hk, nI_clamp (Nat.lt_trans hi hN), vp_nar_byte, hy] at h1
  exact kk H1 locs1 h1 h3
theorem m_sast (hx : p.tables.exec = Jvm.exec) (hb : c.code = cc) (hK : va_K D vwCl (tysC cs) s) (hP : va_P D vwCl (sg ad n M) H) (hJ : Inj ad n) (hS : va_S (Ad ad n) H0 H locs) {k : Nat} (hk : k < n) {N : Nat} {f : Nat → Int32} (hM : M k = eS cs N f) {i : Nat} {x y : Int32} (hi : i < N) (hN : N < 2 ^ 31) (hy : x.toInt16.toInt32 = y) (hdg : decode cc pc = .ok (.sastore, 1))
    (kk : ∀ (H1 : Heap) (locs1 : List Loc), va_P D vwCl (sg ad n (va_up M k (eS cs N (upd f i y)))) H1 → va_S (Ad ad n) H0 H1 locs1 → W p l e R s m args below meth c H1 locs1 cells slots Q (F0 m (pc + 1) ls rest)) : W p l e R s m args below meth c H locs cells slots Q (F0 m pc ls (.int x :: .int (nI i) :: .ref (ad k) :: rest)) := by
  refine va_sast hx hb hK hP (sg_D hJ) hS k 2 (sg_atE hk hM) rfl (nI_in' hi hN) hdg (fun H1 locs1 h1 _ h3 => ?_)
  rw [sg_set hk, nI_clamp (Nat.lt_trans hi hN), vp_nar_short, hy] at h1
  exact kk H1 locs1 h1 h3
theorem m_zast (hx : p.tables.exec = Jvm.exec) (hb : c.code = cc) (hK : va_K D vwCl (tysC cs) s) (hP : va_P D vwCl (sg ad n M) H) (hJ : Inj ad n) (hS : va_S (Ad ad n) H0 H locs) {k : Nat} (hk : k < n) {N : Nat} {f : Nat → Int32} (hM : M k = eZ cs N f) {i : Nat} {x y : Int32} (hi : i < N) (hN : N < 2 ^ 31) (hy : vp_nar .boolean x = y) (hdg : decode cc pc = .ok (.bastore, 1))
    (kk : ∀ (H1 : Heap) (locs1 : List Loc), va_P D vwCl (sg ad n (va_up M k (eZ cs N (upd f i y)))) H1 → va_S (Ad ad n) H0 H1 locs1 → W p l e R s m args below meth c H1 locs1 cells slots Q (F0 m (pc + 1) ls rest)) : W p l e R s m args below meth c H locs cells slots Q (F0 m pc ls (.int x :: .int (nI i) :: .ref (ad k) :: rest)) := by
  refine va_zast hx hb hK hP (sg_D hJ) hS k 3 (sg_atE hk hM) rfl (nI_in' hi hN) hdg (fun H1 locs1 h1 _ h3 => ?_)
  rw [sg_set hk, nI_clamp (Nat.lt_trans hi hN), hy] at h1
  exact kk H1 locs1 h1 h3
theorem m_fast (hx : p.tables.exec = Jvm.exec) (hb : c.code = cc) (hK : va_K D vwCl (tysC cs) s) (hP : va_P D vwCl (sg ad n M) H) (hJ : Inj ad n) (hS : va_S (Ad ad n) H0 H locs) {k : Nat} (hk : k < n) {N : Nat} {f : Nat → UInt32} (hM : M k = eF cs N f) {i : Nat} {x : UInt32} (hi : i < N) (hN : N < 2 ^ 31) (hdg : decode cc pc = .ok (.fastore, 1))
    (kk : ∀ (H1 : Heap) (locs1 : List Loc), va_P D vwCl (sg ad n (va_up M k (eF cs N (vf_upd f i x)))) H1 → va_S (Ad ad n) H0 H1 locs1 → W p l e R s m args below meth c H1 locs1 cells slots Q (F0 m (pc + 1) ls rest)) : W p l e R s m args below meth c H locs cells slots Q (F0 m pc ls (.float x :: .int (nI i) :: .ref (ad k) :: rest)) := by
  refine va_fast hx hb hK hP (sg_D hJ) hS k 4 (sg_atE hk hM) rfl (nI_in' hi hN) hdg (fun H1 locs1 h1 _ h3 => ?_)
  rw [sg_set hk, nI_clamp (Nat.lt_trans hi hN)] at h1
  exact kk H1 locs1 h1 h3
theorem m_last (hx : p.tables.exec = Jvm.exec) (hb : c.code = cc) (hK : va_K D vwCl (tysC cs) s) (hP : va_P D vwCl (sg ad n M) H) (hJ : Inj ad n) (hS : va_S (Ad ad n) H0 H locs) {k : Nat} (hk : k < n) {N : Nat} {f : Nat → Int64} (hM : M k = eJ cs N f) {i : Nat} {x : Int64} (hi : i < N) (hN : N < 2 ^ 31) (hdg : decode cc pc = .ok (.lastore, 1))
    (kk : ∀ (H1 : Heap) (locs1 : List Loc), va_P D vwCl (sg ad n (va_up M k (eJ cs N (vp_updL f i x)))) H1 → va_S (Ad ad n) H0 H1 locs1 → W p l e R s m args below meth c H1 locs1 cells slots Q (F0 m (pc + 1) ls rest)) : W p l e R s m args below meth c H locs cells slots Q (F0 m pc ls (.long x :: .int (nI i) :: .ref (ad k) :: rest)) := by
  refine va_last hx hb hK hP (sg_D hJ) hS k 5 (sg_atE hk hM) rfl (nI_in' hi hN) hdg (fun H1 locs1 h1 _ h3 => ?_)
  rw [sg_set hk, nI_clamp (Nat.lt_trans hi hN)] at h1
  exact kk H1 locs1 h1 h3
theorem m_dast (hx : p.tables.exec = Jvm.exec) (hb : c.code = cc) (hK : va_K D vwCl (tysC cs) s) (hP : va_P D vwCl (sg ad n M) H) (hJ : Inj ad n) (hS : va_S (Ad ad n) H0 H locs) {k : Nat} (hk : k < n) {N : Nat} {f : Nat → UInt64} (hM : M k = eD cs N f) {i : Nat} {x : UInt64} (hi : i < N) (hN : N < 2 ^ 31) (hdg : decode cc pc = .ok (.dastore, 1))
    (kk : ∀ (H1 : Heap) (locs1 : List Loc), va_P D vwCl (sg ad n (va_up M k (eD cs N (vf_upd f i x)))) H1 → va_S (Ad ad n) H0 H1 locs1 → W p l e R s m args below meth c H1 locs1 cells slots Q (F0 m (pc + 1) ls rest)) : W p l e R s m args below meth c H locs cells slots Q (F0 m pc ls (.double x :: .int (nI i) :: .ref (ad k) :: rest)) := by
  refine va_dast hx hb hK hP (sg_D hJ) hS k 6 (sg_atE hk hM) rfl (nI_in' hi hN) hdg (fun H1 locs1 h1 _ h3 => ?_)
  rw [sg_set hk, nI_clamp (Nat.lt_trans hi hN)] at h1
  exact kk H1 locs1 h1 h3
/-- an object goes into a place of a row of objects -/
theorem m_aast (hx : p.tables.exec = Jvm.exec) (hb : c.code = cc) (hK : va_K D vwCl (tysC cs) s) (hP : va_P D vwCl (sg ad n M) H) (hJ : Inj ad n) (hS : va_S (Ad ad n) H0 H locs) (t ci : Nat) {r : vw_C} (ht : (tysC cs)[t]? = some (cs t, .object r.1)) (hc : vwCl[ci]? = some r) {k k2 : Nat} (hk : k < n) (hk2 : k2 < n) {N : Nat} {f : Nat → Option Nat} {vs : List Value} (hM : M k = eQ cs t N f) (hM2 : M k2 = .inr (ci, vs)) {i : Nat} (hi : i < N) (hN : N < 2 ^ 31) (hdg : decode cc pc = .ok (.aastore, 1))
    (kk : ∀ (H1 : Heap) (locs1 : List Loc), va_P D vwCl (sg ad n (va_up M k (eQ cs t N (va_up f i (some (ad k2)))))) H1 → va_S (Ad ad n) H0 H1 locs1 → W p l e R s m args below meth c H1 locs1 cells slots Q (F0 m (pc + 1) ls rest)) : W p l e R s m args below meth c H locs cells slots Q (F0 m pc ls (.ref (ad k2) :: .int (nI i) :: .ref (ad k) :: rest)) := by
  refine va_astq hx hb hK hP (sg_D hJ) hS k t k2 ci (sg_atE hk hM) ht (sg_atE hk2 hM2) hc (nI_in' hi hN) hdg (fun H1 locs1 h1 _ h3 => ?_)
  rw [sg_set hk, nI_clamp (Nat.lt_trans hi hN)] at h1
  exact kk H1 locs1 h1 h3
theorem m_alen (hx : p.tables.exec = Jvm.exec) (hb : c.code = cc) (hK : va_K D vwCl (tysC cs) s) (hP : va_P D vwCl (sg ad n M) H) (t : Nat) {ty : FieldType} (ht : (tysC cs)[t]? = some (cs t, ty)) {k : Nat} (hk : k < n) {x : vp_A} (hM : M k = .inl (cs t, x)) (hdg : decode cc pc = .ok (.arraylength, 1))
    (kk : W p l e R s m args below meth c H locs cells slots Q (F0 m (pc + 1) ls (.int (nI x.1) :: rest))) : W p l e R s m args below meth c H locs cells slots Q (F0 m pc ls (.ref (ad k) :: rest)) :=
  va_alen hx hb hK hP k t (sg_atE hk hM) ht rfl hdg kk
-- whole numbers
theorem n_add (hx : p.tables.exec = Jvm.exec) (hb : c.code = cc) {a b : Nat} (hdg : decode cc pc = .ok (.iadd, 1)) (k : W p l e R s m args below meth c H locs cells slots Q (F0 m (pc + 1) ls (.int (nI (a + b)) :: rest))) : W p l e R s m args below meth c H locs cells slots Q (F0 m pc ls (.int (nI b) :: .int (nI a) :: rest)) :=
  lv_iadd hx hb hdg (by rw [nI_add]; exact k)
theorem n_mul (hx : p.tables.exec = Jvm.exec) (hb : c.code = cc) {a b : Nat} (hdg : decode cc pc = .ok (.imul, 1)) (k : W p l e R s m args below meth c H locs cells slots Q (F0 m (pc + 1) ls (.int (nI (a * b)) :: rest))) : W p l e R s m args below meth c H locs cells slots Q (F0 m pc ls (.int (nI b) :: .int (nI a) :: rest)) :=
  lv_imul hx hb hdg (by rw [pk_mul]; exact k)
theorem n_sub (hx : p.tables.exec = Jvm.exec) (hb : c.code = cc) {a b : Nat} (h : b ≤ a) (hdg : decode cc pc = .ok (.isub, 1)) (k : W p l e R s m args below meth c H locs cells slots Q (F0 m (pc + 1) ls (.int (nI (a - b)) :: rest))) : W p l e R s m args below meth c H locs cells slots Q (F0 m pc ls (.int (nI b) :: .int (nI a) :: rest)) :=
  lv_isub hx hb hdg (by rw [pk_sub h]; exact k)
theorem n_and (hx : p.tables.exec = Jvm.exec) (hb : c.code = cc) {a b d : Nat} (h : nI a &&& nI b = nI d) (hdg : decode cc pc = .ok (.iand, 1)) (k : W p l e R s m args below meth c H locs cells slots Q (F0 m (pc + 1) ls (.int (nI d) :: rest))) : W p l e R s m args below meth c H locs cells slots Q (F0 m pc ls (.int (nI b) :: .int (nI a) :: rest)) :=
  lv_iand hx hb hdg (by rw [h]; exact k)
theorem n_val {x y : Int32} (h : x = y) (k : W p l e R s m args below meth c H locs cells slots Q (F0 m pc ls (.int y :: rest))) : W p l e R s m args below meth c H locs cells slots Q (F0 m pc ls (.int x :: rest)) := by rw [h]; exact k
theorem n_cmp_ge (hx : p.tables.exec = Jvm.exec) (hb : c.code = cc) {a b : Nat} {off : Int} {tgt : Nat} (hdg : decode cc pc = .ok (.if_icmp .ge off, 3)) (ht : (pc : Int) + off = (tgt : Int)) (ha : a < 2 ^ 31) (hb2 : b < 2 ^ 31)
    (kt : b ≤ a → W p l e R s m args below meth c H locs cells slots Q (F0 m tgt ls rest)) (kf : a < b → W p l e R s m args below meth c H locs cells slots Q (F0 m (pc + 3) ls rest)) : W p l e R s m args below meth c H locs cells slots Q (F0 m pc ls (.int (nI b) :: .int (nI a) :: rest)) :=
  lv_icmp_ge hx hb hdg ht (fun h => kt ((nI_leI hb2 ha).mp h)) (fun h => kf (Nat.lt_of_not_le fun q => h (nI_le q ha)))
theorem n_cmp_lt (hx : p.tables.exec = Jvm.exec) (hb : c.code = cc) {a b : Nat} {off : Int} {tgt : Nat} (hdg : decode cc pc = .ok (.if_icmp .lt off, 3)) (ht : (pc : Int) + off = (tgt : Int)) (ha : a < 2 ^ 31) (hb2 : b < 2 ^ 31)
    (kt : a < b → W p l e R s m args below meth c H locs cells slots Q (F0 m tgt ls rest)) (kf : b ≤ a → W p l e R s m args below meth c H locs cells slots Q (F0 m (pc + 3) ls rest)) : W p l e R s m args below meth c H locs cells slots Q (F0 m pc ls (.int (nI b) :: .int (nI a) :: rest)) :=
  lv_icmp_lt hx hb hdg ht (fun h => kt ((nI_ltI ha hb2).mp h)) (fun h => kf (Nat.le_of_not_lt fun q => h (nI_lt q hb2)))
theorem n_cmp_gt (hx : p.tables.exec = Jvm.exec) (hb : c.code = cc) {a b : Nat} {off : Int} {tgt : Nat} (hdg : decode cc pc = .ok (.if_icmp .gt off, 3)) (ht : (pc : Int) + off = (tgt : Int)) (ha : a < 2 ^ 31) (hb2 : b < 2 ^ 31)
    (kt : b < a → W p l e R s m args below meth c H locs cells slots Q (F0 m tgt ls rest)) (kf : a ≤ b → W p l e R s m args below meth c H locs cells slots Q (F0 m (pc + 3) ls rest)) : W p l e R s m args below meth c H locs cells slots Q (F0 m pc ls (.int (nI b) :: .int (nI a) :: rest)) :=
  lv_icmp_gt hx hb hdg ht (fun h => kt ((nI_ltI hb2 ha).mp h)) (fun h => kf (Nat.le_of_not_lt fun q => h (nI_lt q ha)))
theorem n_cmp_le (hx : p.tables.exec = Jvm.exec) (hb : c.code = cc) {a b : Nat} {off : Int} {tgt : Nat} (hdg : decode cc pc = .ok (.if_icmp .le off, 3)) (ht : (pc : Int) + off = (tgt : Int)) (ha : a < 2 ^ 31) (hb2 : b < 2 ^ 31)
    (kt : a ≤ b → W p l e R s m args below meth c H locs cells slots Q (F0 m tgt ls rest)) (kf : b < a → W p l e R s m args below meth c H locs cells slots Q (F0 m (pc + 3) ls rest)) : W p l e R s m args below meth c H locs cells slots Q (F0 m pc ls (.int (nI b) :: .int (nI a) :: rest)) :=
  lv_icmp_le hx hb hdg ht (fun h => kt ((nI_leI ha hb2).mp h)) (fun h => kf (Nat.lt_of_not_le fun q => h (nI_le q hb2)))
theorem n_cmp_eq (hx : p.tables.exec = Jvm.exec) (hb : c.code = cc) {a b : Nat} {off : Int} {tgt : Nat} (hdg : decode cc pc = .ok (.if_icmp .eq off, 3)) (ht : (pc : Int) + off = (tgt : Int)) (ha : a < 2 ^ 31) (hb2 : b < 2 ^ 31)
    (kt : a = b → W p l e R s m args below meth c H locs cells slots Q (F0 m tgt ls rest)) (kf : a ≠ b → W p l e R s m args below meth c H locs cells slots Q (F0 m (pc + 3) ls rest)) : W p l e R s m args below meth c H locs cells slots Q (F0 m pc ls (.int (nI b) :: .int (nI a) :: rest)) :=
  lv_icmp_eq hx hb hdg ht (fun h => kt ((nI_eq ha hb2).mp h)) (fun h => kf (fun q => h (by rw [q])))
theorem n_cmp_ne (hx : p.tables.exec = Jvm.exec) (hb : c.code = cc) {a b : Nat} {off : Int} {tgt : Nat} (hdg : decode cc pc = .ok (.if_icmp .ne off, 3)) (ht : (pc : Int) + off = (tgt : Int)) (ha : a < 2 ^ 31) (hb2 : b < 2 ^ 31)
    (kt : a ≠ b → W p l e R s m args below meth c H locs cells slots Q (F0 m tgt ls rest)) (kf : a = b → W p l e R s m args below meth c H locs cells slots Q (F0 m (pc + 3) ls rest)) : W p l e R s m args below meth c H locs cells slots Q (F0 m pc ls (.int (nI b) :: .int (nI a) :: rest)) :=
  lv_icmp_ne hx hb hdg ht (fun h => kt (fun q => h (by rw [q]))) (fun h => kf ((nI_eq ha hb2).mp h))
theorem n_if_ne (hx : p.tables.exec = Jvm.exec) (hb : c.code = cc) {a : Nat} {off : Int} {tgt : Nat} (hdg : decode cc pc = .ok (.ifCond .ne off, 3)) (ht : (pc : Int) + off = (tgt : Int)) (ha : a < 2 ^ 31)
    (kt : a ≠ 0 → W p l e R s m args below meth c H locs cells slots Q (F0 m tgt ls rest)) (kf : a = 0 → W p l e R s m args below meth c H locs cells slots Q (F0 m (pc + 3) ls rest)) : W p l e R s m args below meth c H locs cells slots Q (F0 m pc ls (.int (nI a) :: rest)) :=
  lv_if_ne hx hb hdg ht (fun h => kt (fun q => h (by rw [q]; exact nI_0))) (fun h => kf ((nI_eq ha (by decide)).mp (h.trans nI_0.symm)))
theorem n_if_eq (hx : p.tables.exec = Jvm.exec) (hb : c.code = cc) {a : Nat} {off : Int} {tgt : Nat} (hdg : decode cc pc = .ok (.ifCond .eq off, 3)) (ht : (pc : Int) + off = (tgt : Int)) (ha : a < 2 ^ 31)
    (kt : a = 0 → W p l e R s m args below meth c H locs cells slots Q (F0 m tgt ls rest)) (kf : a ≠ 0 → W p l e R s m args below meth c H locs cells slots Q (F0 m (pc + 3) ls rest)) : W p l e R s m args below meth c H locs cells slots Q (F0 m pc ls (.int (nI a) :: rest)) :=
  lv_if_eq hx hb hdg ht (fun h => kt ((nI_eq ha (by decide)).mp (h.trans nI_0.symm))) (fun h => kf (fun q => h (by rw [q]; exact nI_0)))
theorem n_if_lt (hx : p.tables.exec = Jvm.exec) (hb : c.code = cc) {a : Nat} {off : Int} (hdg : decode cc pc = .ok (.ifCond .lt off, 3)) {tgt : Nat} (ht : (pc : Int) + off = (tgt : Int)) (ha : a < 2 ^ 31)
    (kf : W p l e R s m args below meth c H locs cells slots Q (F0 m (pc + 3) ls rest)) : W p l e R s m args below meth c H locs cells slots Q (F0 m pc ls (.int (nI a) :: rest)) :=
  lv_if_lt hx hb hdg ht (fun h => absurd h (nI_pos ha)) (fun _ => kf)
end RWS
end
section
section RCL
variable {p : Program} {l : Launch} {e : Env} {R : Room} {s : State} {m : MethodId} {args : Array Value} {below : List Frame} {meth : Method} {c : Code} {H : Heap} {locs : List Loc} {cells slots : Nat} {Q : State → Prop}
variable {cc : ByteArray} {pc : Nat} {ls : Array Slot} {rest st0 : List Value} {D : va_G} {cs : Nat → ClassId} {ad : Nat → Nat} {n : Nat} {M : Nat → va_E} {H0 : Heap} {A0 : Nat → Prop}
variable {y : MethodName} {bytes : ByteArray} {maxL nL nn index : Nat} {ret : Option FieldType} {ws : List Cond} {rm : Room} {Ts : List Cond} {own C : String} {As : List Value}
theorem Ad_le {ad : Nat → Nat} {n : Nat} : ∀ q, Ad ad n q → Ad ad n q := fun _ h => h
theorem k_Vi {post : Int32 → (Nat → va_E) → Prop} {k ci : Nat} {fs : List Value} {T : u_T} {N : Nat} (S : CallFix p m c cc nL s args Ts own) (hK : va_K D vwCl (tysC cs) s) (hP : va_P D vwCl (sg ad n M) H) (hS : va_S A0 H0 H locs) (hA : ∀ q, Ad ad n q → A0 q) (hM : CTi l y ws rm D cs ad n M (.ref (ad k) :: As) post) (cw : CallW R s args own C index y bytes maxL ret ws rm 0 0 nn) (hk : k < n) (hMk : M k = .inr (ci, fs)) (hc : vwCl[ci]? = some (C, T, N)) (hst : st0 = As.reverse ++ .ref (ad k) :: rest) (hn : As.length = nn) (hsize : ls.size = nL) (hW : (rest.map fun v => v.category).sum ≤ 8) (hdg : decode cc pc = .ok (.invokevirtual index, 3)) (hcl : cells ≤ R.cells ∧ slots ≤ R.slots)
    (kk : ∀ (r : Int32) (M1 : Nat → va_E) (H1 : Heap) (locs1 : List Loc), post r M1 → va_P D vwCl (sg ad n M1) H1 → va_S A0 H0 H1 locs1 → H.size ≤ H1.size → (∀ q : Nat, q < H.size → ¬ Ad ad n q → H1[q]? = H[q]?) → W p l e R s m args below meth c H1 locs1 cells slots Q (F0 m (pc + 3) ls (.int r :: rest))) : W p l e R s m args below meth c H locs cells slots Q (F0 m pc ls st0) := by
  refine va_calli (va_runV (As := As) (rest := rest) S hM cw ⟨PW_blind, va_recv hK hP (ci := ci) (q0 := k) hc (sg_atE hk hMk), fun U hU hW => ⟨rfl, by rw [hU]; exact hP, va_K.moved hW.alike hK⟩⟩ rfl hn hsize hst (lv_room hW) hdg hcl) hS (fun q _ h => hA q h) hA (fun r u t H1 locs1 ht hvm hw hB hz hk1 hS1 => ?_)
  have h1 := hB.1
  rw [ht] at h1
  exact kk r u H1 locs1 hw h1 hS1 hz hk1
theorem k_Si {post : Int32 → (Nat → va_E) → Prop} (S : CallFix p m c cc nL s args Ts own) (hK : va_K D vwCl (tysC cs) s) (hP : va_P D vwCl (sg ad n M) H) (hS : va_S A0 H0 H locs) (hA : ∀ q, Ad ad n q → A0 q) (hM : CTi l y ws rm D cs ad n M As post) (cw : CallB R s args own index y bytes maxL ret ws rm 0 0 nn ∧ (Cond.static y).before args s = true) (hst : st0 = As.reverse ++ rest) (hn : As.length = nn) (hsize : ls.size = nL) (hW : (rest.map fun v => v.category).sum ≤ 8) (hdg : decode cc pc = .ok (.invokestatic index, 3)) (hcl : cells ≤ R.cells ∧ slots ≤ R.slots)
    (kk : ∀ (r : Int32) (M1 : Nat → va_E) (H1 : Heap) (locs1 : List Loc), post r M1 → va_P D vwCl (sg ad n M1) H1 → va_S A0 H0 H1 locs1 → H.size ≤ H1.size → (∀ q : Nat, q < H.size → ¬ Ad ad n q → H1[q]? = H[q]?) → W p l e R s m args below meth c H1 locs1 cells slots Q (F0 m (pc + 3) ls (.int r :: rest))) : W p l e R s m args below meth c H locs cells slots Q (F0 m pc ls st0) := by
  refine va_calli (va_runS (As := As) (rest := rest) S hM cw ⟨PW_blind, fun U hU hW => ⟨rfl, by rw [hU]; exact hP, va_K.moved hW.alike hK⟩⟩ rfl hn hsize hst (lv_room hW) hdg hcl) hS (fun q _ h => hA q h) hA (fun r u t H1 locs1 ht hvm hw hB hz hk1 hS1 => ?_)
  have h1 := hB.1
  rw [ht] at h1
  exact kk r u H1 locs1 hw h1 hS1 hz hk1
theorem k_Vf {post : UInt32 → (Nat → va_E) → Prop} {k ci : Nat} {fs : List Value} {T : u_T} {N : Nat} (S : CallFix p m c cc nL s args Ts own) (hK : va_K D vwCl (tysC cs) s) (hP : va_P D vwCl (sg ad n M) H) (hS : va_S A0 H0 H locs) (hA : ∀ q, Ad ad n q → A0 q) (hM : CTf l y ws rm D cs ad n M (.ref (ad k) :: As) post) (cw : CallW R s args own C index y bytes maxL ret ws rm 0 0 nn) (hk : k < n) (hMk : M k = .inr (ci, fs)) (hc : vwCl[ci]? = some (C, T, N)) (hst : st0 = As.reverse ++ .ref (ad k) :: rest) (hn : As.length = nn) (hsize : ls.size = nL) (hW : (rest.map fun v => v.category).sum ≤ 8) (hdg : decode cc pc = .ok (.invokevirtual index, 3)) (hcl : cells ≤ R.cells ∧ slots ≤ R.slots)
    (kk : ∀ (r : UInt32) (M1 : Nat → va_E) (H1 : Heap) (locs1 : List Loc), post r M1 → va_P D vwCl (sg ad n M1) H1 → va_S A0 H0 H1 locs1 → H.size ≤ H1.size → (∀ q : Nat, q < H.size → ¬ Ad ad n q → H1[q]? = H[q]?) → W p l e R s m args below meth c H1 locs1 cells slots Q (F0 m (pc + 3) ls (.float r :: rest))) : W p l e R s m args below meth c H locs cells slots Q (F0 m pc ls st0) := by
  refine va_callf (va_runV (As := As) (rest := rest) S hM cw ⟨PW_blind, va_recv hK hP (ci := ci) (q0 := k) hc (sg_atE hk hMk), fun U hU hW => ⟨rfl, by rw [hU]; exact hP, va_K.moved hW.alike hK⟩⟩ rfl hn hsize hst (lv_room hW) hdg hcl) hS (fun q _ h => hA q h) hA (fun r u t H1 locs1 ht hvm hw hB hz hk1 hS1 => ?_)
  have h1 := hB.1
  rw [ht] at h1
  exact kk r u H1 locs1 hw h1 hS1 hz hk1
theorem k_Sf {post : UInt32 → (Nat → va_E) → Prop} (S : CallFix p m c cc nL s args Ts own) (hK : va_K D vwCl (tysC cs) s) (hP : va_P D vwCl (sg ad n M) H) (hS : va_S A0 H0 H locs) (hA : ∀ q, Ad ad n q → A0 q) (hM : CTf l y ws rm D cs ad n M As post) (cw : CallB R s args own index y bytes maxL ret ws rm 0 0 nn ∧ (Cond.static y).before args s = true) (hst : st0 = As.reverse ++ rest) (hn : As.length = nn) (hsize : ls.size = nL) (hW : (rest.map fun v => v.category).sum ≤ 8) (hdg : decode cc pc = .ok (.invokestatic index, 3)) (hcl : cells ≤ R.cells ∧ slots ≤ R.slots)
    (kk : ∀ (r : UInt32) (M1 : Nat → va_E) (H1 : Heap) (locs1 : List Loc), post r M1 → va_P D vwCl (sg ad n M1) H1 → va_S A0 H0 H1 locs1 → H.size ≤ H1.size → (∀ q : Nat, q < H.size → ¬ Ad ad n q → H1[q]? = H[q]?) → W p l e R s m args below meth c H1 locs1 cells slots Q (F0 m (pc + 3) ls (.float r :: rest))) : W p l e R s m args below meth c H locs cells slots Q (F0 m pc ls st0) := by
  refine va_callf (va_runS (As := As) (rest := rest) S hM cw ⟨PW_blind, fun U hU hW => ⟨rfl, by rw [hU]; exact hP, va_K.moved hW.alike hK⟩⟩ rfl hn hsize hst (lv_room hW) hdg hcl) hS (fun q _ h => hA q h) hA (fun r u t H1 locs1 ht hvm hw hB hz hk1 hS1 => ?_)
  have h1 := hB.1
  rw [ht] at h1
  exact kk r u H1 locs1 hw h1 hS1 hz hk1
theorem k_Vd {post : UInt64 → (Nat → va_E) → Prop} {k ci : Nat} {fs : List Value} {T : u_T} {N : Nat} (S : CallFix p m c cc nL s args Ts own) (hK : va_K D vwCl (tysC cs) s) (hP : va_P D vwCl (sg ad n M) H) (hS : va_S A0 H0 H locs) (hA : ∀ q, Ad ad n q → A0 q) (hM : CTd l y ws rm D cs ad n M (.ref (ad k) :: As) post) (cw : CallW R s args own C index y bytes maxL ret ws rm 0 0 nn) (hk : k < n) (hMk : M k = .inr (ci, fs)) (hc : vwCl[ci]? = some (C, T, N)) (hst : st0 = As.reverse ++ .ref (ad k) :: rest) (hn : As.length = nn) (hsize : ls.size = nL) (hW : (rest.map fun v => v.category).sum ≤ 8) (hdg : decode cc pc = .ok (.invokevirtual index, 3)) (hcl : cells ≤ R.cells ∧ slots ≤ R.slots)
    (kk : ∀ (r : UInt64) (M1 : Nat → va_E) (H1 : Heap) (locs1 : List Loc), post r M1 → va_P D vwCl (sg ad n M1) H1 → va_S A0 H0 H1 locs1 → H.size ≤ H1.size → (∀ q : Nat, q < H.size → ¬ Ad ad n q → H1[q]? = H[q]?) → W p l e R s m args below meth c H1 locs1 cells slots Q (F0 m (pc + 3) ls (.double r :: rest))) : W p l e R s m args below meth c H locs cells slots Q (F0 m pc ls st0) := by
  refine va_calld (va_runV (As := As) (rest := rest) S hM cw ⟨PW_blind, va_recv hK hP (ci := ci) (q0 := k) hc (sg_atE hk hMk), fun U hU hW => ⟨rfl, by rw [hU]; exact hP, va_K.moved hW.alike hK⟩⟩ rfl hn hsize hst (lv_room hW) hdg hcl) hS (fun q _ h => hA q h) hA (fun r u t H1 locs1 ht hvm hw hB hz hk1 hS1 => ?_)
  have h1 := hB.1
  rw [ht] at h1
  exact kk r u H1 locs1 hw h1 hS1 hz hk1
theorem k_Sd {post : UInt64 → (Nat → va_E) → Prop} (S : CallFix p m c cc nL s args Ts own) (hK : va_K D vwCl (tysC cs) s) (hP : va_P D vwCl (sg ad n M) H) (hS : va_S A0 H0 H locs) (hA : ∀ q, Ad ad n q → A0 q) (hM : CTd l y ws rm D cs ad n M As post) (cw : CallB R s args own index y bytes maxL ret ws rm 0 0 nn ∧ (Cond.static y).before args s = true) (hst : st0 = As.reverse ++ rest) (hn : As.length = nn) (hsize : ls.size = nL) (hW : (rest.map fun v => v.category).sum ≤ 8) (hdg : decode cc pc = .ok (.invokestatic index, 3)) (hcl : cells ≤ R.cells ∧ slots ≤ R.slots)
    (kk : ∀ (r : UInt64) (M1 : Nat → va_E) (H1 : Heap) (locs1 : List Loc), post r M1 → va_P D vwCl (sg ad n M1) H1 → va_S A0 H0 H1 locs1 → H.size ≤ H1.size → (∀ q : Nat, q < H.size → ¬ Ad ad n q → H1[q]? = H[q]?) → W p l e R s m args below meth c H1 locs1 cells slots Q (F0 m (pc + 3) ls (.double r :: rest))) : W p l e R s m args below meth c H locs cells slots Q (F0 m pc ls st0) := by
  refine va_calld (va_runS (As := As) (rest := rest) S hM cw ⟨PW_blind, fun U hU hW => ⟨rfl, by rw [hU]; exact hP, va_K.moved hW.alike hK⟩⟩ rfl hn hsize hst (lv_room hW) hdg hcl) hS (fun q _ h => hA q h) hA (fun r u t H1 locs1 ht hvm hw hB hz hk1 hS1 => ?_)
  have h1 := hB.1
  rw [ht] at h1
  exact kk r u H1 locs1 hw h1 hS1 hz hk1
theorem k_Vq {post : Option Nat → (Nat → va_E) → Prop} {k ci : Nat} {fs : List Value} {T : u_T} {N : Nat} (S : CallFix p m c cc nL s args Ts own) (hK : va_K D vwCl (tysC cs) s) (hP : va_P D vwCl (sg ad n M) H) (hS : va_S A0 H0 H locs) (hA : ∀ q, Ad ad n q → A0 q) (hM : CTq l y ws rm D cs ad n M (.ref (ad k) :: As) post) (cw : CallW R s args own C index y bytes maxL ret ws rm 0 0 nn) (hk : k < n) (hMk : M k = .inr (ci, fs)) (hc : vwCl[ci]? = some (C, T, N)) (hst : st0 = As.reverse ++ .ref (ad k) :: rest) (hn : As.length = nn) (hsize : ls.size = nL) (hW : (rest.map fun v => v.category).sum ≤ 8) (hdg : decode cc pc = .ok (.invokevirtual index, 3)) (hcl : cells ≤ R.cells ∧ slots ≤ R.slots)
    (kk : ∀ (r : Option Nat) (M1 : Nat → va_E) (H1 : Heap) (locs1 : List Loc), post r M1 → va_P D vwCl (sg ad n M1) H1 → va_S A0 H0 H1 locs1 → H.size ≤ H1.size → (∀ q : Nat, q < H.size → ¬ Ad ad n q → H1[q]? = H[q]?) → W p l e R s m args below meth c H1 locs1 cells slots Q (F0 m (pc + 3) ls (va_rf r :: rest))) : W p l e R s m args below meth c H locs cells slots Q (F0 m pc ls st0) := by
  refine va_callq (va_runV (As := As) (rest := rest) S hM cw ⟨PW_blind, va_recv hK hP (ci := ci) (q0 := k) hc (sg_atE hk hMk), fun U hU hW => ⟨rfl, by rw [hU]; exact hP, va_K.moved hW.alike hK⟩⟩ rfl hn hsize hst (lv_room hW) hdg hcl) hS (fun q _ h => hA q h) hA (fun r u t H1 locs1 ht hvm hw hB hz hk1 hS1 => ?_)
  have h1 := hB.1
  rw [ht] at h1
  exact kk r u H1 locs1 hw h1 hS1 hz hk1
theorem k_Sq {post : Option Nat → (Nat → va_E) → Prop} (S : CallFix p m c cc nL s args Ts own) (hK : va_K D vwCl (tysC cs) s) (hP : va_P D vwCl (sg ad n M) H) (hS : va_S A0 H0 H locs) (hA : ∀ q, Ad ad n q → A0 q) (hM : CTq l y ws rm D cs ad n M As post) (cw : CallB R s args own index y bytes maxL ret ws rm 0 0 nn ∧ (Cond.static y).before args s = true) (hst : st0 = As.reverse ++ rest) (hn : As.length = nn) (hsize : ls.size = nL) (hW : (rest.map fun v => v.category).sum ≤ 8) (hdg : decode cc pc = .ok (.invokestatic index, 3)) (hcl : cells ≤ R.cells ∧ slots ≤ R.slots)
    (kk : ∀ (r : Option Nat) (M1 : Nat → va_E) (H1 : Heap) (locs1 : List Loc), post r M1 → va_P D vwCl (sg ad n M1) H1 → va_S A0 H0 H1 locs1 → H.size ≤ H1.size → (∀ q : Nat, q < H.size → ¬ Ad ad n q → H1[q]? = H[q]?) → W p l e R s m args below meth c H1 locs1 cells slots Q (F0 m (pc + 3) ls (va_rf r :: rest))) : W p l e R s m args below meth c H locs cells slots Q (F0 m pc ls st0) := by
  refine va_callq (va_runS (As := As) (rest := rest) S hM cw ⟨PW_blind, fun U hU hW => ⟨rfl, by rw [hU]; exact hP, va_K.moved hW.alike hK⟩⟩ rfl hn hsize hst (lv_room hW) hdg hcl) hS (fun q _ h => hA q h) hA (fun r u t H1 locs1 ht hvm hw hB hz hk1 hS1 => ?_)
  have h1 := hB.1
  rw [ht] at h1
  exact kk r u H1 locs1 hw h1 hS1 hz hk1
theorem k_Vv {post : (Nat → va_E) → Prop} {k ci : Nat} {fs : List Value} {T : u_T} {N : Nat} (S : CallFix p m c cc nL s args Ts own) (hK : va_K D vwCl (tysC cs) s) (hP : va_P D vwCl (sg ad n M) H) (hS : va_S A0 H0 H locs) (hA : ∀ q, Ad ad n q → A0 q) (hM : CTv l y ws rm D cs ad n M (.ref (ad k) :: As) post) (cw : CallW R s args own C index y bytes maxL ret ws rm 0 0 nn) (hk : k < n) (hMk : M k = .inr (ci, fs)) (hc : vwCl[ci]? = some (C, T, N)) (hst : st0 = As.reverse ++ .ref (ad k) :: rest) (hn : As.length = nn) (hsize : ls.size = nL) (hW : (rest.map fun v => v.category).sum ≤ 8) (hdg : decode cc pc = .ok (.invokevirtual index, 3)) (hcl : cells ≤ R.cells ∧ slots ≤ R.slots)
    (kk : ∀ (M1 : Nat → va_E) (H1 : Heap) (locs1 : List Loc), post M1 → va_P D vwCl (sg ad n M1) H1 → va_S A0 H0 H1 locs1 → H.size ≤ H1.size → (∀ q : Nat, q < H.size → ¬ Ad ad n q → H1[q]? = H[q]?) → W p l e R s m args below meth c H1 locs1 cells slots Q (F0 m (pc + 3) ls rest)) : W p l e R s m args below meth c H locs cells slots Q (F0 m pc ls st0) := by
  refine va_callv (va_runV (As := As) (rest := rest) S hM cw ⟨PW_blind, va_recv hK hP (ci := ci) (q0 := k) hc (sg_atE hk hMk), fun U hU hW => ⟨rfl, by rw [hU]; exact hP, va_K.moved hW.alike hK⟩⟩ rfl hn hsize hst (lv_room hW) hdg hcl) hS (fun q _ h => hA q h) hA (fun u t H1 locs1 ht hvm hw hB hz hk1 hS1 => ?_)
  have h1 := hB.1
  rw [ht] at h1
  exact kk u H1 locs1 hw h1 hS1 hz hk1
theorem k_Sv {post : (Nat → va_E) → Prop} (S : CallFix p m c cc nL s args Ts own) (hK : va_K D vwCl (tysC cs) s) (hP : va_P D vwCl (sg ad n M) H) (hS : va_S A0 H0 H locs) (hA : ∀ q, Ad ad n q → A0 q) (hM : CTv l y ws rm D cs ad n M As post) (cw : CallB R s args own index y bytes maxL ret ws rm 0 0 nn ∧ (Cond.static y).before args s = true) (hst : st0 = As.reverse ++ rest) (hn : As.length = nn) (hsize : ls.size = nL) (hW : (rest.map fun v => v.category).sum ≤ 8) (hdg : decode cc pc = .ok (.invokestatic index, 3)) (hcl : cells ≤ R.cells ∧ slots ≤ R.slots)
    (kk : ∀ (M1 : Nat → va_E) (H1 : Heap) (locs1 : List Loc), post M1 → va_P D vwCl (sg ad n M1) H1 → va_S A0 H0 H1 locs1 → H.size ≤ H1.size → (∀ q : Nat, q < H.size → ¬ Ad ad n q → H1[q]? = H[q]?) → W p l e R s m args below meth c H1 locs1 cells slots Q (F0 m (pc + 3) ls rest)) : W p l e R s m args below meth c H locs cells slots Q (F0 m pc ls st0) := by
  refine va_callv (va_runS (As := As) (rest := rest) S hM cw ⟨PW_blind, fun U hU hW => ⟨rfl, by rw [hU]; exact hP, va_K.moved hW.alike hK⟩⟩ rfl hn hsize hst (lv_room hW) hdg hcl) hS (fun q _ h => hA q h) hA (fun u t H1 locs1 ht hvm hw hB hz hk1 hS1 => ?_)
  have h1 := hB.1
  rw [ht] at h1
  exact kk u H1 locs1 hw h1 hS1 hz hk1
theorem r_i {post : Int32 → (Nat → va_E) → Prop} {v : Int32} (hx : p.tables.exec = Jvm.exec) (hb : c.code = cc) (hr : meth.sig.returnType = some .int) (hlocks : meth.locks = false) (hK : va_K D vwCl (tysC cs) s) (hP : va_P D vwCl (sg ad n M) H) (hS : va_S (Ad ad n) s.heap H locs) (hdg : decode cc pc = .ok (.ireturn, 1)) (hpost : post v M) : W p l e R s m args below meth c H locs cells slots (MQ below (va_Qi post (PW D cs ad n) (Ad ad n)) args s cells slots (Ad ad n)) (F0 m pc ls [.int v]) :=
  W.iret (v := v) hx hb hr (fun t ht hW => ⟨⟨v, M, rfl, hpost, by rw [ht]; exact hP, va_K.moved hW.alike hK⟩, hS.F ht⟩) hS.2.2 hdg
theorem r_z {post : Int32 → (Nat → va_E) → Prop} {v : Int32} (hx : p.tables.exec = Jvm.exec) (hb : c.code = cc) (hr : meth.sig.returnType = some .boolean) (hlocks : meth.locks = false) (hK : va_K D vwCl (tysC cs) s) (hP : va_P D vwCl (sg ad n M) H) (hS : va_S (Ad ad n) s.heap H locs) (hdg : decode cc pc = .ok (.ireturn, 1)) (hn : narrow .boolean (.int v) = .int v) (hpost : post v M) : W p l e R s m args below meth c H locs cells slots (MQ below (va_Qi post (PW D cs ad n) (Ad ad n)) args s cells slots (Ad ad n)) (F0 m pc ls [.int v]) :=
  W.zret (v := v) hx hb hr hn (fun t ht hW => ⟨⟨v, M, rfl, hpost, by rw [ht]; exact hP, va_K.moved hW.alike hK⟩, hS.F ht⟩) hS.2.2 hdg
theorem r_f {post : UInt32 → (Nat → va_E) → Prop} {v : UInt32} (hx : p.tables.exec = Jvm.exec) (hb : c.code = cc) (hr : meth.sig.returnType = some .float) (hlocks : meth.locks = false) (hK : va_K D vwCl (tysC cs) s) (hP : va_P D vwCl (sg ad n M) H) (hS : va_S (Ad ad n) s.heap H locs) (hdg : decode cc pc = .ok (.freturn, 1)) (hpost : post v M) : W p l e R s m args below meth c H locs cells slots (MQ below (va_Qf post (PW D cs ad n) (Ad ad n)) args s cells slots (Ad ad n)) (F0 m pc ls [.float v]) :=
  W.fret (v := v) hx hb hr (fun t ht hW => ⟨⟨v, M, rfl, hpost, by rw [ht]; exact hP, va_K.moved hW.alike hK⟩, hS.F ht⟩) hS.2.2 hdg
theorem r_d {post : UInt64 → (Nat → va_E) → Prop} {v : UInt64} (hx : p.tables.exec = Jvm.exec) (hb : c.code = cc) (hr : meth.sig.returnType = some .double) (hlocks : meth.locks = false) (hK : va_K D vwCl (tysC cs) s) (hP : va_P D vwCl (sg ad n M) H) (hS : va_S (Ad ad n) s.heap H locs) (hdg : decode cc pc = .ok (.dreturn, 1)) (hpost : post v M) : W p l e R s m args below meth c H locs cells slots (MQ below (va_Qd post (PW D cs ad n) (Ad ad n)) args s cells slots (Ad ad n)) (F0 m pc ls [.double v]) :=
  W.dret (v := v) hx hb hr (fun t ht hW => ⟨⟨v, M, rfl, hpost, by rw [ht]; exact hP, va_K.moved hW.alike hK⟩, hS.F ht⟩) hS.2.2 hdg
theorem r_v {post : (Nat → va_E) → Prop} (hx : p.tables.exec = Jvm.exec) (hb : c.code = cc) (hr : meth.sig.returnType = none) (hlocks : meth.locks = false) (hK : va_K D vwCl (tysC cs) s) (hP : va_P D vwCl (sg ad n M) H) (hS : va_S (Ad ad n) s.heap H locs) (hdg : decode cc pc = .ok (.return_, 1)) (hpost : post M) : W p l e R s m args below meth c H locs cells slots (MQ below (va_Qv post (PW D cs ad n) (Ad ad n)) args s cells slots (Ad ad n)) (F0 m pc ls []) :=
  W.vret hx hb hr (fun t ht hW => ⟨⟨M, rfl, hpost, by rw [ht]; exact hP, va_K.moved hW.alike hK⟩, hS.F ht⟩) hS.2.2 hdg
theorem r_q {post : Option Nat → (Nat → va_E) → Prop} {v : Option Nat} {C0 : String} (hx : p.tables.exec = Jvm.exec) (hb : c.code = cc) (hr : meth.sig.returnType = some (.object C0)) (hlocks : meth.locks = false) (hK : va_K D vwCl (tysC cs) s) (hP : va_P D vwCl (sg ad n M) H) (hS : va_S (Ad ad n) s.heap H locs) (hdg : decode cc pc = .ok (.areturn, 1)) (hpost : post v M) : W p l e R s m args below meth c H locs cells slots (MQ below (va_Qq post (PW D cs ad n) (Ad ad n)) args s cells slots (Ad ad n)) (F0 m pc ls [va_rf v]) :=
  W.aret (v := va_rf v) hx hb hr (Or.inl ⟨_, rfl⟩) (va_rf_or v) (fun t ht hW => ⟨⟨v, M, rfl, hpost, by rw [ht]; exact hP, va_K.moved hW.alike hK⟩, hS.F ht⟩) hS.2.2 hdg
end RCL
end
section
/-! the reference's state: the rows of ints by the number of their field, those of floats, the row of longs, the row of doubles -/
abbrev SS : Type := (Nat → Nat → Int32) × (Nat → Nat → UInt32) × (Nat → Int64) × (Nat → UInt64)
def sI (S : SS) (a : Nat) (g : Nat → Int32) : SS := (va_up S.1 a g, S.2)
def sF (S : SS) (a : Nat) (g : Nat → UInt32) : SS := (S.1, va_up S.2.1 a g, S.2.2)
def sB (S : SS) (g : Nat → Int64) : SS := (S.1, S.2.1, g, S.2.2.2)
def sD (S : SS) (g : Nat → UInt64) : SS := (S.1, S.2.1, S.2.2.1, g)
/-- the cells of the reference: place 0 the object, place k the row of its field k + 1 -/
def mm (ad : Nat → Nat) (cs : Nat → ClassId) (d w : Int32) (S : SS) (np ns : UInt32) : Nat → va_E := fun k => match k with
  | 0 => .inr (7, [.int d, .int w, .ref (ad 1), .ref (ad 2), .ref (ad 3), .ref (ad 4), .ref (ad 5), .ref (ad 6), .ref (ad 7), .ref (ad 8), .ref (ad 9), .ref (ad 10), .ref (ad 11), .ref (ad 12), .ref (ad 13), .ref (ad 14), .ref (ad 15), .ref (ad 16), .ref (ad 17), .ref (ad 18), .ref (ad 19), .ref (ad 20), .ref (ad 21), .ref (ad 22), .ref (ad 23), .ref (ad 24), .ref (ad 25), .float np, .float ns])
  | 1 => eI cs 2 (S.1 2)
  | 2 => eI cs 2 (S.1 3)
  | 3 => eI cs 2 (S.1 4)
  | 4 => eI cs 2 (S.1 5)
  | 5 => eZ cs 2 (S.1 6)
  | 6 => eS cs 2 (S.1 7)
  | 7 => eS cs 2 (S.1 8)
  | 8 => eF cs 2 (S.2.1 9)
  | 9 => eI cs 2400 (S.1 10)
  | 10 => eI cs 2400 (S.1 11)
  | 11 => eI cs 4 (S.1 12)
  | 12 => eF cs 1200 (S.2.1 13)
  | 13 => eF cs 1200 (S.2.1 14)
  | 14 => eF cs 1200 (S.2.1 15)
  | 15 => eF cs 1200 (S.2.1 16)
  | 16 => eI cs 1200 (S.1 17)
  | 17 => eD cs 1200 S.2.2.2
  | 18 => eI cs 2 (S.1 19)
  | 19 => eS cs 25 (S.1 20)
  | 20 => eI cs 25 (S.1 21)
  | 21 => eI cs 25 (S.1 22)
  | 22 => eI cs 25 (S.1 23)
  | 23 => eI cs 25 (S.1 24)
  | 24 => eJ cs 25 S.2.2.1
  | 25 => eI cs 25 (S.1 26)
  | _ => eI cs 0 (fun _ => 0)
theorem mm_up2 {ad : Nat → Nat} {cs : Nat → ClassId} {d w : Int32} {S : SS} {np ns : UInt32} {g : Nat → Int32} : va_up (mm ad cs d w S np ns) 1 (eI cs 2 g) = mm ad cs d w (sI S 2 g) np ns := by
  funext j
  by_cases h : j = 1
  · subst h; rfl
  · rw [va_up_ne _ _ h]
    match j, h with
    | 0, _ => rfl
    | 1, h => exact absurd rfl h
    | 2, _ => rfl
    | 3, _ => rfl
    | 4, _ => rfl
    | 5, _ => rfl
    | 6, _ => rfl
    | 7, _ => rfl
    | 8, _ => rfl
    | 9, _ => rfl
    | 10, _ => rfl
    | 11, _ => rfl
    | 12, _ => rfl
    | 13, _ => rfl
    | 14, _ => rfl
    | 15, _ => rfl
    | 16, _ => rfl
    | 17, _ => rfl
    | 18, _ => rfl
    | 19, _ => rfl
    | 20, _ => rfl
    | 21, _ => rfl
    | 22, _ => rfl
    | 23, _ => rfl
    | 24, _ => rfl
    | 25, _ => rfl
    | _ + 26, _ => rfl
theorem mm_up3 {ad : Nat → Nat} {cs : Nat → ClassId} {d w : Int32} {S : SS} {np ns : UInt32} {g : Nat → Int32} : va_up (mm ad cs d w S np ns) 2 (eI cs 2 g) = mm ad cs d w (sI S 3 g) np ns := by
  funext j
  by_cases h : j = 2
  · subst h; rfl
  · rw [va_up_ne _ _ h]
    match j, h with
    | 0, _ => rfl
    | 1, _ => rfl
    | 2, h => exact absurd rfl h
    | 3, _ => rfl
    | 4, _ => rfl
    | 5, _ => rfl
    | 6, _ => rfl
    | 7, _ => rfl
    | 8, _ => rfl
    | 9, _ => rfl
    | 10, _ => rfl
    | 11, _ => rfl
    | 12, _ => rfl
    | 13, _ => rfl
    | 14, _ => rfl
    | 15, _ => rfl
    | 16, _ => rfl
    | 17, _ => rfl
    | 18, _ => rfl
    | 19, _ => rfl
    | 20, _ => rfl
    | 21, _ => rfl
    | 22, _ => rfl
    | 23, _ => rfl
    | 24, _ => rfl
    | 25, _ => rfl
    | _ + 26, _ => rfl
theorem mm_up4 {ad : Nat → Nat} {cs : Nat → ClassId} {d w : Int32} {S : SS} {np ns : UInt32} {g : Nat → Int32} : va_up (mm ad cs d w S np ns) 3 (eI cs 2 g) = mm ad cs d w (sI S 4 g) np ns := by
  funext j
  by_cases h : j = 3
  · subst h; rfl
  · rw [va_up_ne _ _ h]
    match j, h with
    | 0, _ => rfl
    | 1, _ => rfl
    | 2, _ => rfl
    | 3, h => exact absurd rfl h
    | 4, _ => rfl
    | 5, _ => rfl
    | 6, _ => rfl
    | 7, _ => rfl
    | 8, _ => rfl
    | 9, _ => rfl
    | 10, _ => rfl
    | 11, _ => rfl
    | 12, _ => rfl
    | 13, _ => rfl
    | 14, _ => rfl
    | 15, _ => rfl
    | 16, _ => rfl
    | 17, _ => rfl
    | 18, _ => rfl
    | 19, _ => rfl
    | 20, _ => rfl
    | 21, _ => rfl
    | 22, _ => rfl
    | 23, _ => rfl
    | 24, _ => rfl
    | 25, _ => rfl
    | _ + 26, _ => rfl
theorem mm_up5 {ad : Nat → Nat} {cs : Nat → ClassId} {d w : Int32} {S : SS} {np ns : UInt32} {g : Nat → Int32} : va_up (mm ad cs d w S np ns) 4 (eI cs 2 g) = mm ad cs d w (sI S 5 g) np ns := by
  funext j
  by_cases h : j = 4
  · subst h; rfl
  · rw [va_up_ne _ _ h]
    match j, h with
    | 0, _ => rfl
    | 1, _ => rfl
    | 2, _ => rfl
    | 3, _ => rfl
    | 4, h => exact absurd rfl h
    | 5, _ => rfl
    | 6, _ => rfl
    | 7, _ => rfl
    | 8, _ => rfl
    | 9, _ => rfl
    | 10, _ => rfl
    | 11, _ => rfl
    | 12, _ => rfl
    | 13, _ => rfl
    | 14, _ => rfl
    | 15, _ => rfl
    | 16, _ => rfl
    | 17, _ => rfl
    | 18, _ => rfl
    | 19, _ => rfl
    | 20, _ => rfl
    | 21, _ => rfl
    | 22, _ => rfl
    | 23, _ => rfl
    | 24, _ => rfl
    | 25, _ => rfl
    | _ + 26, _ => rfl
theorem mm_up6 {ad : Nat → Nat} {cs : Nat → ClassId} {d w : Int32} {S : SS} {np ns : UInt32} {g : Nat → Int32} : va_up (mm ad cs d w S np ns) 5 (eZ cs 2 g) = mm ad cs d w (sI S 6 g) np ns := by
  funext j
  by_cases h : j = 5
  · subst h; rfl
  · rw [va_up_ne _ _ h]
    match j, h with
    | 0, _ => rfl
    | 1, _ => rfl
    | 2, _ => rfl
    | 3, _ => rfl
    | 4, _ => rfl
    | 5, h => exact absurd rfl h
    | 6, _ => rfl
    | 7, _ => rfl
    | 8, _ => rfl
    | 9, _ => rfl
    | 10, _ => rfl
    | 11, _ => rfl
    | 12, _ => rfl
    | 13, _ => rfl
    | 14, _ => rfl
    | 15, _ => rfl
    | 16, _ => rfl
    | 17, _ => rfl
    | 18, _ => rfl
    | 19, _ => rfl
    | 20, _ => rfl
    | 21, _ => rfl
    | 22, _ => rfl
    | 23, _ => rfl
    | 24, _ => rfl
    | 25, _ => rfl
    | _ + 26, _ => rfl
theorem mm_up7 {ad : Nat → Nat} {cs : Nat → ClassId} {d w : Int32} {S : SS} {np ns : UInt32} {g : Nat → Int32} : va_up (mm ad cs d w S np ns) 6 (eS cs 2 g) = mm ad cs d w (sI S 7 g) np ns := by
  funext j
  by_cases h : j = 6
  · subst h; rfl
  · rw [va_up_ne _ _ h]
    match j, h with
    | 0, _ => rfl
    | 1, _ => rfl
    | 2, _ => rfl
    | 3, _ => rfl
    | 4, _ => rfl
    | 5, _ => rfl
    | 6, h => exact absurd rfl h
    | 7, _ => rfl
    | 8, _ => rfl
    | 9, _ => rfl
    | 10, _ => rfl
    | 11, _ => rfl
    | 12, _ => rfl
    | 13, _ => rfl
    | 14, _ => rfl
    | 15, _ => rfl
    | 16, _ => rfl
    | 17, _ => rfl
    | 18, _ => rfl
    | 19, _ => rfl
    | 20, _ => rfl
    | 21, _ => rfl
    | 22, _ => rfl
    | 23, _ => rfl
    | 24, _ => rfl
    | 25, _ => rfl
    | _ + 26, _ => rfl
theorem mm_up8 {ad : Nat → Nat} {cs : Nat → ClassId} {d w : Int32} {S : SS} {np ns : UInt32} {g : Nat → Int32} : va_up (mm ad cs d w S np ns) 7 (eS cs 2 g) = mm ad cs d w (sI S 8 g) np ns := by
  funext j
  by_cases h : j = 7
  · subst h; rfl
  · rw [va_up_ne _ _ h]
    match j, h with
    | 0, _ => rfl
    | 1, _ => rfl
    | 2, _ => rfl
    | 3, _ => rfl
    | 4, _ => rfl
    | 5, _ => rfl
    | 6, _ => rfl
    | 7, h => exact absurd rfl h
    | 8, _ => rfl
    | 9, _ => rfl
    | 10, _ => rfl
    | 11, _ => rfl
    | 12, _ => rfl
    | 13, _ => rfl
    | 14, _ => rfl
    | 15, _ => rfl
    | 16, _ => rfl
    | 17, _ => rfl
    | 18, _ => rfl
    | 19, _ => rfl
    | 20, _ => rfl
    | 21, _ => rfl
    | 22, _ => rfl
    | 23, _ => rfl
    | 24, _ => rfl
    | 25, _ => rfl
    | _ + 26, _ => rfl
theorem mm_up9 {ad : Nat → Nat} {cs : Nat → ClassId} {d w : Int32} {S : SS} {np ns : UInt32} {g : Nat → UInt32} : va_up (mm ad cs d w S np ns) 8 (eF cs 2 g) = mm ad cs d w (sF S 9 g) np ns := by
  funext j
  by_cases h : j = 8
  · subst h; rfl
  · rw [va_up_ne _ _ h]
    match j, h with
    | 0, _ => rfl
    | 1, _ => rfl
    | 2, _ => rfl
    | 3, _ => rfl
    | 4, _ => rfl
    | 5, _ => rfl
    | 6, _ => rfl
    | 7, _ => rfl
    | 8, h => exact absurd rfl h
    | 9, _ => rfl
    | 10, _ => rfl
    | 11, _ => rfl
    | 12, _ => rfl
    | 13, _ => rfl
    | 14, _ => rfl
    | 15, _ => rfl
    | 16, _ => rfl
    | 17, _ => rfl
    | 18, _ => rfl
    | 19, _ => rfl
    | 20, _ => rfl
    | 21, _ => rfl
    | 22, _ => rfl
    | 23, _ => rfl
    | 24, _ => rfl
    | 25, _ => rfl
    | _ + 26, _ => rfl
theorem mm_up10 {ad : Nat → Nat} {cs : Nat → ClassId} {d w : Int32} {S : SS} {np ns : UInt32} {g : Nat → Int32} : va_up (mm ad cs d w S np ns) 9 (eI cs 2400 g) = mm ad cs d w (sI S 10 g) np ns := by
  funext j
  by_cases h : j = 9
  · subst h; rfl
  · rw [va_up_ne _ _ h]
    match j, h with
    | 0, _ => rfl
    | 1, _ => rfl
    | 2, _ => rfl
    | 3, _ => rfl
    | 4, _ => rfl
    | 5, _ => rfl
    | 6, _ => rfl
    | 7, _ => rfl
    | 8, _ => rfl
    | 9, h => exact absurd rfl h
    | 10, _ => rfl
    | 11, _ => rfl
    | 12, _ => rfl
    | 13, _ => rfl
    | 14, _ => rfl
    | 15, _ => rfl
    | 16, _ => rfl
    | 17, _ => rfl
    | 18, _ => rfl
    | 19, _ => rfl
    | 20, _ => rfl
    | 21, _ => rfl
    | 22, _ => rfl
    | 23, _ => rfl
    | 24, _ => rfl
    | 25, _ => rfl
    | _ + 26, _ => rfl
theorem mm_up11 {ad : Nat → Nat} {cs : Nat → ClassId} {d w : Int32} {S : SS} {np ns : UInt32} {g : Nat → Int32} : va_up (mm ad cs d w S np ns) 10 (eI cs 2400 g) = mm ad cs d w (sI S 11 g) np ns := by
  funext j
  by_cases h : j = 10
  · subst h; rfl
  · rw [va_up_ne _ _ h]
    match j, h with
    | 0, _ => rfl
    | 1, _ => rfl
    | 2, _ => rfl
    | 3, _ => rfl
    | 4, _ => rfl
    | 5, _ => rfl
    | 6, _ => rfl
    | 7, _ => rfl
    | 8, _ => rfl
    | 9, _ => rfl
    | 10, h => exact absurd rfl h
    | 11, _ => rfl
    | 12, _ => rfl
    | 13, _ => rfl
    | 14, _ => rfl
    | 15, _ => rfl
    | 16, _ => rfl
    | 17, _ => rfl
    | 18, _ => rfl
    | 19, _ => rfl
    | 20, _ => rfl
    | 21, _ => rfl
    | 22, _ => rfl
    | 23, _ => rfl
    | 24, _ => rfl
    | 25, _ => rfl
    | _ + 26, _ => rfl
theorem mm_up12 {ad : Nat → Nat} {cs : Nat → ClassId} {d w : Int32} {S : SS} {np ns : UInt32} {g : Nat → Int32} : va_up (mm ad cs d w S np ns) 11 (eI cs 4 g) = mm ad cs d w (sI S 12 g) np ns := by
  funext j
  by_cases h : j = 11
  · subst h; rfl
  · rw [va_up_ne _ _ h]
    match j, h with
    | 0, _ => rfl
    | 1, _ => rfl
    | 2, _ => rfl
    | 3, _ => rfl
    | 4, _ => rfl
    | 5, _ => rfl
    | 6, _ => rfl
    | 7, _ => rfl
    | 8, _ => rfl
    | 9, _ => rfl
    | 10, _ => rfl
    | 11, h => exact absurd rfl h
    | 12, _ => rfl
    | 13, _ => rfl
    | 14, _ => rfl
    | 15, _ => rfl
    | 16, _ => rfl
    | 17, _ => rfl
    | 18, _ => rfl
    | 19, _ => rfl
    | 20, _ => rfl
    | 21, _ => rfl
    | 22, _ => rfl
    | 23, _ => rfl
    | 24, _ => rfl
    | 25, _ => rfl
    | _ + 26, _ => rfl
theorem mm_up13 {ad : Nat → Nat} {cs : Nat → ClassId} {d w : Int32} {S : SS} {np ns : UInt32} {g : Nat → UInt32} : va_up (mm ad cs d w S np ns) 12 (eF cs 1200 g) = mm ad cs d w (sF S 13 g) np ns := by
  funext j
  by_cases h : j = 12
  · subst h; rfl
  · rw [va_up_ne _ _ h]
    match j, h with
    | 0, _ => rfl
    | 1, _ => rfl
    | 2, _ => rfl
    | 3, _ => rfl
    | 4, _ => rfl
    | 5, _ => rfl
    | 6, _ => rfl
    | 7, _ => rfl
    | 8, _ => rfl
    | 9, _ => rfl
    | 10, _ => rfl
    | 11, _ => rfl
    | 12, h => exact absurd rfl h
    | 13, _ => rfl
    | 14, _ => rfl
    | 15, _ => rfl
    | 16, _ => rfl
    | 17, _ => rfl
    | 18, _ => rfl
    | 19, _ => rfl
    | 20, _ => rfl
    | 21, _ => rfl
    | 22, _ => rfl
    | 23, _ => rfl
    | 24, _ => rfl
    | 25, _ => rfl
    | _ + 26, _ => rfl
theorem mm_up14 {ad : Nat → Nat} {cs : Nat → ClassId} {d w : Int32} {S : SS} {np ns : UInt32} {g : Nat → UInt32} : va_up (mm ad cs d w S np ns) 13 (eF cs 1200 g) = mm ad cs d w (sF S 14 g) np ns := by
  funext j
  by_cases h : j = 13
  · subst h; rfl
  · rw [va_up_ne _ _ h]
    match j, h with
    | 0, _ => rfl
    | 1, _ => rfl
    | 2, _ => rfl
    | 3, _ => rfl
    | 4, _ => rfl
    | 5, _ => rfl
    | 6, _ => rfl
    | 7, _ => rfl
    | 8, _ => rfl
    | 9, _ => rfl
    | 10, _ => rfl
    | 11, _ => rfl
    | 12, _ => rfl
    | 13, h => exact absurd rfl h
    | 14, _ => rfl
    | 15, _ => rfl
    | 16, _ => rfl
    | 17, _ => rfl
    | 18, _ => rfl
    | 19, _ => rfl
    | 20, _ => rfl
    | 21, _ => rfl
    | 22, _ => rfl
    | 23, _ => rfl
    | 24, _ => rfl
    | 25, _ => rfl
    | _ + 26, _ => rfl
theorem mm_up15 {ad : Nat → Nat} {cs : Nat → ClassId} {d w : Int32} {S : SS} {np ns : UInt32} {g : Nat → UInt32} : va_up (mm ad cs d w S np ns) 14 (eF cs 1200 g) = mm ad cs d w (sF S 15 g) np ns := by
  funext j
  by_cases h : j = 14
  · subst h; rfl
  · rw [va_up_ne _ _ h]
    match j, h with
    | 0, _ => rfl
    | 1, _ => rfl
    | 2, _ => rfl
    | 3, _ => rfl
    | 4, _ => rfl
    | 5, _ => rfl
    | 6, _ => rfl
    | 7, _ => rfl
    | 8, _ => rfl
    | 9, _ => rfl
    | 10, _ => rfl
    | 11, _ => rfl
    | 12, _ => rfl
    | 13, _ => rfl
    | 14, h => exact absurd rfl h
    | 15, _ => rfl
    | 16, _ => rfl
    | 17, _ => rfl
    | 18, _ => rfl
    | 19, _ => rfl
    | 20, _ => rfl
    | 21, _ => rfl
    | 22, _ => rfl
    | 23, _ => rfl
    | 24, _ => rfl
    | 25, _ => rfl
    | _ + 26, _ => rfl
theorem mm_up16 {ad : Nat → Nat} {cs : Nat → ClassId} {d w : Int32} {S : SS} {np ns : UInt32} {g : Nat → UInt32} : va_up (mm ad cs d w S np ns) 15 (eF cs 1200 g) = mm ad cs d w (sF S 16 g) np ns := by
  funext j
  by_cases h : j = 15
  · subst h; rfl
  · rw [va_up_ne _ _ h]
    match j, h with
    | 0, _ => rfl
    | 1, _ => rfl
    | 2, _ => rfl
    | 3, _ => rfl
    | 4, _ => rfl
    | 5, _ => rfl
    | 6, _ => rfl
    | 7, _ => rfl
    | 8, _ => rfl
    | 9, _ => rfl
    | 10, _ => rfl
    | 11, _ => rfl
    | 12, _ => rfl
    | 13, _ => rfl
    | 14, _ => rfl
    | 15, h => exact absurd rfl h
    | 16, _ => rfl
    | 17, _ => rfl
    | 18, _ => rfl
    | 19, _ => rfl
    | 20, _ => rfl
    | 21, _ => rfl
    | 22, _ => rfl
    | 23, _ => rfl
    | 24, _ => rfl
    | 25, _ => rfl
    | _ + 26, _ => rfl
theorem mm_up17 {ad : Nat → Nat} {cs : Nat → ClassId} {d w : Int32} {S : SS} {np ns : UInt32} {g : Nat → Int32} : va_up (mm ad cs d w S np ns) 16 (eI cs 1200 g) = mm ad cs d w (sI S 17 g) np ns := by
  funext j
  by_cases h : j = 16
  · subst h; rfl
  · rw [va_up_ne _ _ h]
    match j, h with
    | 0, _ => rfl
    | 1, _ => rfl
    | 2, _ => rfl
    | 3, _ => rfl
    | 4, _ => rfl
    | 5, _ => rfl
    | 6, _ => rfl
    | 7, _ => rfl
    | 8, _ => rfl
    | 9, _ => rfl
    | 10, _ => rfl
    | 11, _ => rfl
    | 12, _ => rfl
    | 13, _ => rfl
    | 14, _ => rfl
    | 15, _ => rfl
    | 16, h => exact absurd rfl h
    | 17, _ => rfl
    | 18, _ => rfl
    | 19, _ => rfl
    | 20, _ => rfl
    | 21, _ => rfl
    | 22, _ => rfl
    | 23, _ => rfl
    | 24, _ => rfl
    | 25, _ => rfl
    | _ + 26, _ => rfl
theorem mm_up18 {ad : Nat → Nat} {cs : Nat → ClassId} {d w : Int32} {S : SS} {np ns : UInt32} {g : Nat → UInt64} : va_up (mm ad cs d w S np ns) 17 (eD cs 1200 g) = mm ad cs d w (sD S g) np ns := by
  funext j
  by_cases h : j = 17
  · subst h; rfl
  · rw [va_up_ne _ _ h]
    match j, h with
    | 0, _ => rfl
    | 1, _ => rfl
    | 2, _ => rfl
    | 3, _ => rfl
    | 4, _ => rfl
    | 5, _ => rfl
    | 6, _ => rfl
    | 7, _ => rfl
    | 8, _ => rfl
    | 9, _ => rfl
    | 10, _ => rfl
    | 11, _ => rfl
    | 12, _ => rfl
    | 13, _ => rfl
    | 14, _ => rfl
    | 15, _ => rfl
    | 16, _ => rfl
    | 17, h => exact absurd rfl h
    | 18, _ => rfl
    | 19, _ => rfl
    | 20, _ => rfl
    | 21, _ => rfl
    | 22, _ => rfl
    | 23, _ => rfl
    | 24, _ => rfl
    | 25, _ => rfl
    | _ + 26, _ => rfl
theorem mm_up19 {ad : Nat → Nat} {cs : Nat → ClassId} {d w : Int32} {S : SS} {np ns : UInt32} {g : Nat → Int32} : va_up (mm ad cs d w S np ns) 18 (eI cs 2 g) = mm ad cs d w (sI S 19 g) np ns := by
  funext j
  by_cases h : j = 18
  · subst h; rfl
  · rw [va_up_ne _ _ h]
    match j, h with
    | 0, _ => rfl
    | 1, _ => rfl
    | 2, _ => rfl
    | 3, _ => rfl
    | 4, _ => rfl
    | 5, _ => rfl
    | 6, _ => rfl
    | 7, _ => rfl
    | 8, _ => rfl
    | 9, _ => rfl
    | 10, _ => rfl
    | 11, _ => rfl
    | 12, _ => rfl
    | 13, _ => rfl
    | 14, _ => rfl
    | 15, _ => rfl
    | 16, _ => rfl
    | 17, _ => rfl
    | 18, h => exact absurd rfl h
    | 19, _ => rfl
    | 20, _ => rfl
    | 21, _ => rfl
    | 22, _ => rfl
    | 23, _ => rfl
    | 24, _ => rfl
    | 25, _ => rfl
    | _ + 26, _ => rfl
theorem mm_up20 {ad : Nat → Nat} {cs : Nat → ClassId} {d w : Int32} {S : SS} {np ns : UInt32} {g : Nat → Int32} : va_up (mm ad cs d w S np ns) 19 (eS cs 25 g) = mm ad cs d w (sI S 20 g) np ns := by
  funext j
  by_cases h : j = 19
  · subst h; rfl
  · rw [va_up_ne _ _ h]
    match j, h with
    | 0, _ => rfl
    | 1, _ => rfl
    | 2, _ => rfl
    | 3, _ => rfl
    | 4, _ => rfl
    | 5, _ => rfl
    | 6, _ => rfl
    | 7, _ => rfl
    | 8, _ => rfl
    | 9, _ => rfl
    | 10, _ => rfl
    | 11, _ => rfl
    | 12, _ => rfl
    | 13, _ => rfl
    | 14, _ => rfl
    | 15, _ => rfl
    | 16, _ => rfl
    | 17, _ => rfl
    | 18, _ => rfl
    | 19, h => exact absurd rfl h
    | 20, _ => rfl
    | 21, _ => rfl
    | 22, _ => rfl
    | 23, _ => rfl
    | 24, _ => rfl
    | 25, _ => rfl
    | _ + 26, _ => rfl
theorem mm_up21 {ad : Nat → Nat} {cs : Nat → ClassId} {d w : Int32} {S : SS} {np ns : UInt32} {g : Nat → Int32} : va_up (mm ad cs d w S np ns) 20 (eI cs 25 g) = mm ad cs d w (sI S 21 g) np ns := by
  funext j
  by_cases h : j = 20
  · subst h; rfl
  · rw [va_up_ne _ _ h]
    match j, h with
    | 0, _ => rfl
    | 1, _ => rfl
    | 2, _ => rfl
    | 3, _ => rfl
    | 4, _ => rfl
    | 5, _ => rfl
    | 6, _ => rfl
    | 7, _ => rfl
    | 8, _ => rfl
    | 9, _ => rfl
    | 10, _ => rfl
    | 11, _ => rfl
    | 12, _ => rfl
    | 13, _ => rfl
    | 14, _ => rfl
    | 15, _ => rfl
    | 16, _ => rfl
    | 17, _ => rfl
    | 18, _ => rfl
    | 19, _ => rfl
    | 20, h => exact absurd rfl h
    | 21, _ => rfl
    | 22, _ => rfl
    | 23, _ => rfl
    | 24, _ => rfl
    | 25, _ => rfl
    | _ + 26, _ => rfl
theorem mm_up22 {ad : Nat → Nat} {cs : Nat → ClassId} {d w : Int32} {S : SS} {np ns : UInt32} {g : Nat → Int32} : va_up (mm ad cs d w S np ns) 21 (eI cs 25 g) = mm ad cs d w (sI S 22 g) np ns := by
  funext j
  by_cases h : j = 21
  · subst h; rfl
  · rw [va_up_ne _ _ h]
    match j, h with
    | 0, _ => rfl
    | 1, _ => rfl
    | 2, _ => rfl
    | 3, _ => rfl
    | 4, _ => rfl
    | 5, _ => rfl
    | 6, _ => rfl
    | 7, _ => rfl
    | 8, _ => rfl
    | 9, _ => rfl
    | 10, _ => rfl
    | 11, _ => rfl
    | 12, _ => rfl
    | 13, _ => rfl
    | 14, _ => rfl
    | 15, _ => rfl
    | 16, _ => rfl
    | 17, _ => rfl
    | 18, _ => rfl
    | 19, _ => rfl
    | 20, _ => rfl
    | 21, h => exact absurd rfl h
    | 22, _ => rfl
    | 23, _ => rfl
    | 24, _ => rfl
    | 25, _ => rfl
    | _ + 26, _ => rfl
theorem mm_up23 {ad : Nat → Nat} {cs : Nat → ClassId} {d w : Int32} {S : SS} {np ns : UInt32} {g : Nat → Int32} : va_up (mm ad cs d w S np ns) 22 (eI cs 25 g) = mm ad cs d w (sI S 23 g) np ns := by
  funext j
  by_cases h : j = 22
  · subst h; rfl
  · rw [va_up_ne _ _ h]
    match j, h with
    | 0, _ => rfl
    | 1, _ => rfl
    | 2, _ => rfl
    | 3, _ => rfl
    | 4, _ => rfl
    | 5, _ => rfl
    | 6, _ => rfl
    | 7, _ => rfl
    | 8, _ => rfl
    | 9, _ => rfl
    | 10, _ => rfl
    | 11, _ => rfl
    | 12, _ => rfl
    | 13, _ => rfl
    | 14, _ => rfl
    | 15, _ => rfl
    | 16, _ => rfl
    | 17, _ => rfl
    | 18, _ => rfl
    | 19, _ => rfl
    | 20, _ => rfl
    | 21, _ => rfl
    | 22, h => exact absurd rfl h
    | 23, _ => rfl
    | 24, _ => rfl
    | 25, _ => rfl
    | _ + 26, _ => rfl
theorem mm_up24 {ad : Nat → Nat} {cs : Nat → ClassId} {d w : Int32} {S : SS} {np ns : UInt32} {g : Nat → Int32} : va_up (mm ad cs d w S np ns) 23 (eI cs 25 g) = mm ad cs d w (sI S 24 g) np ns := by
  funext j
  by_cases h : j = 23
  · subst h; rfl
  · rw [va_up_ne _ _ h]
    match j, h with
    | 0, _ => rfl
    | 1, _ => rfl
    | 2, _ => rfl
    | 3, _ => rfl
    | 4, _ => rfl
    | 5, _ => rfl
    | 6, _ => rfl
    | 7, _ => rfl
    | 8, _ => rfl
    | 9, _ => rfl
    | 10, _ => rfl
    | 11, _ => rfl
    | 12, _ => rfl
    | 13, _ => rfl
    | 14, _ => rfl
    | 15, _ => rfl
    | 16, _ => rfl
    | 17, _ => rfl
    | 18, _ => rfl
    | 19, _ => rfl
    | 20, _ => rfl
    | 21, _ => rfl
    | 22, _ => rfl
    | 23, h => exact absurd rfl h
    | 24, _ => rfl
    | 25, _ => rfl
    | _ + 26, _ => rfl
theorem mm_up25 {ad : Nat → Nat} {cs : Nat → ClassId} {d w : Int32} {S : SS} {np ns : UInt32} {g : Nat → Int64} : va_up (mm ad cs d w S np ns) 24 (eJ cs 25 g) = mm ad cs d w (sB S g) np ns := by
  funext j
  by_cases h : j = 24
  · subst h; rfl
  · rw [va_up_ne _ _ h]
    match j, h with
    | 0, _ => rfl
    | 1, _ => rfl
    | 2, _ => rfl
    | 3, _ => rfl
    | 4, _ => rfl
    | 5, _ => rfl
    | 6, _ => rfl
    | 7, _ => rfl
    | 8, _ => rfl
    | 9, _ => rfl
    | 10, _ => rfl
    | 11, _ => rfl
    | 12, _ => rfl
    | 13, _ => rfl
    | 14, _ => rfl
    | 15, _ => rfl
    | 16, _ => rfl
    | 17, _ => rfl
    | 18, _ => rfl
    | 19, _ => rfl
    | 20, _ => rfl
    | 21, _ => rfl
    | 22, _ => rfl
    | 23, _ => rfl
    | 24, h => exact absurd rfl h
    | 25, _ => rfl
    | _ + 26, _ => rfl
theorem mm_up26 {ad : Nat → Nat} {cs : Nat → ClassId} {d w : Int32} {S : SS} {np ns : UInt32} {g : Nat → Int32} : va_up (mm ad cs d w S np ns) 25 (eI cs 25 g) = mm ad cs d w (sI S 26 g) np ns := by
  funext j
  by_cases h : j = 25
  · subst h; rfl
  · rw [va_up_ne _ _ h]
    match j, h with
    | 0, _ => rfl
    | 1, _ => rfl
    | 2, _ => rfl
    | 3, _ => rfl
    | 4, _ => rfl
    | 5, _ => rfl
    | 6, _ => rfl
    | 7, _ => rfl
    | 8, _ => rfl
    | 9, _ => rfl
    | 10, _ => rfl
    | 11, _ => rfl
    | 12, _ => rfl
    | 13, _ => rfl
    | 14, _ => rfl
    | 15, _ => rfl
    | 16, _ => rfl
    | 17, _ => rfl
    | 18, _ => rfl
    | 19, _ => rfl
    | 20, _ => rfl
    | 21, _ => rfl
    | 22, _ => rfl
    | 23, _ => rfl
    | 24, _ => rfl
    | 25, h => exact absurd rfl h
    | _ + 26, _ => rfl
theorem mm_np {ad : Nat → Nat} {cs : Nat → ClassId} {d w : Int32} {S : SS} {np ns np2 ns2 : UInt32} : va_up (mm ad cs d w S np ns) 0 (.inr (7, [.int d, .int w, .ref (ad 1), .ref (ad 2), .ref (ad 3), .ref (ad 4), .ref (ad 5), .ref (ad 6), .ref (ad 7), .ref (ad 8), .ref (ad 9), .ref (ad 10), .ref (ad 11), .ref (ad 12), .ref (ad 13), .ref (ad 14), .ref (ad 15), .ref (ad 16), .ref (ad 17), .ref (ad 18), .ref (ad 19), .ref (ad 20), .ref (ad 21), .ref (ad 22), .ref (ad 23), .ref (ad 24), .ref (ad 25), .float np2, .float ns2])) = mm ad cs d w S np2 ns2 := by
  funext j
  by_cases h : j = 0
  · subst h; rfl
  · rw [va_up_ne _ _ h]
    match j, h with
    | 0, h => exact absurd rfl h
    | 1, _ => rfl
    | 2, _ => rfl
    | 3, _ => rfl
    | 4, _ => rfl
    | 5, _ => rfl
    | 6, _ => rfl
    | 7, _ => rfl
    | 8, _ => rfl
    | 9, _ => rfl
    | 10, _ => rfl
    | 11, _ => rfl
    | 12, _ => rfl
    | 13, _ => rfl
    | 14, _ => rfl
    | 15, _ => rfl
    | 16, _ => rfl
    | 17, _ => rfl
    | 18, _ => rfl
    | 19, _ => rfl
    | 20, _ => rfl
    | 21, _ => rfl
    | 22, _ => rfl
    | 23, _ => rfl
    | 24, _ => rfl
    | 25, _ => rfl
    | _ + 26, _ => rfl
end
section
theorem dX7_isTwo_0 : decode cX7_isTwo 0 = .ok (.iload_n 0, 1) := by decide +kernel
theorem dX7_isTwo_1 : decode cX7_isTwo 1 = .ok (.ifCond .eq 8, 3) := by decide +kernel
theorem dX7_isTwo_4 : decode cX7_isTwo 4 = .ok (.iload_n 0, 1) := by decide +kernel
theorem dX7_isTwo_5 : decode cX7_isTwo 5 = .ok (.iconst 1, 1) := by decide +kernel
theorem dX7_isTwo_6 : decode cX7_isTwo 6 = .ok (.if_icmp .ne 7, 3) := by decide +kernel
theorem dX7_isTwo_9 : decode cX7_isTwo 9 = .ok (.iconst 1, 1) := by decide +kernel
theorem dX7_isTwo_10 : decode cX7_isTwo 10 = .ok (.goto 4, 3) := by decide +kernel
theorem dX7_isTwo_13 : decode cX7_isTwo 13 = .ok (.iconst 0, 1) := by decide +kernel
theorem dX7_isTwo_14 : decode cX7_isTwo 14 = .ok (.ireturn, 1) := by decide +kernel
theorem dX7_move_0 : decode cX7_move 0 = .ok (.iload_n 3, 1) := by decide +kernel
theorem dX7_move_1 : decode cX7_move 1 = .ok (.iconst 1, 1) := by decide +kernel
theorem dX7_move_2 : decode cX7_move 2 = .ok (.iand, 1) := by decide +kernel
theorem dX7_move_3 : decode cX7_move 3 = .ok (.iconst 1, 1) := by decide +kernel
theorem dX7_move_4 : decode cX7_move 4 = .ok (.if_icmp .ne 7, 3) := by decide +kernel
theorem dX7_move_7 : decode cX7_move 7 = .ok (.iconst 1, 1) := by decide +kernel
theorem dX7_move_8 : decode cX7_move 8 = .ok (.goto 4, 3) := by decide +kernel
theorem dX7_move_11 : decode cX7_move 11 = .ok (.iconst 0, 1) := by decide +kernel
theorem dX7_move_12 : decode cX7_move 12 = .ok (.istore 4, 2) := by decide +kernel
theorem dX7_move_14 : decode cX7_move 14 = .ok (.iload_n 3, 1) := by decide +kernel
theorem dX7_move_15 : decode cX7_move 15 = .ok (.iconst 2, 1) := by decide +kernel
theorem dX7_move_16 : decode cX7_move 16 = .ok (.iand, 1) := by decide +kernel
theorem dX7_move_17 : decode cX7_move 17 = .ok (.iconst 2, 1) := by decide +kernel
theorem dX7_move_18 : decode cX7_move 18 = .ok (.if_icmp .ne 7, 3) := by decide +kernel
theorem dX7_move_21 : decode cX7_move 21 = .ok (.iconst 1, 1) := by decide +kernel
theorem dX7_move_22 : decode cX7_move 22 = .ok (.goto 4, 3) := by decide +kernel
theorem dX7_move_25 : decode cX7_move 25 = .ok (.iconst 0, 1) := by decide +kernel
theorem dX7_move_26 : decode cX7_move 26 = .ok (.istore 5, 2) := by decide +kernel
theorem dX7_move_28 : decode cX7_move 28 = .ok (.iload 4, 2) := by decide +kernel
theorem dX7_move_30 : decode cX7_move 30 = .ok (.iload 5, 2) := by decide +kernel
theorem dX7_move_32 : decode cX7_move 32 = .ok (.if_icmp .ne 7, 3) := by decide +kernel
theorem dX7_move_35 : decode cX7_move 35 = .ok (.fconst 0, 1) := by decide +kernel
theorem dX7_move_36 : decode cX7_move 36 = .ok (.goto 14, 3) := by decide +kernel
theorem dX7_move_39 : decode cX7_move 39 = .ok (.iload 5, 2) := by decide +kernel
theorem dX7_move_41 : decode cX7_move 41 = .ok (.ifCond .eq 7, 3) := by decide +kernel
theorem dX7_move_44 : decode cX7_move 44 = .ok (.fconst 1, 1) := by decide +kernel
theorem dX7_move_45 : decode cX7_move 45 = .ok (.goto 5, 3) := by decide +kernel
theorem dX7_move_48 : decode cX7_move 48 = .ok (.ldc 99, 2) := by decide +kernel
theorem dX7_move_50 : decode cX7_move 50 = .ok (.fstore 6, 2) := by decide +kernel
theorem dX7_move_52 : decode cX7_move 52 = .ok (.fload_n 2, 1) := by decide +kernel
theorem dX7_move_53 : decode cX7_move 53 = .ok (.ldc 100, 2) := by decide +kernel
theorem dX7_move_55 : decode cX7_move 55 = .ok (.fmul, 1) := by decide +kernel
theorem dX7_move_56 : decode cX7_move 56 = .ok (.fload 6, 2) := by decide +kernel
theorem dX7_move_58 : decode cX7_move 58 = .ok (.ldc 101, 2) := by decide +kernel
theorem dX7_move_60 : decode cX7_move 60 = .ok (.fmul, 1) := by decide +kernel
theorem dX7_move_61 : decode cX7_move 61 = .ok (.fadd, 1) := by decide +kernel
theorem dX7_move_62 : decode cX7_move 62 = .ok (.fstore 7, 2) := by decide +kernel
theorem dX7_move_64 : decode cX7_move 64 = .ok (.iload_n 3, 1) := by decide +kernel
theorem dX7_move_65 : decode cX7_move 65 = .ok (.iconst 4, 1) := by decide +kernel
theorem dX7_move_66 : decode cX7_move 66 = .ok (.iand, 1) := by decide +kernel
theorem dX7_move_67 : decode cX7_move 67 = .ok (.iconst 4, 1) := by decide +kernel
theorem dX7_move_68 : decode cX7_move 68 = .ok (.if_icmp .ne 11, 3) := by decide +kernel
theorem dX7_move_71 : decode cX7_move 71 = .ok (.fload 7, 2) := by decide +kernel
theorem dX7_move_73 : decode cX7_move 73 = .ok (.ldc 102, 2) := by decide +kernel
theorem dX7_move_75 : decode cX7_move 75 = .ok (.fmul, 1) := by decide +kernel
theorem dX7_move_76 : decode cX7_move 76 = .ok (.goto 5, 3) := by decide +kernel
theorem dX7_move_79 : decode cX7_move 79 = .ok (.fload 7, 2) := by decide +kernel
theorem dX7_move_81 : decode cX7_move 81 = .ok (.fstore 7, 2) := by decide +kernel
theorem dX7_move_83 : decode cX7_move 83 = .ok (.fload_n 1, 1) := by decide +kernel
theorem dX7_move_84 : decode cX7_move 84 = .ok (.fload 7, 2) := by decide +kernel
theorem dX7_move_86 : decode cX7_move 86 = .ok (.fadd, 1) := by decide +kernel
theorem dX7_move_87 : decode cX7_move 87 = .ok (.fstore 8, 2) := by decide +kernel
theorem dX7_move_89 : decode cX7_move 89 = .ok (.fload 8, 2) := by decide +kernel
theorem dX7_move_91 : decode cX7_move 91 = .ok (.fconst 0, 1) := by decide +kernel
theorem dX7_move_92 : decode cX7_move 92 = .ok (.fcmp .g, 1) := by decide +kernel
theorem dX7_move_93 : decode cX7_move 93 = .ok (.ifCond .ge 19, 3) := by decide +kernel
theorem dX7_move_96 : decode cX7_move 96 = .ok (.fload 8, 2) := by decide +kernel
theorem dX7_move_98 : decode cX7_move 98 = .ok (.fneg, 1) := by decide +kernel
theorem dX7_move_99 : decode cX7_move 99 = .ok (.fstore 8, 2) := by decide +kernel
theorem dX7_move_101 : decode cX7_move 101 = .ok (.fload 7, 2) := by decide +kernel
theorem dX7_move_103 : decode cX7_move 103 = .ok (.fneg, 1) := by decide +kernel
theorem dX7_move_104 : decode cX7_move 104 = .ok (.ldc 102, 2) := by decide +kernel
theorem dX7_move_106 : decode cX7_move 106 = .ok (.fmul, 1) := by decide +kernel
theorem dX7_move_107 : decode cX7_move 107 = .ok (.fstore 7, 2) := by decide +kernel
theorem dX7_move_109 : decode cX7_move 109 = .ok (.goto 26, 3) := by decide +kernel
theorem dX7_move_112 : decode cX7_move 112 = .ok (.fload 8, 2) := by decide +kernel
theorem dX7_move_114 : decode cX7_move 114 = .ok (.ldc 103, 2) := by decide +kernel
theorem dX7_move_116 : decode cX7_move 116 = .ok (.fcmp .l, 1) := by decide +kernel
theorem dX7_move_117 : decode cX7_move 117 = .ok (.ifCond .le 18, 3) := by decide +kernel
theorem dX7_move_120 : decode cX7_move 120 = .ok (.ldc 104, 2) := by decide +kernel
theorem dX7_move_122 : decode cX7_move 122 = .ok (.fload 8, 2) := by decide +kernel
theorem dX7_move_124 : decode cX7_move 124 = .ok (.fsub, 1) := by decide +kernel
theorem dX7_move_125 : decode cX7_move 125 = .ok (.fstore 8, 2) := by decide +kernel
theorem dX7_move_127 : decode cX7_move 127 = .ok (.fload 7, 2) := by decide +kernel
theorem dX7_move_129 : decode cX7_move 129 = .ok (.fneg, 1) := by decide +kernel
theorem dX7_move_130 : decode cX7_move 130 = .ok (.ldc 102, 2) := by decide +kernel
theorem dX7_move_132 : decode cX7_move 132 = .ok (.fmul, 1) := by decide +kernel
theorem dX7_move_133 : decode cX7_move 133 = .ok (.fstore 7, 2) := by decide +kernel
theorem dX7_move_135 : decode cX7_move 135 = .ok (.aload_n 0, 1) := by decide +kernel
theorem dX7_move_136 : decode cX7_move 136 = .ok (.fload 8, 2) := by decide +kernel
theorem dX7_move_138 : decode cX7_move 138 = .ok (.putfield 105, 3) := by decide +kernel
theorem dX7_move_141 : decode cX7_move 141 = .ok (.aload_n 0, 1) := by decide +kernel
theorem dX7_move_142 : decode cX7_move 142 = .ok (.fload 7, 2) := by decide +kernel
theorem dX7_move_144 : decode cX7_move 144 = .ok (.putfield 109, 3) := by decide +kernel
theorem dX7_move_147 : decode cX7_move 147 = .ok (.return_, 1) := by decide +kernel
theorem dX7_useOf_0 : decode cX7_useOf 0 = .ok (.aload_n 0, 1) := by decide +kernel
theorem dX7_useOf_1 : decode cX7_useOf 1 = .ok (.getfield 43, 3) := by decide +kernel
theorem dX7_useOf_4 : decode cX7_useOf 4 = .ok (.iconst 2, 1) := by decide +kernel
theorem dX7_useOf_5 : decode cX7_useOf 5 = .ok (.iload_n 1, 1) := by decide +kernel
theorem dX7_useOf_6 : decode cX7_useOf 6 = .ok (.imul, 1) := by decide +kernel
theorem dX7_useOf_7 : decode cX7_useOf 7 = .ok (.iload_n 2, 1) := by decide +kernel
theorem dX7_useOf_8 : decode cX7_useOf 8 = .ok (.iadd, 1) := by decide +kernel
theorem dX7_useOf_9 : decode cX7_useOf 9 = .ok (.iaload, 1) := by decide +kernel
theorem dX7_useOf_10 : decode cX7_useOf 10 = .ok (.istore 4, 2) := by decide +kernel
theorem dX7_useOf_12 : decode cX7_useOf 12 = .ok (.sipush 1200, 3) := by decide +kernel
theorem dX7_useOf_15 : decode cX7_useOf 15 = .ok (.iload_n 1, 1) := by decide +kernel
theorem dX7_useOf_16 : decode cX7_useOf 16 = .ok (.imul, 1) := by decide +kernel
theorem dX7_useOf_17 : decode cX7_useOf 17 = .ok (.sipush 600, 3) := by decide +kernel
theorem dX7_useOf_20 : decode cX7_useOf 20 = .ok (.iload_n 2, 1) := by decide +kernel
theorem dX7_useOf_21 : decode cX7_useOf 21 = .ok (.imul, 1) := by decide +kernel
theorem dX7_useOf_22 : decode cX7_useOf 22 = .ok (.iadd, 1) := by decide +kernel
theorem dX7_useOf_23 : decode cX7_useOf 23 = .ok (.istore 5, 2) := by decide +kernel
theorem dX7_useOf_25 : decode cX7_useOf 25 = .ok (.iload_n 3, 1) := by decide +kernel
theorem dX7_useOf_26 : decode cX7_useOf 26 = .ok (.iload 4, 2) := by decide +kernel
theorem dX7_useOf_28 : decode cX7_useOf 28 = .ok (.if_icmp .ge 13, 3) := by decide +kernel
theorem dX7_useOf_31 : decode cX7_useOf 31 = .ok (.aload_n 0, 1) := by decide +kernel
theorem dX7_useOf_32 : decode cX7_useOf 32 = .ok (.getfield 37, 3) := by decide +kernel
theorem dX7_useOf_35 : decode cX7_useOf 35 = .ok (.iload 5, 2) := by decide +kernel
theorem dX7_useOf_37 : decode cX7_useOf 37 = .ok (.iload_n 3, 1) := by decide +kernel
theorem dX7_useOf_38 : decode cX7_useOf 38 = .ok (.iadd, 1) := by decide +kernel
theorem dX7_useOf_39 : decode cX7_useOf 39 = .ok (.iaload, 1) := by decide +kernel
theorem dX7_useOf_40 : decode cX7_useOf 40 = .ok (.ireturn, 1) := by decide +kernel
theorem dX7_useOf_41 : decode cX7_useOf 41 = .ok (.iload_n 2, 1) := by decide +kernel
theorem dX7_useOf_42 : decode cX7_useOf 42 = .ok (.iload_n 1, 1) := by decide +kernel
theorem dX7_useOf_43 : decode cX7_useOf 43 = .ok (.if_icmp .eq 12, 3) := by decide +kernel
theorem dX7_useOf_46 : decode cX7_useOf 46 = .ok (.aload_n 0, 1) := by decide +kernel
theorem dX7_useOf_47 : decode cX7_useOf 47 = .ok (.getfield 16, 3) := by decide +kernel
theorem dX7_useOf_50 : decode cX7_useOf 50 = .ok (.iload_n 1, 1) := by decide +kernel
theorem dX7_useOf_51 : decode cX7_useOf 51 = .ok (.iaload, 1) := by decide +kernel
theorem dX7_useOf_52 : decode cX7_useOf 52 = .ok (.ifCond .ge 8, 3) := by decide +kernel
theorem dX7_useOf_55 : decode cX7_useOf 55 = .ok (.iload 4, 2) := by decide +kernel
theorem dX7_useOf_57 : decode cX7_useOf 57 = .ok (.ifCond .ne 5, 3) := by decide +kernel
theorem dX7_useOf_60 : decode cX7_useOf 60 = .ok (.iconst 0, 1) := by decide +kernel
theorem dX7_useOf_61 : decode cX7_useOf 61 = .ok (.ireturn, 1) := by decide +kernel
theorem dX7_useOf_62 : decode cX7_useOf 62 = .ok (.aload_n 0, 1) := by decide +kernel
theorem dX7_useOf_63 : decode cX7_useOf 63 = .ok (.getfield 37, 3) := by decide +kernel
theorem dX7_useOf_66 : decode cX7_useOf 66 = .ok (.iload 5, 2) := by decide +kernel
theorem dX7_useOf_68 : decode cX7_useOf 68 = .ok (.iload 4, 2) := by decide +kernel
theorem dX7_useOf_70 : decode cX7_useOf 70 = .ok (.iadd, 1) := by decide +kernel
theorem dX7_useOf_71 : decode cX7_useOf 71 = .ok (.iconst 1, 1) := by decide +kernel
theorem dX7_useOf_72 : decode cX7_useOf 72 = .ok (.isub, 1) := by decide +kernel
theorem dX7_useOf_73 : decode cX7_useOf 73 = .ok (.iaload, 1) := by decide +kernel
theorem dX7_useOf_74 : decode cX7_useOf 74 = .ok (.ireturn, 1) := by decide +kernel
theorem dX7_check_0 : decode cX7_check 0 = .ok (.bipush 23, 2) := by decide +kernel
theorem dX7_check_2 : decode cX7_check 2 = .ok (.istore_n 2, 1) := by decide +kernel
theorem dX7_check_3 : decode cX7_check 3 = .ok (.iload_n 2, 1) := by decide +kernel
theorem dX7_check_4 : decode cX7_check 4 = .ok (.bipush 37, 2) := by decide +kernel
theorem dX7_check_6 : decode cX7_check 6 = .ok (.imul, 1) := by decide +kernel
theorem dX7_check_7 : decode cX7_check 7 = .ok (.aload_n 0, 1) := by decide +kernel
theorem dX7_check_8 : decode cX7_check 8 = .ok (.getfield 68, 3) := by decide +kernel
theorem dX7_check_11 : decode cX7_check 11 = .ok (.iload_n 1, 1) := by decide +kernel
theorem dX7_check_12 : decode cX7_check 12 = .ok (.saload, 1) := by decide +kernel
theorem dX7_check_13 : decode cX7_check 13 = .ok (.iadd, 1) := by decide +kernel
theorem dX7_check_14 : decode cX7_check 14 = .ok (.istore_n 2, 1) := by decide +kernel
theorem dX7_check_15 : decode cX7_check 15 = .ok (.iload_n 2, 1) := by decide +kernel
theorem dX7_check_16 : decode cX7_check 16 = .ok (.bipush 37, 2) := by decide +kernel
theorem dX7_check_18 : decode cX7_check 18 = .ok (.imul, 1) := by decide +kernel
theorem dX7_check_19 : decode cX7_check 19 = .ok (.aload_n 0, 1) := by decide +kernel
theorem dX7_check_20 : decode cX7_check 20 = .ok (.getfield 71, 3) := by decide +kernel
theorem dX7_check_23 : decode cX7_check 23 = .ok (.iload_n 1, 1) := by decide +kernel
theorem dX7_check_24 : decode cX7_check 24 = .ok (.iaload, 1) := by decide +kernel
theorem dX7_check_25 : decode cX7_check 25 = .ok (.iadd, 1) := by decide +kernel
theorem dX7_check_26 : decode cX7_check 26 = .ok (.istore_n 2, 1) := by decide +kernel
theorem dX7_check_27 : decode cX7_check 27 = .ok (.iload_n 2, 1) := by decide +kernel
theorem dX7_check_28 : decode cX7_check 28 = .ok (.bipush 37, 2) := by decide +kernel
theorem dX7_check_30 : decode cX7_check 30 = .ok (.imul, 1) := by decide +kernel
theorem dX7_check_31 : decode cX7_check 31 = .ok (.aload_n 0, 1) := by decide +kernel
theorem dX7_check_32 : decode cX7_check 32 = .ok (.getfield 74, 3) := by decide +kernel
theorem dX7_check_35 : decode cX7_check 35 = .ok (.iload_n 1, 1) := by decide +kernel
theorem dX7_check_36 : decode cX7_check 36 = .ok (.iaload, 1) := by decide +kernel
theorem dX7_check_37 : decode cX7_check 37 = .ok (.iadd, 1) := by decide +kernel
theorem dX7_check_38 : decode cX7_check 38 = .ok (.istore_n 2, 1) := by decide +kernel
theorem dX7_check_39 : decode cX7_check 39 = .ok (.iload_n 2, 1) := by decide +kernel
theorem dX7_check_40 : decode cX7_check 40 = .ok (.bipush 37, 2) := by decide +kernel
theorem dX7_check_42 : decode cX7_check 42 = .ok (.imul, 1) := by decide +kernel
theorem dX7_check_43 : decode cX7_check 43 = .ok (.aload_n 0, 1) := by decide +kernel
theorem dX7_check_44 : decode cX7_check 44 = .ok (.getfield 77, 3) := by decide +kernel
theorem dX7_check_47 : decode cX7_check 47 = .ok (.iload_n 1, 1) := by decide +kernel
theorem dX7_check_48 : decode cX7_check 48 = .ok (.iaload, 1) := by decide +kernel
theorem dX7_check_49 : decode cX7_check 49 = .ok (.iadd, 1) := by decide +kernel
theorem dX7_check_50 : decode cX7_check 50 = .ok (.istore_n 2, 1) := by decide +kernel
theorem dX7_check_51 : decode cX7_check 51 = .ok (.iload_n 2, 1) := by decide +kernel
theorem dX7_check_52 : decode cX7_check 52 = .ok (.bipush 37, 2) := by decide +kernel
theorem dX7_check_54 : decode cX7_check 54 = .ok (.imul, 1) := by decide +kernel
theorem dX7_check_55 : decode cX7_check 55 = .ok (.aload_n 0, 1) := by decide +kernel
theorem dX7_check_56 : decode cX7_check 56 = .ok (.getfield 80, 3) := by decide +kernel
theorem dX7_check_59 : decode cX7_check 59 = .ok (.iload_n 1, 1) := by decide +kernel
theorem dX7_check_60 : decode cX7_check 60 = .ok (.iaload, 1) := by decide +kernel
theorem dX7_check_61 : decode cX7_check 61 = .ok (.iadd, 1) := by decide +kernel
theorem dX7_check_62 : decode cX7_check 62 = .ok (.istore_n 2, 1) := by decide +kernel
theorem dX7_check_63 : decode cX7_check 63 = .ok (.iload_n 2, 1) := by decide +kernel
theorem dX7_check_64 : decode cX7_check 64 = .ok (.bipush 37, 2) := by decide +kernel
theorem dX7_check_66 : decode cX7_check 66 = .ok (.imul, 1) := by decide +kernel
theorem dX7_check_67 : decode cX7_check 67 = .ok (.aload_n 0, 1) := by decide +kernel
theorem dX7_check_68 : decode cX7_check 68 = .ok (.getfield 83, 3) := by decide +kernel
theorem dX7_check_71 : decode cX7_check 71 = .ok (.iload_n 1, 1) := by decide +kernel
theorem dX7_check_72 : decode cX7_check 72 = .ok (.laload, 1) := by decide +kernel
theorem dX7_check_73 : decode cX7_check 73 = .ok (.l2i, 1) := by decide +kernel
theorem dX7_check_74 : decode cX7_check 74 = .ok (.iadd, 1) := by decide +kernel
theorem dX7_check_75 : decode cX7_check 75 = .ok (.istore_n 2, 1) := by decide +kernel
theorem dX7_check_76 : decode cX7_check 76 = .ok (.iload_n 2, 1) := by decide +kernel
theorem dX7_check_77 : decode cX7_check 77 = .ok (.bipush 37, 2) := by decide +kernel
theorem dX7_check_79 : decode cX7_check 79 = .ok (.imul, 1) := by decide +kernel
theorem dX7_check_80 : decode cX7_check 80 = .ok (.aload_n 0, 1) := by decide +kernel
theorem dX7_check_81 : decode cX7_check 81 = .ok (.getfield 83, 3) := by decide +kernel
theorem dX7_check_84 : decode cX7_check 84 = .ok (.iload_n 1, 1) := by decide +kernel
theorem dX7_check_85 : decode cX7_check 85 = .ok (.laload, 1) := by decide +kernel
theorem dX7_check_86 : decode cX7_check 86 = .ok (.bipush 32, 2) := by decide +kernel
theorem dX7_check_88 : decode cX7_check 88 = .ok (.lshr, 1) := by decide +kernel
theorem dX7_check_89 : decode cX7_check 89 = .ok (.l2i, 1) := by decide +kernel
theorem dX7_check_90 : decode cX7_check 90 = .ok (.iadd, 1) := by decide +kernel
theorem dX7_check_91 : decode cX7_check 91 = .ok (.ireturn, 1) := by decide +kernel
theorem dX7_copy_0 : decode cX7_copy 0 = .ok (.aload_n 0, 1) := by decide +kernel
theorem dX7_copy_1 : decode cX7_copy 1 = .ok (.getfield 68, 3) := by decide +kernel
theorem dX7_copy_4 : decode cX7_copy 4 = .ok (.iload_n 2, 1) := by decide +kernel
theorem dX7_copy_5 : decode cX7_copy 5 = .ok (.aload_n 0, 1) := by decide +kernel
theorem dX7_copy_6 : decode cX7_copy 6 = .ok (.getfield 68, 3) := by decide +kernel
theorem dX7_copy_9 : decode cX7_copy 9 = .ok (.iload_n 1, 1) := by decide +kernel
theorem dX7_copy_10 : decode cX7_copy 10 = .ok (.saload, 1) := by decide +kernel
theorem dX7_copy_11 : decode cX7_copy 11 = .ok (.sastore, 1) := by decide +kernel
theorem dX7_copy_12 : decode cX7_copy 12 = .ok (.aload_n 0, 1) := by decide +kernel
theorem dX7_copy_13 : decode cX7_copy 13 = .ok (.getfield 71, 3) := by decide +kernel
theorem dX7_copy_16 : decode cX7_copy 16 = .ok (.iload_n 2, 1) := by decide +kernel
theorem dX7_copy_17 : decode cX7_copy 17 = .ok (.aload_n 0, 1) := by decide +kernel
theorem dX7_copy_18 : decode cX7_copy 18 = .ok (.getfield 71, 3) := by decide +kernel
theorem dX7_copy_21 : decode cX7_copy 21 = .ok (.iload_n 1, 1) := by decide +kernel
theorem dX7_copy_22 : decode cX7_copy 22 = .ok (.iaload, 1) := by decide +kernel
theorem dX7_copy_23 : decode cX7_copy 23 = .ok (.iastore, 1) := by decide +kernel
theorem dX7_copy_24 : decode cX7_copy 24 = .ok (.aload_n 0, 1) := by decide +kernel
theorem dX7_copy_25 : decode cX7_copy 25 = .ok (.getfield 74, 3) := by decide +kernel
theorem dX7_copy_28 : decode cX7_copy 28 = .ok (.iload_n 2, 1) := by decide +kernel
theorem dX7_copy_29 : decode cX7_copy 29 = .ok (.aload_n 0, 1) := by decide +kernel
theorem dX7_copy_30 : decode cX7_copy 30 = .ok (.getfield 74, 3) := by decide +kernel
theorem dX7_copy_33 : decode cX7_copy 33 = .ok (.iload_n 1, 1) := by decide +kernel
theorem dX7_copy_34 : decode cX7_copy 34 = .ok (.iaload, 1) := by decide +kernel
theorem dX7_copy_35 : decode cX7_copy 35 = .ok (.iastore, 1) := by decide +kernel
theorem dX7_copy_36 : decode cX7_copy 36 = .ok (.aload_n 0, 1) := by decide +kernel
theorem dX7_copy_37 : decode cX7_copy 37 = .ok (.getfield 77, 3) := by decide +kernel
theorem dX7_copy_40 : decode cX7_copy 40 = .ok (.iload_n 2, 1) := by decide +kernel
theorem dX7_copy_41 : decode cX7_copy 41 = .ok (.aload_n 0, 1) := by decide +kernel
theorem dX7_copy_42 : decode cX7_copy 42 = .ok (.getfield 77, 3) := by decide +kernel
theorem dX7_copy_45 : decode cX7_copy 45 = .ok (.iload_n 1, 1) := by decide +kernel
theorem dX7_copy_46 : decode cX7_copy 46 = .ok (.iaload, 1) := by decide +kernel
theorem dX7_copy_47 : decode cX7_copy 47 = .ok (.iastore, 1) := by decide +kernel
theorem dX7_copy_48 : decode cX7_copy 48 = .ok (.aload_n 0, 1) := by decide +kernel
theorem dX7_copy_49 : decode cX7_copy 49 = .ok (.getfield 80, 3) := by decide +kernel
theorem dX7_copy_52 : decode cX7_copy 52 = .ok (.iload_n 2, 1) := by decide +kernel
theorem dX7_copy_53 : decode cX7_copy 53 = .ok (.aload_n 0, 1) := by decide +kernel
theorem dX7_copy_54 : decode cX7_copy 54 = .ok (.getfield 80, 3) := by decide +kernel
theorem dX7_copy_57 : decode cX7_copy 57 = .ok (.iload_n 1, 1) := by decide +kernel
theorem dX7_copy_58 : decode cX7_copy 58 = .ok (.iaload, 1) := by decide +kernel
theorem dX7_copy_59 : decode cX7_copy 59 = .ok (.iastore, 1) := by decide +kernel
theorem dX7_copy_60 : decode cX7_copy 60 = .ok (.aload_n 0, 1) := by decide +kernel
theorem dX7_copy_61 : decode cX7_copy 61 = .ok (.getfield 83, 3) := by decide +kernel
theorem dX7_copy_64 : decode cX7_copy 64 = .ok (.iload_n 2, 1) := by decide +kernel
theorem dX7_copy_65 : decode cX7_copy 65 = .ok (.aload_n 0, 1) := by decide +kernel
theorem dX7_copy_66 : decode cX7_copy 66 = .ok (.getfield 83, 3) := by decide +kernel
theorem dX7_copy_69 : decode cX7_copy 69 = .ok (.iload_n 1, 1) := by decide +kernel
theorem dX7_copy_70 : decode cX7_copy 70 = .ok (.laload, 1) := by decide +kernel
theorem dX7_copy_71 : decode cX7_copy 71 = .ok (.lastore, 1) := by decide +kernel
theorem dX7_copy_72 : decode cX7_copy 72 = .ok (.aload_n 0, 1) := by decide +kernel
theorem dX7_copy_73 : decode cX7_copy 73 = .ok (.getfield 87, 3) := by decide +kernel
theorem dX7_copy_76 : decode cX7_copy 76 = .ok (.iload_n 2, 1) := by decide +kernel
theorem dX7_copy_77 : decode cX7_copy 77 = .ok (.aload_n 0, 1) := by decide +kernel
theorem dX7_copy_78 : decode cX7_copy 78 = .ok (.getfield 87, 3) := by decide +kernel
theorem dX7_copy_81 : decode cX7_copy 81 = .ok (.iload_n 1, 1) := by decide +kernel
theorem dX7_copy_82 : decode cX7_copy 82 = .ok (.iaload, 1) := by decide +kernel
theorem dX7_copy_83 : decode cX7_copy 83 = .ok (.iastore, 1) := by decide +kernel
theorem dX7_copy_84 : decode cX7_copy 84 = .ok (.return_, 1) := by decide +kernel
set_option maxRecDepth 20000 in
theorem ggX7_take_X7_copy : GoodIn wsX7_take wsX7_copy := goodIn_r _ [6, 7, 8, 9, 10, 11, 12, 13, 14, 15, 16, 17, 18, 19, 20, 21, 22, 23, 24, 25, 26, 27, 28, 29, 30, 31, 32, 33, 34, 35, 36, 37, 38, 39, 40, 41, 42] (by decide +kernel) (by decide +kernel)
set_option maxRecDepth 20000 in
theorem gX7_take_X7_copy : GoodIn wsX7_take (wsV RX7 128 RX7 yX7_copy wsX7_copy) := goodIn_app (goodIn_of _ (by decide +kernel)) ggX7_take_X7_copy
theorem dX7_take_0 : decode cX7_take 0 = .ok (.aload_n 0, 1) := by decide +kernel
theorem dX7_take_1 : decode cX7_take 1 = .ok (.bipush 12, 2) := by decide +kernel
theorem dX7_take_3 : decode cX7_take 3 = .ok (.iload_n 1, 1) := by decide +kernel
theorem dX7_take_4 : decode cX7_take 4 = .ok (.imul, 1) := by decide +kernel
theorem dX7_take_5 : decode cX7_take 5 = .ok (.bipush 24, 2) := by decide +kernel
theorem dX7_take_7 : decode cX7_take 7 = .ok (.invokevirtual 128, 3) := by decide +kernel
theorem dX7_take_10 : decode cX7_take 10 = .ok (.aload_n 0, 1) := by decide +kernel
theorem dX7_take_11 : decode cX7_take 11 = .ok (.getfield 65, 3) := by decide +kernel
theorem dX7_take_14 : decode cX7_take 14 = .ok (.iload_n 1, 1) := by decide +kernel
theorem dX7_take_15 : decode cX7_take 15 = .ok (.dup2, 1) := by decide +kernel
theorem dX7_take_16 : decode cX7_take 16 = .ok (.iaload, 1) := by decide +kernel
theorem dX7_take_17 : decode cX7_take 17 = .ok (.iconst 1, 1) := by decide +kernel
theorem dX7_take_18 : decode cX7_take 18 = .ok (.isub, 1) := by decide +kernel
theorem dX7_take_19 : decode cX7_take 19 = .ok (.iastore, 1) := by decide +kernel
theorem dX7_take_20 : decode cX7_take 20 = .ok (.bipush 12, 2) := by decide +kernel
theorem dX7_take_22 : decode cX7_take 22 = .ok (.iload_n 1, 1) := by decide +kernel
theorem dX7_take_23 : decode cX7_take 23 = .ok (.imul, 1) := by decide +kernel
theorem dX7_take_24 : decode cX7_take 24 = .ok (.istore_n 2, 1) := by decide +kernel
theorem dX7_take_25 : decode cX7_take 25 = .ok (.iload_n 2, 1) := by decide +kernel
theorem dX7_take_26 : decode cX7_take 26 = .ok (.bipush 12, 2) := by decide +kernel
theorem dX7_take_28 : decode cX7_take 28 = .ok (.iload_n 1, 1) := by decide +kernel
theorem dX7_take_29 : decode cX7_take 29 = .ok (.imul, 1) := by decide +kernel
theorem dX7_take_30 : decode cX7_take 30 = .ok (.aload_n 0, 1) := by decide +kernel
theorem dX7_take_31 : decode cX7_take 31 = .ok (.getfield 65, 3) := by decide +kernel
theorem dX7_take_34 : decode cX7_take 34 = .ok (.iload_n 1, 1) := by decide +kernel
theorem dX7_take_35 : decode cX7_take 35 = .ok (.iaload, 1) := by decide +kernel
theorem dX7_take_36 : decode cX7_take 36 = .ok (.iadd, 1) := by decide +kernel
theorem dX7_take_37 : decode cX7_take 37 = .ok (.if_icmp .ge 17, 3) := by decide +kernel
theorem dX7_take_40 : decode cX7_take 40 = .ok (.aload_n 0, 1) := by decide +kernel
theorem dX7_take_41 : decode cX7_take 41 = .ok (.iload_n 2, 1) := by decide +kernel
theorem dX7_take_42 : decode cX7_take 42 = .ok (.iconst 1, 1) := by decide +kernel
theorem dX7_take_43 : decode cX7_take 43 = .ok (.iadd, 1) := by decide +kernel
theorem dX7_take_44 : decode cX7_take 44 = .ok (.iload_n 2, 1) := by decide +kernel
theorem dX7_take_45 : decode cX7_take 45 = .ok (.invokevirtual 128, 3) := by decide +kernel
theorem dX7_take_48 : decode cX7_take 48 = .ok (.iinc 2 1, 3) := by decide +kernel
theorem dX7_take_51 : decode cX7_take 51 = .ok (.goto (-26), 3) := by decide +kernel
theorem dX7_take_54 : decode cX7_take 54 = .ok (.return_, 1) := by decide +kernel
set_option maxRecDepth 20000 in
theorem ggX7_play_X7_useOf : GoodIn wsX7_play wsX7_useOf := goodIn_r _ [15, 16, 17, 18, 28, 29, 30, 31, 32, 33, 34, 35, 36, 37, 38, 39, 40, 41, 42, 43, 44, 45, 46, 47, 48, 49, 50, 51, 52, 53, 54, 55, 56] (by decide +kernel) (by decide +kernel)
set_option maxRecDepth 20000 in
theorem gX7_play_X7_useOf : GoodIn wsX7_play (wsV RX7 112 RX7 yX7_useOf wsX7_useOf) := goodIn_app (goodIn_of _ (by decide +kernel)) ggX7_play_X7_useOf
set_option maxRecDepth 20000 in
theorem ggX7_play_X7_move : GoodIn wsX7_play wsX7_move := goodIn_r _ [22, 23, 24, 25, 8, 26, 27, 4, 5, 28, 29, 30, 31, 32, 33, 34, 35, 36, 37, 38, 39, 40, 41, 42, 43, 44, 45, 46, 47, 48, 49, 50, 51, 52, 53, 54, 55, 56] (by decide +kernel) (by decide +kernel)
set_option maxRecDepth 20000 in
theorem gX7_play_X7_move : GoodIn wsX7_play (wsV RX7 116 RX7 yX7_move wsX7_move) := goodIn_app (goodIn_of _ (by decide +kernel)) ggX7_play_X7_move
theorem dX7_play_0 : decode cX7_play 0 = .ok (.sipush 600, 3) := by decide +kernel
theorem dX7_play_3 : decode cX7_play 3 = .ok (.iload_n 1, 1) := by decide +kernel
theorem dX7_play_4 : decode cX7_play 4 = .ok (.imul, 1) := by decide +kernel
theorem dX7_play_5 : decode cX7_play 5 = .ok (.iload_n 2, 1) := by decide +kernel
theorem dX7_play_6 : decode cX7_play 6 = .ok (.iadd, 1) := by decide +kernel
theorem dX7_play_7 : decode cX7_play 7 = .ok (.istore_n 3, 1) := by decide +kernel
theorem dX7_play_8 : decode cX7_play 8 = .ok (.aload_n 0, 1) := by decide +kernel
theorem dX7_play_9 : decode cX7_play 9 = .ok (.iload_n 1, 1) := by decide +kernel
theorem dX7_play_10 : decode cX7_play 10 = .ok (.iconst 0, 1) := by decide +kernel
theorem dX7_play_11 : decode cX7_play 11 = .ok (.iload_n 2, 1) := by decide +kernel
theorem dX7_play_12 : decode cX7_play 12 = .ok (.invokevirtual 112, 3) := by decide +kernel
theorem dX7_play_15 : decode cX7_play 15 = .ok (.istore 4, 2) := by decide +kernel
theorem dX7_play_17 : decode cX7_play 17 = .ok (.aload_n 0, 1) := by decide +kernel
theorem dX7_play_18 : decode cX7_play 18 = .ok (.iload_n 1, 1) := by decide +kernel
theorem dX7_play_19 : decode cX7_play 19 = .ok (.iconst 1, 1) := by decide +kernel
theorem dX7_play_20 : decode cX7_play 20 = .ok (.iload_n 2, 1) := by decide +kernel
theorem dX7_play_21 : decode cX7_play 21 = .ok (.invokevirtual 112, 3) := by decide +kernel
theorem dX7_play_24 : decode cX7_play 24 = .ok (.istore 5, 2) := by decide +kernel
theorem dX7_play_26 : decode cX7_play 26 = .ok (.aload_n 0, 1) := by decide +kernel
theorem dX7_play_27 : decode cX7_play 27 = .ok (.getfield 40, 3) := by decide +kernel
theorem dX7_play_30 : decode cX7_play 30 = .ok (.sipush 1200, 3) := by decide +kernel
theorem dX7_play_33 : decode cX7_play 33 = .ok (.iload_n 1, 1) := by decide +kernel
theorem dX7_play_34 : decode cX7_play 34 = .ok (.imul, 1) := by decide +kernel
theorem dX7_play_35 : decode cX7_play 35 = .ok (.iload_n 2, 1) := by decide +kernel
theorem dX7_play_36 : decode cX7_play 36 = .ok (.iadd, 1) := by decide +kernel
theorem dX7_play_37 : decode cX7_play 37 = .ok (.iload 4, 2) := by decide +kernel
theorem dX7_play_39 : decode cX7_play 39 = .ok (.iastore, 1) := by decide +kernel
theorem dX7_play_40 : decode cX7_play 40 = .ok (.aload_n 0, 1) := by decide +kernel
theorem dX7_play_41 : decode cX7_play 41 = .ok (.getfield 40, 3) := by decide +kernel
theorem dX7_play_44 : decode cX7_play 44 = .ok (.sipush 1200, 3) := by decide +kernel
theorem dX7_play_47 : decode cX7_play 47 = .ok (.iload_n 1, 1) := by decide +kernel
theorem dX7_play_48 : decode cX7_play 48 = .ok (.imul, 1) := by decide +kernel
theorem dX7_play_49 : decode cX7_play 49 = .ok (.sipush 600, 3) := by decide +kernel
theorem dX7_play_52 : decode cX7_play 52 = .ok (.iadd, 1) := by decide +kernel
theorem dX7_play_53 : decode cX7_play 53 = .ok (.iload_n 2, 1) := by decide +kernel
theorem dX7_play_54 : decode cX7_play 54 = .ok (.iadd, 1) := by decide +kernel
theorem dX7_play_55 : decode cX7_play 55 = .ok (.iload 5, 2) := by decide +kernel
theorem dX7_play_57 : decode cX7_play 57 = .ok (.iastore, 1) := by decide +kernel
theorem dX7_play_58 : decode cX7_play 58 = .ok (.aload_n 0, 1) := by decide +kernel
theorem dX7_play_59 : decode cX7_play 59 = .ok (.aload_n 0, 1) := by decide +kernel
theorem dX7_play_60 : decode cX7_play 60 = .ok (.getfield 46, 3) := by decide +kernel
theorem dX7_play_63 : decode cX7_play 63 = .ok (.iload_n 3, 1) := by decide +kernel
theorem dX7_play_64 : decode cX7_play 64 = .ok (.faload, 1) := by decide +kernel
theorem dX7_play_65 : decode cX7_play 65 = .ok (.aload_n 0, 1) := by decide +kernel
theorem dX7_play_66 : decode cX7_play 66 = .ok (.getfield 49, 3) := by decide +kernel
theorem dX7_play_69 : decode cX7_play 69 = .ok (.iload_n 3, 1) := by decide +kernel
theorem dX7_play_70 : decode cX7_play 70 = .ok (.faload, 1) := by decide +kernel
theorem dX7_play_71 : decode cX7_play 71 = .ok (.iload 4, 2) := by decide +kernel
theorem dX7_play_73 : decode cX7_play 73 = .ok (.invokevirtual 116, 3) := by decide +kernel
theorem dX7_play_76 : decode cX7_play 76 = .ok (.aload_n 0, 1) := by decide +kernel
theorem dX7_play_77 : decode cX7_play 77 = .ok (.getfield 105, 3) := by decide +kernel
theorem dX7_play_80 : decode cX7_play 80 = .ok (.fstore 6, 2) := by decide +kernel
theorem dX7_play_82 : decode cX7_play 82 = .ok (.aload_n 0, 1) := by decide +kernel
theorem dX7_play_83 : decode cX7_play 83 = .ok (.getfield 109, 3) := by decide +kernel
theorem dX7_play_86 : decode cX7_play 86 = .ok (.fstore 7, 2) := by decide +kernel
theorem dX7_play_88 : decode cX7_play 88 = .ok (.aload_n 0, 1) := by decide +kernel
theorem dX7_play_89 : decode cX7_play 89 = .ok (.aload_n 0, 1) := by decide +kernel
theorem dX7_play_90 : decode cX7_play 90 = .ok (.getfield 52, 3) := by decide +kernel
theorem dX7_play_93 : decode cX7_play 93 = .ok (.iload_n 3, 1) := by decide +kernel
theorem dX7_play_94 : decode cX7_play 94 = .ok (.faload, 1) := by decide +kernel
theorem dX7_play_95 : decode cX7_play 95 = .ok (.aload_n 0, 1) := by decide +kernel
theorem dX7_play_96 : decode cX7_play 96 = .ok (.getfield 55, 3) := by decide +kernel
theorem dX7_play_99 : decode cX7_play 99 = .ok (.iload_n 3, 1) := by decide +kernel
theorem dX7_play_100 : decode cX7_play 100 = .ok (.faload, 1) := by decide +kernel
theorem dX7_play_101 : decode cX7_play 101 = .ok (.iload 5, 2) := by decide +kernel
theorem dX7_play_103 : decode cX7_play 103 = .ok (.invokevirtual 116, 3) := by decide +kernel
theorem dX7_play_106 : decode cX7_play 106 = .ok (.aload_n 0, 1) := by decide +kernel
theorem dX7_play_107 : decode cX7_play 107 = .ok (.getfield 105, 3) := by decide +kernel
theorem dX7_play_110 : decode cX7_play 110 = .ok (.fstore 8, 2) := by decide +kernel
theorem dX7_play_112 : decode cX7_play 112 = .ok (.aload_n 0, 1) := by decide +kernel
theorem dX7_play_113 : decode cX7_play 113 = .ok (.getfield 109, 3) := by decide +kernel
theorem dX7_play_116 : decode cX7_play 116 = .ok (.fstore 9, 2) := by decide +kernel
theorem dX7_play_118 : decode cX7_play 118 = .ok (.iconst 0, 1) := by decide +kernel
theorem dX7_play_119 : decode cX7_play 119 = .ok (.istore 10, 2) := by decide +kernel
theorem dX7_play_121 : decode cX7_play 121 = .ok (.fload 8, 2) := by decide +kernel
theorem dX7_play_123 : decode cX7_play 123 = .ok (.fload 6, 2) := by decide +kernel
theorem dX7_play_125 : decode cX7_play 125 = .ok (.fsub, 1) := by decide +kernel
theorem dX7_play_126 : decode cX7_play 126 = .ok (.fconst 1, 1) := by decide +kernel
theorem dX7_play_127 : decode cX7_play 127 = .ok (.fcmp .g, 1) := by decide +kernel
theorem dX7_play_128 : decode cX7_play 128 = .ok (.ifCond .ge 42, 3) := by decide +kernel
theorem dX7_play_131 : decode cX7_play 131 = .ok (.fload 7, 2) := by decide +kernel
theorem dX7_play_133 : decode cX7_play 133 = .ok (.fstore 11, 2) := by decide +kernel
theorem dX7_play_135 : decode cX7_play 135 = .ok (.fload 9, 2) := by decide +kernel
theorem dX7_play_137 : decode cX7_play 137 = .ok (.fstore 7, 2) := by decide +kernel
theorem dX7_play_139 : decode cX7_play 139 = .ok (.fload 11, 2) := by decide +kernel
theorem dX7_play_141 : decode cX7_play 141 = .ok (.fstore 9, 2) := by decide +kernel
theorem dX7_play_143 : decode cX7_play 143 = .ok (.fload 6, 2) := by decide +kernel
theorem dX7_play_145 : decode cX7_play 145 = .ok (.fload 8, 2) := by decide +kernel
theorem dX7_play_147 : decode cX7_play 147 = .ok (.fadd, 1) := by decide +kernel
theorem dX7_play_148 : decode cX7_play 148 = .ok (.ldc 102, 2) := by decide +kernel
theorem dX7_play_150 : decode cX7_play 150 = .ok (.fmul, 1) := by decide +kernel
theorem dX7_play_151 : decode cX7_play 151 = .ok (.fstore 12, 2) := by decide +kernel
theorem dX7_play_153 : decode cX7_play 153 = .ok (.fload 12, 2) := by decide +kernel
theorem dX7_play_155 : decode cX7_play 155 = .ok (.ldc 102, 2) := by decide +kernel
theorem dX7_play_157 : decode cX7_play 157 = .ok (.fsub, 1) := by decide +kernel
theorem dX7_play_158 : decode cX7_play 158 = .ok (.fstore 6, 2) := by decide +kernel
theorem dX7_play_160 : decode cX7_play 160 = .ok (.fload 12, 2) := by decide +kernel
theorem dX7_play_162 : decode cX7_play 162 = .ok (.ldc 102, 2) := by decide +kernel
theorem dX7_play_164 : decode cX7_play 164 = .ok (.fadd, 1) := by decide +kernel
theorem dX7_play_165 : decode cX7_play 165 = .ok (.fstore 8, 2) := by decide +kernel
theorem dX7_play_167 : decode cX7_play 167 = .ok (.iconst 1, 1) := by decide +kernel
theorem dX7_play_168 : decode cX7_play 168 = .ok (.istore 10, 2) := by decide +kernel
theorem dX7_play_170 : decode cX7_play 170 = .ok (.aload_n 0, 1) := by decide +kernel
theorem dX7_play_171 : decode cX7_play 171 = .ok (.getfield 46, 3) := by decide +kernel
theorem dX7_play_174 : decode cX7_play 174 = .ok (.iload_n 3, 1) := by decide +kernel
theorem dX7_play_175 : decode cX7_play 175 = .ok (.iconst 1, 1) := by decide +kernel
theorem dX7_play_176 : decode cX7_play 176 = .ok (.iadd, 1) := by decide +kernel
theorem dX7_play_177 : decode cX7_play 177 = .ok (.fload 6, 2) := by decide +kernel
theorem dX7_play_179 : decode cX7_play 179 = .ok (.fastore, 1) := by decide +kernel
theorem dX7_play_180 : decode cX7_play 180 = .ok (.aload_n 0, 1) := by decide +kernel
theorem dX7_play_181 : decode cX7_play 181 = .ok (.getfield 49, 3) := by decide +kernel
theorem dX7_play_184 : decode cX7_play 184 = .ok (.iload_n 3, 1) := by decide +kernel
theorem dX7_play_185 : decode cX7_play 185 = .ok (.iconst 1, 1) := by decide +kernel
theorem dX7_play_186 : decode cX7_play 186 = .ok (.iadd, 1) := by decide +kernel
theorem dX7_play_187 : decode cX7_play 187 = .ok (.fload 7, 2) := by decide +kernel
theorem dX7_play_189 : decode cX7_play 189 = .ok (.fastore, 1) := by decide +kernel
theorem dX7_play_190 : decode cX7_play 190 = .ok (.aload_n 0, 1) := by decide +kernel
theorem dX7_play_191 : decode cX7_play 191 = .ok (.getfield 52, 3) := by decide +kernel
theorem dX7_play_194 : decode cX7_play 194 = .ok (.iload_n 3, 1) := by decide +kernel
theorem dX7_play_195 : decode cX7_play 195 = .ok (.iconst 1, 1) := by decide +kernel
theorem dX7_play_196 : decode cX7_play 196 = .ok (.iadd, 1) := by decide +kernel
theorem dX7_play_197 : decode cX7_play 197 = .ok (.fload 8, 2) := by decide +kernel
theorem dX7_play_199 : decode cX7_play 199 = .ok (.fastore, 1) := by decide +kernel
theorem dX7_play_200 : decode cX7_play 200 = .ok (.aload_n 0, 1) := by decide +kernel
theorem dX7_play_201 : decode cX7_play 201 = .ok (.getfield 55, 3) := by decide +kernel
theorem dX7_play_204 : decode cX7_play 204 = .ok (.iload_n 3, 1) := by decide +kernel
theorem dX7_play_205 : decode cX7_play 205 = .ok (.iconst 1, 1) := by decide +kernel
theorem dX7_play_206 : decode cX7_play 206 = .ok (.iadd, 1) := by decide +kernel
theorem dX7_play_207 : decode cX7_play 207 = .ok (.fload 9, 2) := by decide +kernel
theorem dX7_play_209 : decode cX7_play 209 = .ok (.fastore, 1) := by decide +kernel
theorem dX7_play_210 : decode cX7_play 210 = .ok (.aload_n 0, 1) := by decide +kernel
theorem dX7_play_211 : decode cX7_play 211 = .ok (.getfield 58, 3) := by decide +kernel
theorem dX7_play_214 : decode cX7_play 214 = .ok (.iload_n 3, 1) := by decide +kernel
theorem dX7_play_215 : decode cX7_play 215 = .ok (.iconst 1, 1) := by decide +kernel
theorem dX7_play_216 : decode cX7_play 216 = .ok (.iadd, 1) := by decide +kernel
theorem dX7_play_217 : decode cX7_play 217 = .ok (.aload_n 0, 1) := by decide +kernel
theorem dX7_play_218 : decode cX7_play 218 = .ok (.getfield 58, 3) := by decide +kernel
theorem dX7_play_221 : decode cX7_play 221 = .ok (.iload_n 3, 1) := by decide +kernel
theorem dX7_play_222 : decode cX7_play 222 = .ok (.iaload, 1) := by decide +kernel
theorem dX7_play_223 : decode cX7_play 223 = .ok (.iload 10, 2) := by decide +kernel
theorem dX7_play_225 : decode cX7_play 225 = .ok (.iadd, 1) := by decide +kernel
theorem dX7_play_226 : decode cX7_play 226 = .ok (.iastore, 1) := by decide +kernel
theorem dX7_play_227 : decode cX7_play 227 = .ok (.fload 7, 2) := by decide +kernel
theorem dX7_play_229 : decode cX7_play 229 = .ok (.f2d, 1) := by decide +kernel
theorem dX7_play_230 : decode cX7_play 230 = .ok (.dstore 11, 2) := by decide +kernel
theorem dX7_play_232 : decode cX7_play 232 = .ok (.fload 9, 2) := by decide +kernel
theorem dX7_play_234 : decode cX7_play 234 = .ok (.f2d, 1) := by decide +kernel
theorem dX7_play_235 : decode cX7_play 235 = .ok (.dstore 13, 2) := by decide +kernel
theorem dX7_play_237 : decode cX7_play 237 = .ok (.aload_n 0, 1) := by decide +kernel
theorem dX7_play_238 : decode cX7_play 238 = .ok (.getfield 61, 3) := by decide +kernel
theorem dX7_play_241 : decode cX7_play 241 = .ok (.iload_n 3, 1) := by decide +kernel
theorem dX7_play_242 : decode cX7_play 242 = .ok (.iconst 1, 1) := by decide +kernel
theorem dX7_play_243 : decode cX7_play 243 = .ok (.iadd, 1) := by decide +kernel
theorem dX7_play_244 : decode cX7_play 244 = .ok (.aload_n 0, 1) := by decide +kernel
theorem dX7_play_245 : decode cX7_play 245 = .ok (.getfield 61, 3) := by decide +kernel
theorem dX7_play_248 : decode cX7_play 248 = .ok (.iload_n 3, 1) := by decide +kernel
theorem dX7_play_249 : decode cX7_play 249 = .ok (.daload, 1) := by decide +kernel
theorem dX7_play_250 : decode cX7_play 250 = .ok (.dload 11, 2) := by decide +kernel
theorem dX7_play_252 : decode cX7_play 252 = .ok (.dload 11, 2) := by decide +kernel
theorem dX7_play_254 : decode cX7_play 254 = .ok (.dmul, 1) := by decide +kernel
theorem dX7_play_255 : decode cX7_play 255 = .ok (.dload 13, 2) := by decide +kernel
theorem dX7_play_257 : decode cX7_play 257 = .ok (.dload 13, 2) := by decide +kernel
theorem dX7_play_259 : decode cX7_play 259 = .ok (.dmul, 1) := by decide +kernel
theorem dX7_play_260 : decode cX7_play 260 = .ok (.dadd, 1) := by decide +kernel
theorem dX7_play_261 : decode cX7_play 261 = .ok (.dadd, 1) := by decide +kernel
theorem dX7_play_262 : decode cX7_play 262 = .ok (.dastore, 1) := by decide +kernel
theorem dX7_play_263 : decode cX7_play 263 = .ok (.return_, 1) := by decide +kernel
set_option maxRecDepth 20000 in
theorem ggX7_again_X7_useOf : GoodIn wsX7_again wsX7_useOf := goodIn_r _ [7, 8, 9, 10, 33, 34, 35, 36, 37, 38, 39, 40, 41, 42, 43, 44, 45, 46, 47, 48, 49, 50, 51, 52, 53, 54, 55, 56, 57, 58, 59, 60, 61] (by decide +kernel) (by decide +kernel)
set_option maxRecDepth 20000 in
theorem gX7_again_X7_useOf : GoodIn wsX7_again (wsV RX7 112 RX7 yX7_useOf wsX7_useOf) := goodIn_app (goodIn_of _ (by decide +kernel)) ggX7_again_X7_useOf
set_option maxRecDepth 20000 in
theorem ggX7_again_X7_play : GoodIn wsX7_again wsX7_play := goodIn_r _ [14, 2, 15, 16, 17, 18, 19, 20, 21, 22, 23, 3, 4, 5, 6, 7, 8, 9, 10, 24, 25, 26, 27, 28, 29, 30, 31, 32, 33, 34, 35, 36, 37, 38, 39, 40, 41, 42, 43, 44, 45, 46, 47, 48, 49, 50, 51, 52, 53, 54, 55, 56, 57, 58, 59, 60, 61] (by decide +kernel) (by decide +kernel)
set_option maxRecDepth 20000 in
theorem gX7_again_X7_play : GoodIn wsX7_again (wsV RX7 120 RX7 yX7_play wsX7_play) := goodIn_app (goodIn_of _ (by decide +kernel)) ggX7_again_X7_play
theorem dX7_again_0 : decode cX7_again 0 = .ok (.iconst 1, 1) := by decide +kernel
theorem dX7_again_1 : decode cX7_again 1 = .ok (.iload_n 1, 1) := by decide +kernel
theorem dX7_again_2 : decode cX7_again 2 = .ok (.isub, 1) := by decide +kernel
theorem dX7_again_3 : decode cX7_again 3 = .ok (.istore_n 3, 1) := by decide +kernel
theorem dX7_again_4 : decode cX7_again 4 = .ok (.iload_n 2, 1) := by decide +kernel
theorem dX7_again_5 : decode cX7_again 5 = .ok (.istore 4, 2) := by decide +kernel
theorem dX7_again_7 : decode cX7_again 7 = .ok (.iload 4, 2) := by decide +kernel
theorem dX7_again_9 : decode cX7_again 9 = .ok (.aload_n 0, 1) := by decide +kernel
theorem dX7_again_10 : decode cX7_again 10 = .ok (.getfield 7, 3) := by decide +kernel
theorem dX7_again_13 : decode cX7_again 13 = .ok (.iload_n 1, 1) := by decide +kernel
theorem dX7_again_14 : decode cX7_again 14 = .ok (.iaload, 1) := by decide +kernel
theorem dX7_again_15 : decode cX7_again 15 = .ok (.if_icmp .ge 39, 3) := by decide +kernel
theorem dX7_again_18 : decode cX7_again 18 = .ok (.aload_n 0, 1) := by decide +kernel
theorem dX7_again_19 : decode cX7_again 19 = .ok (.getfield 40, 3) := by decide +kernel
theorem dX7_again_22 : decode cX7_again 22 = .ok (.sipush 1200, 3) := by decide +kernel
theorem dX7_again_25 : decode cX7_again 25 = .ok (.iload_n 1, 1) := by decide +kernel
theorem dX7_again_26 : decode cX7_again 26 = .ok (.imul, 1) := by decide +kernel
theorem dX7_again_27 : decode cX7_again 27 = .ok (.sipush 600, 3) := by decide +kernel
theorem dX7_again_30 : decode cX7_again 30 = .ok (.iload_n 3, 1) := by decide +kernel
theorem dX7_again_31 : decode cX7_again 31 = .ok (.imul, 1) := by decide +kernel
theorem dX7_again_32 : decode cX7_again 32 = .ok (.iadd, 1) := by decide +kernel
theorem dX7_again_33 : decode cX7_again 33 = .ok (.iload 4, 2) := by decide +kernel
theorem dX7_again_35 : decode cX7_again 35 = .ok (.iadd, 1) := by decide +kernel
theorem dX7_again_36 : decode cX7_again 36 = .ok (.iaload, 1) := by decide +kernel
theorem dX7_again_37 : decode cX7_again 37 = .ok (.aload_n 0, 1) := by decide +kernel
theorem dX7_again_38 : decode cX7_again 38 = .ok (.iload_n 1, 1) := by decide +kernel
theorem dX7_again_39 : decode cX7_again 39 = .ok (.iload_n 3, 1) := by decide +kernel
theorem dX7_again_40 : decode cX7_again 40 = .ok (.iload 4, 2) := by decide +kernel
theorem dX7_again_42 : decode cX7_again 42 = .ok (.invokevirtual 112, 3) := by decide +kernel
theorem dX7_again_45 : decode cX7_again 45 = .ok (.if_icmp .ne 9, 3) := by decide +kernel
theorem dX7_again_48 : decode cX7_again 48 = .ok (.iinc 4 1, 3) := by decide +kernel
theorem dX7_again_51 : decode cX7_again 51 = .ok (.goto (-44), 3) := by decide +kernel
theorem dX7_again_54 : decode cX7_again 54 = .ok (.aload_n 0, 1) := by decide +kernel
theorem dX7_again_55 : decode cX7_again 55 = .ok (.getfield 7, 3) := by decide +kernel
theorem dX7_again_58 : decode cX7_again 58 = .ok (.iload_n 1, 1) := by decide +kernel
theorem dX7_again_59 : decode cX7_again 59 = .ok (.iaload, 1) := by decide +kernel
theorem dX7_again_60 : decode cX7_again 60 = .ok (.iload 4, 2) := by decide +kernel
theorem dX7_again_62 : decode cX7_again 62 = .ok (.isub, 1) := by decide +kernel
theorem dX7_again_63 : decode cX7_again 63 = .ok (.istore 5, 2) := by decide +kernel
theorem dX7_again_65 : decode cX7_again 65 = .ok (.iload 4, 2) := by decide +kernel
theorem dX7_again_67 : decode cX7_again 67 = .ok (.istore 6, 2) := by decide +kernel
theorem dX7_again_69 : decode cX7_again 69 = .ok (.iload 6, 2) := by decide +kernel
theorem dX7_again_71 : decode cX7_again 71 = .ok (.aload_n 0, 1) := by decide +kernel
theorem dX7_again_72 : decode cX7_again 72 = .ok (.getfield 7, 3) := by decide +kernel
theorem dX7_again_75 : decode cX7_again 75 = .ok (.iload_n 1, 1) := by decide +kernel
theorem dX7_again_76 : decode cX7_again 76 = .ok (.iaload, 1) := by decide +kernel
theorem dX7_again_77 : decode cX7_again 77 = .ok (.if_icmp .ge 16, 3) := by decide +kernel
theorem dX7_again_80 : decode cX7_again 80 = .ok (.aload_n 0, 1) := by decide +kernel
theorem dX7_again_81 : decode cX7_again 81 = .ok (.iload_n 1, 1) := by decide +kernel
theorem dX7_again_82 : decode cX7_again 82 = .ok (.iload 6, 2) := by decide +kernel
theorem dX7_again_84 : decode cX7_again 84 = .ok (.invokevirtual 120, 3) := by decide +kernel
theorem dX7_again_87 : decode cX7_again 87 = .ok (.iinc 6 1, 3) := by decide +kernel
theorem dX7_again_90 : decode cX7_again 90 = .ok (.goto (-21), 3) := by decide +kernel
theorem dX7_again_93 : decode cX7_again 93 = .ok (.iload 5, 2) := by decide +kernel
theorem dX7_again_95 : decode cX7_again 95 = .ok (.ifCond .le 8, 3) := by decide +kernel
theorem dX7_again_98 : decode cX7_again 98 = .ok (.iload 5, 2) := by decide +kernel
theorem dX7_again_100 : decode cX7_again 100 = .ok (.goto 4, 3) := by decide +kernel
theorem dX7_again_103 : decode cX7_again 103 = .ok (.iconst 0, 1) := by decide +kernel
theorem dX7_again_104 : decode cX7_again 104 = .ok (.ireturn, 1) := by decide +kernel
end
section
def tn (x : Int32) : Nat := x.toNatClampNeg
theorem tn_nI {n : Nat} (h : n < 2 ^ 31) : tn (nI n) = n := nI_clamp h
/-- the input of player pl that peer q uses for the frame f -/
def mUse (S : SS) (q pl f : Nat) : Int32 :=
  if f < tn (S.1 12 (2 * q + pl)) then S.1 10 (1200 * q + 600 * pl + f)
  else if (pl ≠ q ∧ ¬ S.1 4 q < 0) ∨ tn (S.1 12 (2 * q + pl)) = 0 then 0 else S.1 10 (1200 * q + 600 * pl + tn (S.1 12 (2 * q + pl)) - 1)
theorem mUse_eq {S : SS} {q pl f N : Nat} (hn : S.1 12 (2 * q + pl) = nI N) (hN : N ≤ 600) : mUse S q pl f = if f < N then S.1 10 (1200 * q + 600 * pl + f) else if (pl ≠ q ∧ ¬ S.1 4 q < 0) ∨ N = 0 then 0 else S.1 10 (1200 * q + 600 * pl + N - 1) := by
  unfold mUse
  rw [hn, tn_nI (by omega)]
/-- the check of a packet -/
def ck (a b c d e f g : Int32) : Int32 := ((((((nI (23 * 37) + a) * nI 37 + b) * nI 37 + c) * nI 37 + d) * nI 37 + e) * nI 37 + f) * nI 37 + g
def hi32 (x : Int64) : Int32 := (x >>> ((nI 32).toInt64 &&& 63)).toInt32
def mChk (S : SS) (k : Nat) : Int32 := ck (S.1 20 k) (S.1 21 k) (S.1 22 k) (S.1 23 k) (S.1 24 k) (S.2.2.1 k).toInt32 (hi32 (S.2.2.1 k))
def mCopy (S : SS) (a b : Nat) : SS := sI (sB (sI (sI (sI (sI (sI S 20 (upd (S.1 20) b (S.1 20 a))) 21 (upd (S.1 21) b (S.1 21 a))) 22 (upd (S.1 22) b (S.1 22 a))) 23 (upd (S.1 23) b (S.1 23 a))) 24 (upd (S.1 24) b (S.1 24 a))) (vp_updL S.2.2.1 b (S.2.2.1 a))) 26 (upd (S.1 26) b (S.1 26 a))
def sh (x : Int32) : Prop := x.toInt16.toInt32 = x
set_option maxHeartbeats 4000000 in
set_option maxRecDepth 100000 in
/-- isTwo(k) -/
theorem c_isTwo (l : Launch) (D : va_G) (cs : Nat → ClassId) (ad : Nat → Nat) (n : Nat) (M : Nat → va_E) (k : Int32) : CTi l yX7_isTwo wsX7_isTwo ({ frames := 0, cells := 0, slots := 0, locals := 0 }) D cs ad n M [.int k] (fun r M2 => M2 = M ∧ r = if k = 0 ∨ k = 1 then 1 else 0) := by
  refine Met.ofW (cc := cX7_isTwo) (maxL := 1) (ret := (some .boolean)) (by decide) rfl ?_
  intro p e s m args below meth c s₁ B hml hv
  obtain ⟨rfl, hP, hK⟩ := hv
  have hx := B.exec
  have hb := B.bytes
  have hr := B.returns
  have hts := atoms_spec (ws := wsX7_isTwo) B.pre
  have hown : s.vm.findClass RX7 = some m.cls := findClass_of_methodNamed B.named
  have hlocks := B.notSynchronized
  have hS : va_S (Ad ad n) s.heap s.heap [] := va_S.rf
  have hl := lv_entry ([.int k]) (n := 1) (Nat.le_of_ble_eq_true rfl)
  rw [lg_entry_eq]
  generalize (lg_sl ([.int k]) ++ List.replicate (1 - (lg_sl ([.int k])).length) Slot.unset).toArray = ls at hl ⊢
  have hl : lv_has ls 1 [(0, .int k)] := hl
  refine lv_iload_n hx hb dX7_isTwo_0 rfl (lv_at hl 0 rfl) ?_
  refine lv_if_eq (tgt := 9) hx hb dX7_isTwo_1 (by decide) (fun c_1 => ?_) (fun c_1 => ?_)
  · refine lv_iconst (v := nI 1) hx hb dX7_isTwo_9 (by decide) ?_
    refine lv_goto (tgt := 14) hx hb dX7_isTwo_10 (by decide) ?_
    exact r_z hx hb hr hlocks hK hP hS dX7_isTwo_14 (by first | rfl | decide) ⟨rfl, (if_pos (by first | exact Or.inl c_1 | exact Or.inr c_2)).symm⟩
  · refine lv_iload_n hx hb dX7_isTwo_4 rfl (lv_at hl 0 rfl) ?_
    refine lv_iconst (v := nI 1) hx hb dX7_isTwo_5 (by decide) ?_
    refine lv_icmp_ne (tgt := 13) hx hb dX7_isTwo_6 (by decide) (fun c_2 => ?_) (fun c_2 => ?_)
    · refine lv_iconst (v := nI 0) hx hb dX7_isTwo_13 (by decide) ?_
      exact r_z hx hb hr hlocks hK hP hS dX7_isTwo_14 (by first | rfl | decide) ⟨rfl, (if_neg (fun z => z.elim c_1 c_2)).symm⟩
    · refine lv_iconst (v := nI 1) hx hb dX7_isTwo_9 (by decide) ?_
      refine lv_goto (tgt := 14) hx hb dX7_isTwo_10 (by decide) ?_
      exact r_z hx hb hr hlocks hK hP hS dX7_isTwo_14 (by first | rfl | decide) ⟨rfl, (if_pos (by first | exact Or.inl c_1 | exact Or.inr c_2)).symm⟩
set_option maxHeartbeats 4000000 in
set_option maxRecDepth 100000 in
/-- useOf(q, pl, f) -/
theorem c_useOf (l : Launch) (D : va_G) (cs : Nat → ClassId) (ad : Nat → Nat) (hJ : Inj ad 26) (d w : Int32) (S : SS) (np ns : UInt32) (q pl f N : Nat) (hq : q < 2) (hp : pl < 2) (hf : f < 600) (hn : S.1 12 (2 * q + pl) = nI N) (hN : N ≤ 600) : CTi l yX7_useOf wsX7_useOf ({ frames := 0, cells := 0, slots := 0, locals := 0 }) D cs ad 26 (mm ad cs d w S np ns) [.ref (ad 0), .int (nI q), .int (nI pl), .int (nI f)] (fun r M2 => M2 = (mm ad cs d w S np ns) ∧ r = mUse S q pl f) := by
  refine Met.ofW (cc := cX7_useOf) (maxL := 6) (ret := (some .int)) (by decide) rfl ?_
  intro p e s m args below meth c s₁ B hml hv
  obtain ⟨rfl, hP, hK⟩ := hv
  have hx := B.exec
  have hb := B.bytes
  have hr := B.returns
  have hts := atoms_spec (ws := wsX7_useOf) B.pre
  have hown : s.vm.findClass RX7 = some m.cls := findClass_of_methodNamed B.named
  have hlocks := B.notSynchronized
  have hS : va_S (Ad ad 26) s.heap s.heap [] := va_S.rf
  have hl := lv_entry ([.ref (ad 0), .int (nI q), .int (nI pl), .int (nI f)]) (n := 6) (Nat.le_of_ble_eq_true rfl)
  rw [lg_entry_eq]
  generalize (lg_sl ([.ref (ad 0), .int (nI q), .int (nI pl), .int (nI f)]) ++ List.replicate (6 - (lg_sl ([.ref (ad 0), .int (nI q), .int (nI pl), .int (nI f)])).length) Slot.unset).toArray = ls at hl ⊢
  have hl : lv_has ls 6 [(0, .ref (ad 0)), (1, .int (nI q)), (2, .int (nI pl)), (3, .int (nI f))] := hl
  have inX7 : ∀ w ∈ u_ws RX7 TX7 29, w ∈ wsX7_useOf := by decide +kernel
  refine lv_aload_n hx hb dX7_useOf_0 rfl (lv_at hl 0 rfl) ?_
  refine m_get hx hb hts inX7 hown hK hP (ci := 7) rfl (k := 0) (by decide) rfl 12 (by decide) (hts (.fieldLink RX7 43 "RollbackPairModel" "known" "[I") (by decide +kernel)) rfl dX7_useOf_1 ?_
  refine lv_iconst (v := nI 2) hx hb dX7_useOf_4 (by decide) ?_
  refine lv_iload_n hx hb dX7_useOf_5 rfl (lv_at hl 1 rfl) ?_
  refine n_mul hx hb dX7_useOf_6 ?_
  refine lv_iload_n hx hb dX7_useOf_7 rfl (lv_at hl 2 rfl) ?_
  refine n_add hx hb dX7_useOf_8 ?_
  refine m_iald hx hb hK hP (k := 11) (by decide) (f := (S.1 12)) rfl (i := 2 * q + pl) (by omega) (by decide) dX7_useOf_9 ?_
  refine n_val hn ?_
  refine lv_istore (lv' := [(4, .int (nI N)), (0, .ref (ad 0)), (1, .int (nI q)), (2, .int (nI pl)), (3, .int (nI f))]) hx hb dX7_useOf_10 hl (by decide) rfl (fun ls hl => ?_)
  refine lv_sipush (v := nI 1200) hx hb dX7_useOf_12 (by decide) ?_
  refine lv_iload_n hx hb dX7_useOf_15 rfl (lv_at hl 2 rfl) ?_
  refine n_mul hx hb dX7_useOf_16 ?_
  refine lv_sipush (v := nI 600) hx hb dX7_useOf_17 (by decide) ?_
  refine lv_iload_n hx hb dX7_useOf_20 rfl (lv_at hl 3 rfl) ?_
  refine n_mul hx hb dX7_useOf_21 ?_
  refine n_add hx hb dX7_useOf_22 ?_
  refine lv_istore (lv' := [(5, .int (nI (1200 * q + (600 * pl)))), (4, .int (nI N)), (0, .ref (ad 0)), (1, .int (nI q)), (2, .int (nI pl)), (3, .int (nI f))]) hx hb dX7_useOf_23 hl (by decide) rfl (fun ls hl => ?_)
  refine lv_iload_n hx hb dX7_useOf_25 rfl (lv_at hl 5 rfl) ?_
  refine lv_iload hx hb dX7_useOf_26 (lv_at hl 1 rfl) ?_
  refine n_cmp_ge (tgt := 41) hx hb dX7_useOf_28 (by decide) (by omega) (by omega) (fun c_1 => ?_) (fun c_1 => ?_)
  · refine lv_iload_n hx hb dX7_useOf_41 rfl (lv_at hl 4 rfl) ?_
    refine lv_iload_n hx hb dX7_useOf_42 rfl (lv_at hl 3 rfl) ?_
    refine n_cmp_eq (tgt := 55) hx hb dX7_useOf_43 (by decide) (by omega) (by omega) (fun c_2 => ?_) (fun c_2 => ?_)
    · refine lv_iload hx hb dX7_useOf_55 (lv_at hl 1 rfl) ?_
      refine n_if_ne (tgt := 62) hx hb dX7_useOf_57 (by decide) (by omega) (fun c_3 => ?_) (fun c_3 => ?_)
      · refine lv_aload_n hx hb dX7_useOf_62 rfl (lv_at hl 2 rfl) ?_
        refine m_get hx hb hts inX7 hown hK hP (ci := 7) rfl (k := 0) (by decide) rfl 10 (by decide) (hts (.fieldLink RX7 37 "RollbackPairModel" "input" "[I") (by decide +kernel)) rfl dX7_useOf_63 ?_
        refine lv_iload hx hb dX7_useOf_66 (lv_at hl 0 rfl) ?_
        refine lv_iload hx hb dX7_useOf_68 (lv_at hl 1 rfl) ?_
        refine n_add hx hb dX7_useOf_70 ?_
        refine lv_iconst (v := nI 1) hx hb dX7_useOf_71 (by decide) ?_
        refine n_sub hx hb (by omega) dX7_useOf_72 ?_
        refine m_iald hx hb hK hP (k := 9) (by decide) (f := (S.1 10)) rfl (i := 1200 * q + (600 * pl) + N - 1) (by omega) (by decide) dX7_useOf_73 ?_
        have hE := mUse_eq (f := f) hn hN
        exact r_i hx hb hr hlocks hK hP hS dX7_useOf_74 ⟨rfl, by rw [hE]; by_cases hh : f < N <;> simp [hh, nI_0, *] <;> omega⟩
      · refine lv_iconst (v := nI 0) hx hb dX7_useOf_60 (by decide) ?_
        have hE := mUse_eq (f := f) hn hN
        exact r_i hx hb hr hlocks hK hP hS dX7_useOf_61 ⟨rfl, by rw [hE]; by_cases hh : f < N <;> simp [hh, nI_0, *] <;> omega⟩
    · refine lv_aload_n hx hb dX7_useOf_46 rfl (lv_at hl 2 rfl) ?_
      refine m_get hx hb hts inX7 hown hK hP (ci := 7) rfl (k := 0) (by decide) rfl 4 (by decide) (hts (.fieldLink RX7 16 "RollbackPairModel" "cut" "[I") (by decide +kernel)) rfl dX7_useOf_47 ?_
      refine lv_iload_n hx hb dX7_useOf_50 rfl (lv_at hl 3 rfl) ?_
      refine m_iald hx hb hK hP (k := 3) (by decide) (f := (S.1 4)) rfl (i := q) (by omega) (by decide) dX7_useOf_51 ?_
      refine lv_if_ge (tgt := 60) hx hb dX7_useOf_52 (by decide) (fun c_4 => ?_) (fun c_4 => ?_)
      · refine lv_iconst (v := nI 0) hx hb dX7_useOf_60 (by decide) ?_
        have hE := mUse_eq (f := f) hn hN
        exact r_i hx hb hr hlocks hK hP hS dX7_useOf_61 ⟨rfl, by rw [hE]; by_cases hh : f < N <;> simp [hh, nI_0, *] <;> omega⟩
      · refine lv_iload hx hb dX7_useOf_55 (lv_at hl 1 rfl) ?_
        refine n_if_ne (tgt := 62) hx hb dX7_useOf_57 (by decide) (by omega) (fun c_5 => ?_) (fun c_5 => ?_)
        · refine lv_aload_n hx hb dX7_useOf_62 rfl (lv_at hl 2 rfl) ?_
          refine m_get hx hb hts inX7 hown hK hP (ci := 7) rfl (k := 0) (by decide) rfl 10 (by decide) (hts (.fieldLink RX7 37 "RollbackPairModel" "input" "[I") (by decide +kernel)) rfl dX7_useOf_63 ?_
          refine lv_iload hx hb dX7_useOf_66 (lv_at hl 0 rfl) ?_
          refine lv_iload hx hb dX7_useOf_68 (lv_at hl 1 rfl) ?_
          refine n_add hx hb dX7_useOf_70 ?_
          refine lv_iconst (v := nI 1) hx hb dX7_useOf_71 (by decide) ?_
          refine n_sub hx hb (by omega) dX7_useOf_72 ?_
          refine m_iald hx hb hK hP (k := 9) (by decide) (f := (S.1 10)) rfl (i := 1200 * q + (600 * pl) + N - 1) (by omega) (by decide) dX7_useOf_73 ?_
          have hE := mUse_eq (f := f) hn hN
          exact r_i hx hb hr hlocks hK hP hS dX7_useOf_74 ⟨rfl, by rw [hE]; by_cases hh : f < N <;> simp [hh, nI_0, *] <;> omega⟩
        · refine lv_iconst (v := nI 0) hx hb dX7_useOf_60 (by decide) ?_
          have hE := mUse_eq (f := f) hn hN
          exact r_i hx hb hr hlocks hK hP hS dX7_useOf_61 ⟨rfl, by rw [hE]; by_cases hh : f < N <;> simp [hh, nI_0, *] <;> omega⟩
  · refine lv_aload_n hx hb dX7_useOf_31 rfl (lv_at hl 2 rfl) ?_
    refine m_get hx hb hts inX7 hown hK hP (ci := 7) rfl (k := 0) (by decide) rfl 10 (by decide) (hts (.fieldLink RX7 37 "RollbackPairModel" "input" "[I") (by decide +kernel)) rfl dX7_useOf_32 ?_
    refine lv_iload hx hb dX7_useOf_35 (lv_at hl 0 rfl) ?_
    refine lv_iload_n hx hb dX7_useOf_37 rfl (lv_at hl 5 rfl) ?_
    refine n_add hx hb dX7_useOf_38 ?_
    refine m_iald hx hb hK hP (k := 9) (by decide) (f := (S.1 10)) rfl (i := 1200 * q + (600 * pl) + f) (by omega) (by decide) dX7_useOf_39 ?_
    have hE := mUse_eq (f := f) hn hN
    exact r_i hx hb hr hlocks hK hP hS dX7_useOf_40 ⟨rfl, by rw [hE]; by_cases hh : f < N <;> simp [hh, nI_0, *] <;> omega⟩
set_option maxHeartbeats 4000000 in
set_option maxRecDepth 100000 in
/-- check(k) -/
theorem c_check (l : Launch) (D : va_G) (cs : Nat → ClassId) (ad : Nat → Nat) (hJ : Inj ad 26) (d w : Int32) (S : SS) (np ns : UInt32) (k : Nat) (hk : k < 25) : CTi l yX7_check wsX7_check ({ frames := 0, cells := 0, slots := 0, locals := 0 }) D cs ad 26 (mm ad cs d w S np ns) [.ref (ad 0), .int (nI k)] (fun r M2 => M2 = (mm ad cs d w S np ns) ∧ r = mChk S k) := by
  refine Met.ofW (cc := cX7_check) (maxL := 3) (ret := (some .int)) (by decide) rfl ?_
  intro p e s m args below meth c s₁ B hml hv
  obtain ⟨rfl, hP, hK⟩ := hv
  have hx := B.exec
  have hb := B.bytes
  have hr := B.returns
  have hts := atoms_spec (ws := wsX7_check) B.pre
  have hown : s.vm.findClass RX7 = some m.cls := findClass_of_methodNamed B.named
  have hlocks := B.notSynchronized
  have hS : va_S (Ad ad 26) s.heap s.heap [] := va_S.rf
  have hl := lv_entry ([.ref (ad 0), .int (nI k)]) (n := 3) (Nat.le_of_ble_eq_true rfl)
  rw [lg_entry_eq]
  generalize (lg_sl ([.ref (ad 0), .int (nI k)]) ++ List.replicate (3 - (lg_sl ([.ref (ad 0), .int (nI k)])).length) Slot.unset).toArray = ls at hl ⊢
  have hl : lv_has ls 3 [(0, .ref (ad 0)), (1, .int (nI k))] := hl
  have inX7 : ∀ w ∈ u_ws RX7 TX7 29, w ∈ wsX7_check := by decide +kernel
  refine lv_bipush (v := nI 23) hx hb dX7_check_0 (by decide) ?_
  refine lv_istore_n (lv' := [(2, .int (nI 23)), (0, .ref (ad 0)), (1, .int (nI k))]) hx hb dX7_check_2 rfl hl (by decide) rfl (fun ls hl => ?_)
  refine lv_iload_n hx hb dX7_check_3 rfl (lv_at hl 0 rfl) ?_
  refine lv_bipush (v := nI 37) hx hb dX7_check_4 (by decide) ?_
  refine n_mul hx hb dX7_check_6 ?_
  refine lv_aload_n hx hb dX7_check_7 rfl (lv_at hl 1 rfl) ?_
  refine m_get hx hb hts inX7 hown hK hP (ci := 7) rfl (k := 0) (by decide) rfl 20 (by decide) (hts (.fieldLink RX7 68 "RollbackPairModel" "pNumber" "[S") (by decide +kernel)) rfl dX7_check_8 ?_
  refine lv_iload_n hx hb dX7_check_11 rfl (lv_at hl 2 rfl) ?_
  refine m_sald hx hb hK hP (k := 19) (by decide) (f := (S.1 20)) rfl (i := k) (by omega) (by decide) dX7_check_12 ?_
  refine lv_iadd hx hb dX7_check_13 ?_
  refine lv_istore_n (lv' := [(2, .int ((nI (23 * 37)) + ((S.1 20) k))), (0, .ref (ad 0)), (1, .int (nI k))]) hx hb dX7_check_14 rfl hl (by decide) rfl (fun ls hl => ?_)
  refine lv_iload_n hx hb dX7_check_15 rfl (lv_at hl 0 rfl) ?_
  refine lv_bipush (v := nI 37) hx hb dX7_check_16 (by decide) ?_
  refine lv_imul hx hb dX7_check_18 ?_
  refine lv_aload_n hx hb dX7_check_19 rfl (lv_at hl 1 rfl) ?_
  refine m_get hx hb hts inX7 hown hK hP (ci := 7) rfl (k := 0) (by decide) rfl 21 (by decide) (hts (.fieldLink RX7 71 "RollbackPairModel" "pFrame" "[I") (by decide +kernel)) rfl dX7_check_20 ?_
  refine lv_iload_n hx hb dX7_check_23 rfl (lv_at hl 2 rfl) ?_
  refine m_iald hx hb hK hP (k := 20) (by decide) (f := (S.1 21)) rfl (i := k) (by omega) (by decide) dX7_check_24 ?_
  refine lv_iadd hx hb dX7_check_25 ?_
  refine lv_istore_n (lv' := [(2, .int ((((nI (23 * 37)) + ((S.1 20) k)) * (nI 37)) + ((S.1 21) k))), (0, .ref (ad 0)), (1, .int (nI k))]) hx hb dX7_check_26 rfl hl (by decide) rfl (fun ls hl => ?_)
  refine lv_iload_n hx hb dX7_check_27 rfl (lv_at hl 0 rfl) ?_
  refine lv_bipush (v := nI 37) hx hb dX7_check_28 (by decide) ?_
  refine lv_imul hx hb dX7_check_30 ?_
  refine lv_aload_n hx hb dX7_check_31 rfl (lv_at hl 1 rfl) ?_
  refine m_get hx hb hts inX7 hown hK hP (ci := 7) rfl (k := 0) (by decide) rfl 22 (by decide) (hts (.fieldLink RX7 74 "RollbackPairModel" "pAck" "[I") (by decide +kernel)) rfl dX7_check_32 ?_
  refine lv_iload_n hx hb dX7_check_35 rfl (lv_at hl 2 rfl) ?_
  refine m_iald hx hb hK hP (k := 21) (by decide) (f := (S.1 22)) rfl (i := k) (by omega) (by decide) dX7_check_36 ?_
  refine lv_iadd hx hb dX7_check_37 ?_
  refine lv_istore_n (lv' := [(2, .int ((((((nI (23 * 37)) + ((S.1 20) k)) * (nI 37)) + ((S.1 21) k)) * (nI 37)) + ((S.1 22) k))), (0, .ref (ad 0)), (1, .int (nI k))]) hx hb dX7_check_38 rfl hl (by decide) rfl (fun ls hl => ?_)
  refine lv_iload_n hx hb dX7_check_39 rfl (lv_at hl 0 rfl) ?_
  refine lv_bipush (v := nI 37) hx hb dX7_check_40 (by decide) ?_
  refine lv_imul hx hb dX7_check_42 ?_
  refine lv_aload_n hx hb dX7_check_43 rfl (lv_at hl 1 rfl) ?_
  refine m_get hx hb hts inX7 hown hK hP (ci := 7) rfl (k := 0) (by decide) rfl 23 (by decide) (hts (.fieldLink RX7 77 "RollbackPairModel" "pFirst" "[I") (by decide +kernel)) rfl dX7_check_44 ?_
  refine lv_iload_n hx hb dX7_check_47 rfl (lv_at hl 2 rfl) ?_
  refine m_iald hx hb hK hP (k := 22) (by decide) (f := (S.1 23)) rfl (i := k) (by omega) (by decide) dX7_check_48 ?_
  refine lv_iadd hx hb dX7_check_49 ?_
  refine lv_istore_n (lv' := [(2, .int ((((((((nI (23 * 37)) + ((S.1 20) k)) * (nI 37)) + ((S.1 21) k)) * (nI 37)) + ((S.1 22) k)) * (nI 37)) + ((S.1 23) k))), (0, .ref (ad 0)), (1, .int (nI k))]) hx hb dX7_check_50 rfl hl (by decide) rfl (fun ls hl => ?_)
  refine lv_iload_n hx hb dX7_check_51 rfl (lv_at hl 0 rfl) ?_
  refine lv_bipush (v := nI 37) hx hb dX7_check_52 (by decide) ?_
  refine lv_imul hx hb dX7_check_54 ?_
  refine lv_aload_n hx hb dX7_check_55 rfl (lv_at hl 1 rfl) ?_
  refine m_get hx hb hts inX7 hown hK hP (ci := 7) rfl (k := 0) (by decide) rfl 24 (by decide) (hts (.fieldLink RX7 80 "RollbackPairModel" "pCount" "[I") (by decide +kernel)) rfl dX7_check_56 ?_
  refine lv_iload_n hx hb dX7_check_59 rfl (lv_at hl 2 rfl) ?_
  refine m_iald hx hb hK hP (k := 23) (by decide) (f := (S.1 24)) rfl (i := k) (by omega) (by decide) dX7_check_60 ?_
  refine lv_iadd hx hb dX7_check_61 ?_
  refine lv_istore_n (lv' := [(2, .int ((((((((((nI (23 * 37)) + ((S.1 20) k)) * (nI 37)) + ((S.1 21) k)) * (nI 37)) + ((S.1 22) k)) * (nI 37)) + ((S.1 23) k)) * (nI 37)) + ((S.1 24) k))), (0, .ref (ad 0)), (1, .int (nI k))]) hx hb dX7_check_62 rfl hl (by decide) rfl (fun ls hl => ?_)
  refine lv_iload_n hx hb dX7_check_63 rfl (lv_at hl 0 rfl) ?_
  refine lv_bipush (v := nI 37) hx hb dX7_check_64 (by decide) ?_
  refine lv_imul hx hb dX7_check_66 ?_
  refine lv_aload_n hx hb dX7_check_67 rfl (lv_at hl 1 rfl) ?_
  refine m_get hx hb hts inX7 hown hK hP (ci := 7) rfl (k := 0) (by decide) rfl 25 (by decide) (hts (.fieldLink RX7 83 "RollbackPairModel" "pBits" "[J") (by decide +kernel)) rfl dX7_check_68 ?_
  refine lv_iload_n hx hb dX7_check_71 rfl (lv_at hl 2 rfl) ?_
  refine m_lald hx hb hK hP (k := 24) (by decide) (f := S.2.2.1) rfl (i := k) (by omega) (by decide) dX7_check_72 ?_
  refine lv_l2i hx hb dX7_check_73 rfl ?_
  refine lv_iadd hx hb dX7_check_74 ?_
  refine lv_istore_n (lv' := [(2, .int ((((((((((((nI (23 * 37)) + ((S.1 20) k)) * (nI 37)) + ((S.1 21) k)) * (nI 37)) + ((S.1 22) k)) * (nI 37)) + ((S.1 23) k)) * (nI 37)) + ((S.1 24) k)) * (nI 37)) + ((S.2.2.1 k).toInt32))), (0, .ref (ad 0)), (1, .int (nI k))]) hx hb dX7_check_75 rfl hl (by decide) rfl (fun ls hl => ?_)
  refine lv_iload_n hx hb dX7_check_76 rfl (lv_at hl 0 rfl) ?_
  refine lv_bipush (v := nI 37) hx hb dX7_check_77 (by decide) ?_
  refine lv_imul hx hb dX7_check_79 ?_
  refine lv_aload_n hx hb dX7_check_80 rfl (lv_at hl 1 rfl) ?_
  refine m_get hx hb hts inX7 hown hK hP (ci := 7) rfl (k := 0) (by decide) rfl 25 (by decide) (hts (.fieldLink RX7 83 "RollbackPairModel" "pBits" "[J") (by decide +kernel)) rfl dX7_check_81 ?_
  refine lv_iload_n hx hb dX7_check_84 rfl (lv_at hl 2 rfl) ?_
  refine m_lald hx hb hK hP (k := 24) (by decide) (f := S.2.2.1) rfl (i := k) (by omega) (by decide) dX7_check_85 ?_
  refine lv_bipush (v := nI 32) hx hb dX7_check_86 (by decide) ?_
  refine lv_lshr hx hb dX7_check_88 rfl ?_
  refine lv_l2i hx hb dX7_check_89 rfl ?_
  refine lv_iadd hx hb dX7_check_90 ?_
  exact r_i hx hb hr hlocks hK hP hS dX7_check_91 ⟨rfl, rfl⟩
set_option maxHeartbeats 4000000 in
set_option maxRecDepth 100000 in
/-- copy(a, b) -/
theorem c_copy (l : Launch) (D : va_G) (cs : Nat → ClassId) (ad : Nat → Nat) (hJ : Inj ad 26) (d w : Int32) (S : SS) (np ns : UInt32) (a b : Nat) (ha : a < 25) (hb0 : b < 25) (hsh : sh (S.1 20 a)) : CTv l yX7_copy wsX7_copy ({ frames := 0, cells := 0, slots := 0, locals := 0 }) D cs ad 26 (mm ad cs d w S np ns) [.ref (ad 0), .int (nI a), .int (nI b)] (fun M2 => M2 = mm ad cs d w (mCopy S a b) np ns) := by
  refine Met.ofW (cc := cX7_copy) (maxL := 3) (ret := none) (by decide) rfl ?_
  intro p e s m args below meth c s₁ B hml hv
  obtain ⟨rfl, hP, hK⟩ := hv
  have hx := B.exec
  have hb := B.bytes
  have hr := B.returns
  have hts := atoms_spec (ws := wsX7_copy) B.pre
  have hown : s.vm.findClass RX7 = some m.cls := findClass_of_methodNamed B.named
  have hlocks := B.notSynchronized
  have hS : va_S (Ad ad 26) s.heap s.heap [] := va_S.rf
  have hl := lv_entry ([.ref (ad 0), .int (nI a), .int (nI b)]) (n := 3) (Nat.le_of_ble_eq_true rfl)
  rw [lg_entry_eq]
  generalize (lg_sl ([.ref (ad 0), .int (nI a), .int (nI b)]) ++ List.replicate (3 - (lg_sl ([.ref (ad 0), .int (nI a), .int (nI b)])).length) Slot.unset).toArray = ls at hl ⊢
  have hl : lv_has ls 3 [(0, .ref (ad 0)), (1, .int (nI a)), (2, .int (nI b))] := hl
  have inX7 : ∀ w ∈ u_ws RX7 TX7 29, w ∈ wsX7_copy := by decide +kernel
  refine lv_aload_n hx hb dX7_copy_0 rfl (lv_at hl 0 rfl) ?_
  refine m_get hx hb hts inX7 hown hK hP (ci := 7) rfl (k := 0) (by decide) rfl 20 (by decide) (hts (.fieldLink RX7 68 "RollbackPairModel" "pNumber" "[S") (by decide +kernel)) rfl dX7_copy_1 ?_
  refine lv_iload_n hx hb dX7_copy_4 rfl (lv_at hl 2 rfl) ?_
  refine lv_aload_n hx hb dX7_copy_5 rfl (lv_at hl 0 rfl) ?_
  refine m_get hx hb hts inX7 hown hK hP (ci := 7) rfl (k := 0) (by decide) rfl 20 (by decide) (hts (.fieldLink RX7 68 "RollbackPairModel" "pNumber" "[S") (by decide +kernel)) rfl dX7_copy_6 ?_
  refine lv_iload_n hx hb dX7_copy_9 rfl (lv_at hl 1 rfl) ?_
  refine m_sald hx hb hK hP (k := 19) (by decide) (f := (S.1 20)) rfl (i := a) (by omega) (by decide) dX7_copy_10 ?_
  refine m_sast hx hb hK hP hJ hS (k := 19) (by decide) (f := (S.1 20)) rfl (i := b) (y := S.1 20 a) (by omega) (by decide) hsh dX7_copy_11 (fun H locs hP hS => ?_)
  rw [mm_up20] at hP
  refine lv_aload_n hx hb dX7_copy_12 rfl (lv_at hl 0 rfl) ?_
  refine m_get hx hb hts inX7 hown hK hP (ci := 7) rfl (k := 0) (by decide) rfl 21 (by decide) (hts (.fieldLink RX7 71 "RollbackPairModel" "pFrame" "[I") (by decide +kernel)) rfl dX7_copy_13 ?_
  refine lv_iload_n hx hb dX7_copy_16 rfl (lv_at hl 2 rfl) ?_
  refine lv_aload_n hx hb dX7_copy_17 rfl (lv_at hl 0 rfl) ?_
  refine m_get hx hb hts inX7 hown hK hP (ci := 7) rfl (k := 0) (by decide) rfl 21 (by decide) (hts (.fieldLink RX7 71 "RollbackPairModel" "pFrame" "[I") (by decide +kernel)) rfl dX7_copy_18 ?_
  refine lv_iload_n hx hb dX7_copy_21 rfl (lv_at hl 1 rfl) ?_
  refine m_iald hx hb hK hP (k := 20) (by decide) (f := (S.1 21)) rfl (i := a) (by omega) (by decide) dX7_copy_22 ?_
  refine m_iast hx hb hK hP hJ hS (k := 20) (by decide) (f := (S.1 21)) rfl (i := b) (by omega) (by decide) dX7_copy_23 (fun H locs hP hS => ?_)
  rw [mm_up21] at hP
  refine lv_aload_n hx hb dX7_copy_24 rfl (lv_at hl 0 rfl) ?_
  refine m_get hx hb hts inX7 hown hK hP (ci := 7) rfl (k := 0) (by decide) rfl 22 (by decide) (hts (.fieldLink RX7 74 "RollbackPairModel" "pAck" "[I") (by decide +kernel)) rfl dX7_copy_25 ?_
  refine lv_iload_n hx hb dX7_copy_28 rfl (lv_at hl 2 rfl) ?_
  refine lv_aload_n hx hb dX7_copy_29 rfl (lv_at hl 0 rfl) ?_
  refine m_get hx hb hts inX7 hown hK hP (ci := 7) rfl (k := 0) (by decide) rfl 22 (by decide) (hts (.fieldLink RX7 74 "RollbackPairModel" "pAck" "[I") (by decide +kernel)) rfl dX7_copy_30 ?_
  refine lv_iload_n hx hb dX7_copy_33 rfl (lv_at hl 1 rfl) ?_
  refine m_iald hx hb hK hP (k := 21) (by decide) (f := (S.1 22)) rfl (i := a) (by omega) (by decide) dX7_copy_34 ?_
  refine m_iast hx hb hK hP hJ hS (k := 21) (by decide) (f := (S.1 22)) rfl (i := b) (by omega) (by decide) dX7_copy_35 (fun H locs hP hS => ?_)
  rw [mm_up22] at hP
  refine lv_aload_n hx hb dX7_copy_36 rfl (lv_at hl 0 rfl) ?_
  refine m_get hx hb hts inX7 hown hK hP (ci := 7) rfl (k := 0) (by decide) rfl 23 (by decide) (hts (.fieldLink RX7 77 "RollbackPairModel" "pFirst" "[I") (by decide +kernel)) rfl dX7_copy_37 ?_
  refine lv_iload_n hx hb dX7_copy_40 rfl (lv_at hl 2 rfl) ?_
  refine lv_aload_n hx hb dX7_copy_41 rfl (lv_at hl 0 rfl) ?_
  refine m_get hx hb hts inX7 hown hK hP (ci := 7) rfl (k := 0) (by decide) rfl 23 (by decide) (hts (.fieldLink RX7 77 "RollbackPairModel" "pFirst" "[I") (by decide +kernel)) rfl dX7_copy_42 ?_
  refine lv_iload_n hx hb dX7_copy_45 rfl (lv_at hl 1 rfl) ?_
  refine m_iald hx hb hK hP (k := 22) (by decide) (f := (S.1 23)) rfl (i := a) (by omega) (by decide) dX7_copy_46 ?_
  refine m_iast hx hb hK hP hJ hS (k := 22) (by decide) (f := (S.1 23)) rfl (i := b) (by omega) (by decide) dX7_copy_47 (fun H locs hP hS => ?_)
  rw [mm_up23] at hP
  refine lv_aload_n hx hb dX7_copy_48 rfl (lv_at hl 0 rfl) ?_
  refine m_get hx hb hts inX7 hown hK hP (ci := 7) rfl (k := 0) (by decide) rfl 24 (by decide) (hts (.fieldLink RX7 80 "RollbackPairModel" "pCount" "[I") (by decide +kernel)) rfl dX7_copy_49 ?_
  refine lv_iload_n hx hb dX7_copy_52 rfl (lv_at hl 2 rfl) ?_
  refine lv_aload_n hx hb dX7_copy_53 rfl (lv_at hl 0 rfl) ?_
  refine m_get hx hb hts inX7 hown hK hP (ci := 7) rfl (k := 0) (by decide) rfl 24 (by decide) (hts (.fieldLink RX7 80 "RollbackPairModel" "pCount" "[I") (by decide +kernel)) rfl dX7_copy_54 ?_
  refine lv_iload_n hx hb dX7_copy_57 rfl (lv_at hl 1 rfl) ?_
  refine m_iald hx hb hK hP (k := 23) (by decide) (f := (S.1 24)) rfl (i := a) (by omega) (by decide) dX7_copy_58 ?_
  refine m_iast hx hb hK hP hJ hS (k := 23) (by decide) (f := (S.1 24)) rfl (i := b) (by omega) (by decide) dX7_copy_59 (fun H locs hP hS => ?_)
  rw [mm_up24] at hP
  refine lv_aload_n hx hb dX7_copy_60 rfl (lv_at hl 0 rfl) ?_
  refine m_get hx hb hts inX7 hown hK hP (ci := 7) rfl (k := 0) (by decide) rfl 25 (by decide) (hts (.fieldLink RX7 83 "RollbackPairModel" "pBits" "[J") (by decide +kernel)) rfl dX7_copy_61 ?_
  refine lv_iload_n hx hb dX7_copy_64 rfl (lv_at hl 2 rfl) ?_
  refine lv_aload_n hx hb dX7_copy_65 rfl (lv_at hl 0 rfl) ?_
  refine m_get hx hb hts inX7 hown hK hP (ci := 7) rfl (k := 0) (by decide) rfl 25 (by decide) (hts (.fieldLink RX7 83 "RollbackPairModel" "pBits" "[J") (by decide +kernel)) rfl dX7_copy_66 ?_
  refine lv_iload_n hx hb dX7_copy_69 rfl (lv_at hl 1 rfl) ?_
  refine m_lald hx hb hK hP (k := 24) (by decide) (f := S.2.2.1) rfl (i := a) (by omega) (by decide) dX7_copy_70 ?_
  refine m_last hx hb hK hP hJ hS (k := 24) (by decide) (f := S.2.2.1) rfl (i := b) (by omega) (by decide) dX7_copy_71 (fun H locs hP hS => ?_)
  rw [mm_up25] at hP
  refine lv_aload_n hx hb dX7_copy_72 rfl (lv_at hl 0 rfl) ?_
  refine m_get hx hb hts inX7 hown hK hP (ci := 7) rfl (k := 0) (by decide) rfl 26 (by decide) (hts (.fieldLink RX7 87 "RollbackPairModel" "pCheck" "[I") (by decide +kernel)) rfl dX7_copy_73 ?_
  refine lv_iload_n hx hb dX7_copy_76 rfl (lv_at hl 2 rfl) ?_
  refine lv_aload_n hx hb dX7_copy_77 rfl (lv_at hl 0 rfl) ?_
  refine m_get hx hb hts inX7 hown hK hP (ci := 7) rfl (k := 0) (by decide) rfl 26 (by decide) (hts (.fieldLink RX7 87 "RollbackPairModel" "pCheck" "[I") (by decide +kernel)) rfl dX7_copy_78 ?_
  refine lv_iload_n hx hb dX7_copy_81 rfl (lv_at hl 1 rfl) ?_
  refine m_iald hx hb hK hP (k := 25) (by decide) (f := (S.1 26)) rfl (i := a) (by omega) (by decide) dX7_copy_82 ?_
  refine m_iast hx hb hK hP hJ hS (k := 25) (by decide) (f := (S.1 26)) rfl (i := b) (by omega) (by decide) dX7_copy_83 (fun H locs hP hS => ?_)
  rw [mm_up26] at hP
  exact r_v hx hb hr hlocks hK hP hS dX7_copy_84 rfl
end
section
/-! floats and doubles as whole numbers of their least units; what is bounded stays finite -/
/-- what a product of two data of a format rounds to -/
theorem fl_mul_units {f : FP.Core.Fmt} {s t : Bool} {c d : Nat} {q r : Int} (hx : FP.Core.fits f (.fin s c q)) (hy : FP.Core.fits f (.fin t d r)) (hq : f.qmin ≤ 0) :
    f.qmin + f.qmin ≤ q + r ∧ FP.Core.signed (s != t) (FP.Core.inUnits (c * d) (q + r) (f.qmin + f.qmin)) = FP.Core.zval f (.fin s c q) * FP.Core.zval f (.fin t d r) := by
  have h1 := hx.2.1
  have h2 := hy.2.1
  refine ⟨by omega, ?_⟩
  have hu : FP.Core.inUnits (c * d) (q + r) (f.qmin + f.qmin) = FP.Core.inUnits c q f.qmin * FP.Core.inUnits d r f.qmin := by
    unfold FP.Core.inUnits
    rw [show (q + r - (f.qmin + f.qmin)).toNat = (q - f.qmin).toNat + (r - f.qmin).toNat by omega, Nat.pow_add]
    ac_rfl
  rw [hu]
  simp only [FP.Core.zval, FP.Core.sgn, FP.Core.zmag]
  generalize FP.Core.inUnits c q f.qmin = a
  generalize FP.Core.inUnits d r f.qmin = b
  cases s <;> cases t <;> simp [FP.Core.signed, Int.neg_mul, Int.mul_neg]
theorem fl_mul_le {f : FP.Core.Fmt} (hf : FP.Core.Good f) {x y V : FP.Core.Datum} (hx : ∃ s c q, x = .fin s c q) (hy : ∃ s c q, y = .fin s c q) (fx : FP.Core.fits f x) (fy : FP.Core.fits f y) (fV : FP.Core.fits f V) (hV : V ≠ .nan)
    (h : FP.Core.zval f x * FP.Core.zval f y ≤ FP.Core.zval f V * ((2 ^ (-f.qmin).toNat : Nat) : Int)) : FP.Core.zval f (FP.Core.round f (FP.Core.exactProduct x y)) ≤ FP.Core.zval f V := by
  obtain ⟨s, c, q, rfl⟩ := hx
  obtain ⟨t, d, r, rfl⟩ := hy
  have hq := FP.Core.qmin_neg hf
  obtain ⟨h1, h2⟩ := fl_mul_units fx fy (by omega)
  refine FP.Core.zval_round_le hf fV hV (e0 := f.qmin + f.qmin) (by omega) h1 ?_
  rw [h2, show (f.qmin - (f.qmin + f.qmin)).toNat = (-f.qmin).toNat by omega]
  exact h
theorem fl_mul_ge {f : FP.Core.Fmt} (hf : FP.Core.Good f) {x y V : FP.Core.Datum} (hx : ∃ s c q, x = .fin s c q) (hy : ∃ s c q, y = .fin s c q) (fx : FP.Core.fits f x) (fy : FP.Core.fits f y) (fV : FP.Core.fits f V) (hV : V ≠ .nan)
    (h : FP.Core.zval f V * ((2 ^ (-f.qmin).toNat : Nat) : Int) ≤ FP.Core.zval f x * FP.Core.zval f y) : FP.Core.zval f V ≤ FP.Core.zval f (FP.Core.round f (FP.Core.exactProduct x y)) := by
  obtain ⟨s, c, q, rfl⟩ := hx
  obtain ⟨t, d, r, rfl⟩ := hy
  have hq := FP.Core.qmin_neg hf
  obtain ⟨h1, h2⟩ := fl_mul_units fx fy (by omega)
  refine FP.Core.zval_round_ge hf fV hV (e0 := f.qmin + f.qmin) (by omega) h1 ?_
  rw [h2, show (f.qmin - (f.qmin + f.qmin)).toNat = (-f.qmin).toNat by omega]
  exact h
/-- a rounded finite number within two numbers of the format is finite -/
theorem fl_fin {f : FP.Core.Fmt} (hf : FP.Core.Good f) {s : Bool} {c : Nat} {q : Int} {A V : FP.Core.Datum} (hA : ∃ s c q, A = .fin s c q) (hV : ∃ s c q, V = .fin s c q) (fA : FP.Core.fits f A) (fV : FP.Core.fits f V)
    (h1 : FP.Core.zval f A ≤ FP.Core.zval f (FP.Core.round f (.fin s c q))) (h2 : FP.Core.zval f (FP.Core.round f (.fin s c q)) ≤ FP.Core.zval f V) : ∃ s2 c2 q2, FP.Core.round f (.fin s c q) = .fin s2 c2 q2 := by
  rcases FP.Core.roundRatio_cases f s c 1 q with ⟨c', q', h⟩ | h
  · exact ⟨s, c', q', h⟩
  · exfalso
    obtain ⟨s1, c1, q1, rfl⟩ := hA
    obtain ⟨s2, c2, q2, rfl⟩ := hV
    have b1 := FP.Core.zmag_lt_top hf fA
    have b2 := FP.Core.zmag_lt_top hf fV
    have hR : FP.Core.round f (.fin s c q) = .inf s := h
    rw [hR] at h1 h2
    simp only [FP.Core.zval, FP.Core.sgn, FP.Core.zmag] at h1 h2
    generalize FP.Core.inUnits c1 q1 f.qmin = a at *
    generalize FP.Core.inUnits c2 q2 f.qmin = b at *
    generalize f.tails * 2 ^ (f.exps - 2) = T at *
    cases s <;> cases s1 <;> cases s2 <;> simp [FP.Core.signed] at h1 h2 <;> omega
/-- a float's value in units of 2^-149 -/
def zf (a : UInt32) : Int := FP.Core.zval FP.Core.b32 (FP.Core.val32 a)
/-- a double's value in units of 2^-1074 -/
def zd (a : UInt64) : Int := FP.Core.zval FP.Core.b64 (FP.Core.val64 a)
/-- finite, and between two numbers -/
def Fb (a : UInt32) (lo hi : Int) : Prop := FP.Core.FFin a ∧ lo ≤ zf a ∧ zf a ≤ hi
def Db (a : UInt64) (lo hi : Int) : Prop := FP.Core.DFin a ∧ lo ≤ zd a ∧ zd a ≤ hi
theorem Fb.wk {a : UInt32} {lo hi lo2 hi2 : Int} (h : Fb a lo hi) (h1 : lo2 ≤ lo) (h2 : hi ≤ hi2) : Fb a lo2 hi2 := ⟨h.1, Int.le_trans h1 h.2.1, Int.le_trans h.2.2 h2⟩
theorem Db.wk {a : UInt64} {lo hi lo2 hi2 : Int} (h : Db a lo hi) (h1 : lo2 ≤ lo) (h2 : hi ≤ hi2) : Db a lo2 hi2 := ⟨h.1, Int.le_trans h1 h.2.1, Int.le_trans h.2.2 h2⟩
theorem Fb.n {a : UInt32} {lo hi : Int} (h : Fb a lo hi) : vf_n32 a := by
  have h1 := (FP.Core.fin_bits32 a).mp h.1
  unfold vf_n32
  rw [UInt32.le_iff_toNat_le, FP.Core.mask_toNat32]
  exact Nat.le_of_lt h1
theorem Db.n {a : UInt64} {lo hi : Int} (h : Db a lo hi) : vf_n64 a := by
  have h1 := (FP.Core.fin_bits a).mp h.1
  unfold vf_n64
  rw [UInt64.le_iff_toNat_le, FP.Core.mask_toNat]
  exact Nat.le_of_lt h1
theorem Fb_add {a b A V : UInt32} {l1 h1 l2 h2 lo hi : Int} (ha : Fb a l1 h1) (hb : Fb b l2 h2) (hA : Fb A lo lo) (hV : Fb V hi hi) (p1 : lo ≤ l1 + l2) (p2 : h1 + h2 ≤ hi) : Fb (FP.fadd a b) lo hi := by
  have q1 := FP.Core.sum_ge FP.Core.good_b32 ha.1 hb.1 (FP.Core.val32_fits a) (FP.Core.val32_fits b) (FP.Core.val32_fits A) hA.1.ne_nan (show zf A ≤ zf a + zf b by have := ha.2; have := hb.2; have := hA.2; omega)
  have q2 := FP.Core.sum_le FP.Core.good_b32 ha.1 hb.1 (FP.Core.val32_fits a) (FP.Core.val32_fits b) (FP.Core.val32_fits V) hV.1.ne_nan (show zf a + zf b ≤ zf V by have := ha.2; have := hb.2; have := hV.2; omega)
  have hv : FP.Core.val32 (FP.fadd a b) = FP.Core.round FP.Core.b32 (FP.Core.exactSum (FP.Core.val32 a) (FP.Core.val32 b)) := FP.Core.val32_fadd a b
  obtain ⟨s, c, q, e1⟩ := ha.1
  obtain ⟨t, d, r, e2⟩ := hb.1
  have hfin : FP.Core.FFin (FP.fadd a b) := by
    have g1 := q1
    have g2 := q2
    rw [e1, e2] at g1 g2
    obtain ⟨s2, c2, q3, h⟩ := fl_fin FP.Core.good_b32 hA.1 hV.1 (FP.Core.val32_fits A) (FP.Core.val32_fits V) g1 g2
    exact ⟨s2, c2, q3, by rw [hv, e1, e2]; exact h⟩
  refine ⟨hfin, ?_, ?_⟩
  · show lo ≤ FP.Core.zval _ _
    rw [hv]; exact Int.le_trans hA.2.1 q1
  · show FP.Core.zval _ _ ≤ hi
    rw [hv]; exact Int.le_trans q2 hV.2.2
theorem Fb_neg {a : UInt32} {lo hi : Int} (ha : Fb a lo hi) : Fb (FP.fneg a) (-hi) (-lo) := by
  have hv := FP.val32_fneg a
  obtain ⟨s, c, q, e1⟩ := ha.1
  have hz : zf (FP.fneg a) = - zf a := by
    show FP.Core.zval _ _ = - FP.Core.zval _ _
    rw [hv, FP.Core.zval_negate]
  refine ⟨⟨!s, c, q, by rw [hv, e1]; rfl⟩, ?_, ?_⟩ <;> rw [hz] <;> have := ha.2 <;> omega
theorem Fb_sub {a b A V : UInt32} {l1 h1 l2 h2 lo hi : Int} (ha : Fb a l1 h1) (hb : Fb b l2 h2) (hA : Fb A lo lo) (hV : Fb V hi hi) (p1 : lo ≤ l1 - h2) (p2 : h1 - l2 ≤ hi) : Fb (FP.fsub a b) lo hi := by
  have hn : FP.Core.fIsNaN b = false := hb.1.notNaN
  have h := Fb_add ha (Fb_neg hb) hA hV (by omega) (by omega)
  rw [FP.fneg_core hn] at h
  have e : FP.fsub a b = FP.fadd a (FP.Core.fneg b) := FP.Core.fsub_eq a b
  rw [e]; exact h
theorem Fb_mul {a b A V : UInt32} {lo hi : Int} (ha : FP.Core.FFin a) (hb : FP.Core.FFin b) (hA : Fb A lo lo) (hV : Fb V hi hi) (p1 : lo * 2 ^ 149 ≤ zf a * zf b) (p2 : zf a * zf b ≤ hi * 2 ^ 149) : Fb (FP.fmul a b) lo hi := by
  have hu : (((2 ^ (-FP.Core.b32.qmin).toNat : Nat)) : Int) = 2 ^ 149 := by decide +kernel
  have hA2 : zf A = lo := by have := hA.2; omega
  have hV2 : zf V = hi := by have := hV.2; omega
  have q1 := fl_mul_ge FP.Core.good_b32 ha hb (FP.Core.val32_fits a) (FP.Core.val32_fits b) (FP.Core.val32_fits A) hA.1.ne_nan (by rw [hu]; show zf A * _ ≤ zf a * zf b; rw [hA2]; exact p1)
  have q2 := fl_mul_le FP.Core.good_b32 ha hb (FP.Core.val32_fits a) (FP.Core.val32_fits b) (FP.Core.val32_fits V) hV.1.ne_nan (by rw [hu]; show zf a * zf b ≤ zf V * _; rw [hV2]; exact p2)
  have hv : FP.Core.val32 (FP.fmul a b) = FP.Core.round FP.Core.b32 (FP.Core.exactProduct (FP.Core.val32 a) (FP.Core.val32 b)) := FP.Core.val32_fmul a b
  obtain ⟨s, c, q, e1⟩ := ha
  obtain ⟨t, d, r, e2⟩ := hb
  have hfin : FP.Core.FFin (FP.fmul a b) := by
    have g1 := q1
    have g2 := q2
    rw [e1, e2] at g1 g2
    obtain ⟨s2, c2, q3, h⟩ := fl_fin FP.Core.good_b32 hA.1 hV.1 (FP.Core.val32_fits A) (FP.Core.val32_fits V) g1 g2
    exact ⟨s2, c2, q3, by rw [hv, e1, e2]; exact h⟩
  refine ⟨hfin, ?_, ?_⟩
  · show lo ≤ FP.Core.zval _ _
    rw [hv]; exact Int.le_trans hA.2.1 q1
  · show FP.Core.zval _ _ ≤ hi
    rw [hv]; exact Int.le_trans q2 hV.2.2
theorem Db_add {a b A V : UInt64} {l1 h1 l2 h2 lo hi : Int} (ha : Db a l1 h1) (hb : Db b l2 h2) (hA : Db A lo lo) (hV : Db V hi hi) (p1 : lo ≤ l1 + l2) (p2 : h1 + h2 ≤ hi) : Db (FP.dadd a b) lo hi := by
  have q1 := FP.Core.sum_ge FP.Core.good_b64 ha.1 hb.1 (FP.Core.val64_fits a) (FP.Core.val64_fits b) (FP.Core.val64_fits A) hA.1.ne_nan (show zd A ≤ zd a + zd b by have := ha.2; have := hb.2; have := hA.2; omega)
  have q2 := FP.Core.sum_le FP.Core.good_b64 ha.1 hb.1 (FP.Core.val64_fits a) (FP.Core.val64_fits b) (FP.Core.val64_fits V) hV.1.ne_nan (show zd a + zd b ≤ zd V by have := ha.2; have := hb.2; have := hV.2; omega)
  have hv : FP.Core.val64 (FP.dadd a b) = FP.Core.round FP.Core.b64 (FP.Core.exactSum (FP.Core.val64 a) (FP.Core.val64 b)) := FP.Core.val64_dadd a b
  obtain ⟨s, c, q, e1⟩ := ha.1
  obtain ⟨t, d, r, e2⟩ := hb.1
  have hfin : FP.Core.DFin (FP.dadd a b) := by
    have g1 := q1
    have g2 := q2
    rw [e1, e2] at g1 g2
    obtain ⟨s2, c2, q3, h⟩ := fl_fin FP.Core.good_b64 hA.1 hV.1 (FP.Core.val64_fits A) (FP.Core.val64_fits V) g1 g2
    exact ⟨s2, c2, q3, by rw [hv, e1, e2]; exact h⟩
  refine ⟨hfin, ?_, ?_⟩
  · show lo ≤ FP.Core.zval _ _
    rw [hv]; exact Int.le_trans hA.2.1 q1
  · show FP.Core.zval _ _ ≤ hi
    rw [hv]; exact Int.le_trans q2 hV.2.2
theorem Db_mul {a b A V : UInt64} {lo hi : Int} (ha : FP.Core.DFin a) (hb : FP.Core.DFin b) (hA : Db A lo lo) (hV : Db V hi hi) (p1 : lo * 2 ^ 1074 ≤ zd a * zd b) (p2 : zd a * zd b ≤ hi * 2 ^ 1074) : Db (FP.dmul a b) lo hi := by
  have hu : (((2 ^ (-FP.Core.b64.qmin).toNat : Nat)) : Int) = 2 ^ 1074 := by decide +kernel
  have hA2 : zd A = lo := by have := hA.2; omega
  have hV2 : zd V = hi := by have := hV.2; omega
  have q1 := fl_mul_ge FP.Core.good_b64 ha hb (FP.Core.val64_fits a) (FP.Core.val64_fits b) (FP.Core.val64_fits A) hA.1.ne_nan (by rw [hu]; show zd A * _ ≤ zd a * zd b; rw [hA2]; exact p1)
  have q2 := fl_mul_le FP.Core.good_b64 ha hb (FP.Core.val64_fits a) (FP.Core.val64_fits b) (FP.Core.val64_fits V) hV.1.ne_nan (by rw [hu]; show zd a * zd b ≤ zd V * _; rw [hV2]; exact p2)
  have hv : FP.Core.val64 (FP.dmul a b) = FP.Core.round FP.Core.b64 (FP.Core.exactProduct (FP.Core.val64 a) (FP.Core.val64 b)) := FP.Core.val64_dmul a b
  obtain ⟨s, c, q, e1⟩ := ha
  obtain ⟨t, d, r, e2⟩ := hb
  have hfin : FP.Core.DFin (FP.dmul a b) := by
    have g1 := q1
    have g2 := q2
    rw [e1, e2] at g1 g2
    obtain ⟨s2, c2, q3, h⟩ := fl_fin FP.Core.good_b64 hA.1 hV.1 (FP.Core.val64_fits A) (FP.Core.val64_fits V) g1 g2
    exact ⟨s2, c2, q3, by rw [hv, e1, e2]; exact h⟩
  refine ⟨hfin, ?_, ?_⟩
  · show lo ≤ FP.Core.zval _ _
    rw [hv]; exact Int.le_trans hA.2.1 q1
  · show FP.Core.zval _ _ ≤ hi
    rw [hv]; exact Int.le_trans q2 hV.2.2
theorem Db_f2d {a : UInt32} {A V : UInt64} {lo hi L U : Int} (ha : Fb a L U) (hA : Db A lo lo) (hV : Db V hi hi) (p1 : lo ≤ L * 2 ^ 925) (p2 : U * 2 ^ 925 ≤ hi) : Db (FP.f2d a) lo hi := by
  have hn : FP.Core.fIsNaN a = false := ha.1.notNaN
  have hv : FP.Core.val64 (FP.f2d a) = FP.Core.round FP.Core.b64 (FP.Core.val32 a) := by rw [FP.f2d_core hn]; exact FP.Core.val64_f2d a
  have hfit := FP.Core.val32_fits a
  obtain ⟨hf, hl, hh⟩ := ha
  obtain ⟨s, c, q, e1⟩ := hf
  rw [e1] at hfit
  have hq : FP.Core.b32.qmin ≤ q := hfit.2.1
  have h32 : FP.Core.b32.qmin = -149 := by decide +kernel
  have h64 : FP.Core.b64.qmin = -1074 := by decide +kernel
  have hz : FP.Core.signed s (FP.Core.inUnits c q FP.Core.b64.qmin) = zf a * 2 ^ 925 := by
    unfold zf
    rw [e1]
    simp only [FP.Core.zval, FP.Core.sgn, FP.Core.zmag]
    have hu : FP.Core.inUnits c q FP.Core.b64.qmin = FP.Core.inUnits c q FP.Core.b32.qmin * 2 ^ 925 := by
      unfold FP.Core.inUnits
      rw [h32, h64, show (q - -1074).toNat = (q - -149).toNat + 925 by omega, Nat.pow_add, Nat.mul_assoc]
    rw [hu, FP.Core.signed_mul]
    rfl
  have hA2 : zd A = lo := by have := hA.2; omega
  have hV2 : zd V = hi := by have := hV.2; omega
  have q1 := FP.Core.zval_round_ge FP.Core.good_b64 (s := s) (c := c) (q := q) (e0 := FP.Core.b64.qmin) (FP.Core.val64_fits A) hA.1.ne_nan (Int.le_refl _) (by omega) (by
    rw [Int.sub_self, hz]; show zd A * ((1 : Nat) : Int) ≤ _; rw [hA2]; have := Int.mul_le_mul_of_nonneg_right hl (show (0 : Int) ≤ 2 ^ 925 by decide +kernel); omega)
  have q2 := FP.Core.zval_round_le FP.Core.good_b64 (s := s) (c := c) (q := q) (e0 := FP.Core.b64.qmin) (FP.Core.val64_fits V) hV.1.ne_nan (Int.le_refl _) (by omega) (by
    rw [Int.sub_self, hz]; show _ ≤ zd V * ((1 : Nat) : Int); rw [hV2]; have := Int.mul_le_mul_of_nonneg_right hh (show (0 : Int) ≤ 2 ^ 925 by decide +kernel); omega)
  rw [← e1, ← hv] at q1 q2
  have hfin : FP.Core.DFin (FP.f2d a) := by
    have := FP.Core.f2d_fin ⟨s, c, q, e1⟩
    rw [FP.f2d_core hn]; exact this
  exact ⟨hfin, Int.le_trans hA.2.1 q1, Int.le_trans q2 hV.2.2⟩
end
section
/-! the game's step, in floats; e8: an eighth as a float's whole number, e1: one as a double's -/
def e8 : Int := 2 ^ 146
def e1 : Int := 2 ^ 1074
theorem Fc {K : UInt32} {z : Int} (h1 : K.toNat % 2 ^ 31 < 2139095040) (h2 : zf K = z) : Fb K z z := ⟨(FP.Core.fin_bits32 K).mpr h1, Int.le_of_eq h2.symm, Int.le_of_eq h2⟩
theorem Dc {K : UInt64} {z : Int} (h1 : K.toNat % 2 ^ 63 < 9218868437227405312) (h2 : zd K = z) : Db K z z := ⟨(FP.Core.fin_bits K).mpr h1, Int.le_of_eq h2.symm, Int.le_of_eq h2⟩
theorem Fc_7_8 : Fb 1063256064 (7 * e8) (7 * e8) := Fc (by decide) (by decide +kernel)
theorem Fc_35 : Fb 1080033280 (28 * e8) (28 * e8) := Fc (by decide) (by decide +kernel)
theorem Fc_35n : Fb 3227516928 (-(28 * e8)) (-(28 * e8)) := Fc (by decide) (by decide +kernel)
theorem Fc_4 : Fb 1082130432 (32 * e8) (32 * e8) := Fc (by decide) (by decide +kernel)
theorem Fc_4n : Fb 3229614080 (-(32 * e8)) (-(32 * e8)) := Fc (by decide) (by decide +kernel)
theorem Fc_h : Fb 1056964608 (4 * e8) (4 * e8) := Fc (by decide) (by decide +kernel)
theorem Fc_hn : Fb 3204448256 (-(4 * e8)) (-(4 * e8)) := Fc (by decide) (by decide +kernel)
theorem Fc_37 : Fb 1108606976 (296 * e8) (296 * e8) := Fc (by decide) (by decide +kernel)
theorem Fc_5n : Fb 3231711232 (-(40 * e8)) (-(40 * e8)) := Fc (by decide) (by decide +kernel)
theorem Fc_32 : Fb 1107296256 (256 * e8) (256 * e8) := Fc (by decide) (by decide +kernel)
theorem Fc_32n : Fb 3254779904 (-(256 * e8)) (-(256 * e8)) := Fc (by decide) (by decide +kernel)
theorem Fc_64 : Fb 1115684864 (512 * e8) (512 * e8) := Fc (by decide) (by decide +kernel)
theorem Fc_0 : Fb 0 0 0 := Fc (by decide) (by decide +kernel)
theorem Fc_1 : Fb 1065353216 (8 * e8) (8 * e8) := Fc (by decide) (by decide +kernel)
theorem Fc_1n : Fb 3212836864 (-(8 * e8)) (-(8 * e8)) := Fc (by decide) (by decide +kernel)
theorem Fc_315 : Fb 1107034112 (252 * e8) (252 * e8) := Fc (by decide) (by decide +kernel)
theorem Fc_325 : Fb 1107427328 (260 * e8) (260 * e8) := Fc (by decide) (by decide +kernel)
theorem Fc_27 : Fb 1104674816 (216 * e8) (216 * e8) := Fc (by decide) (by decide +kernel)
theorem Fc_03 : Fb 1050253722 0 (4 * e8) := ⟨(FP.Core.fin_bits32 _).mpr (by decide), by decide +kernel, by decide +kernel⟩
theorem Dc_4 : Db 4616189618054758400 (4 * e1) (4 * e1) := Dc (by decide) (by decide +kernel)
theorem Dc_4n : Db 13839561654909534208 (-(4 * e1)) (-(4 * e1)) := Dc (by decide) (by decide +kernel)
theorem Dc_16 : Db 4625196817309499392 (16 * e1) (16 * e1) := Dc (by decide) (by decide +kernel)
theorem Dc_16n : Db 13848568854164275200 (-(16 * e1)) (-(16 * e1)) := Dc (by decide) (by decide +kernel)
theorem Dc_32 : Db 4629700416936869888 (32 * e1) (32 * e1) := Dc (by decide) (by decide +kernel)
theorem Dc_32n : Db 13853072453791645696 (-(32 * e1)) (-(32 * e1)) := Dc (by decide) (by decide +kernel)
/-- a product's bounds out of those of its factors' sizes -/
theorem ab_mul {x y a b : Int} (hx1 : -a ≤ x) (hx2 : x ≤ a) (hy1 : -b ≤ y) (hy2 : y ≤ b) : -(a * b) ≤ x * y ∧ x * y ≤ a * b := by
  have h : (x * y).natAbs ≤ (a * b).natAbs := by
    rw [Int.natAbs_mul, Int.natAbs_mul]
    exact Nat.mul_le_mul (by omega) (by omega)
  have h0 : 0 ≤ a * b := Int.mul_nonneg (by omega) (by omega)
  omega
/-- a factor within a, another within b, and a number V of the format at least their product: the product is within V -/
theorem Fb_mulS {x y A V : UInt32} {a b v : Int} (hx : Fb x (-a) a) (hy : Fb y (-b) b) (hA : Fb A (-v) (-v)) (hV : Fb V v v) (h : a * b ≤ v * 2 ^ 149) : Fb (FP.fmul x y) (-v) v := by
  have := ab_mul hx.2.1 hx.2.2 hy.2.1 hy.2.2
  refine Fb_mul hx.1 hy.1 hA hV ?_ ?_
  · rw [Int.neg_mul]; omega
  · omega
theorem Db_mulS {x y A V : UInt64} {a b v : Int} (hx : Db x (-a) a) (hy : Db y (-b) b) (hA : Db A (-v) (-v)) (hV : Db V v v) (h : a * b ≤ v * 2 ^ 1074) : Db (FP.dmul x y) (-v) v := by
  have := ab_mul hx.2.1 hx.2.2 hy.2.1 hy.2.2
  refine Db_mul hx.1 hy.1 hA hV ?_ ?_
  · rw [Int.neg_mul]; omega
  · omega
theorem cg_lt {o : Option Ordering} (h : ¬ 0 ≤ Op.cmpValue o .g) : o = some .lt := by
  cases o with
  | none => exact absurd (by decide) h
  | some o => cases o <;> first | rfl | exact absurd (by decide) h
theorem cg_ge {o : Option Ordering} (h : 0 ≤ Op.cmpValue o .g) : o ≠ some .lt := by
  intro e; rw [e] at h; exact absurd h (by decide)
theorem cl_gt {o : Option Ordering} (h : ¬ Op.cmpValue o .l ≤ 0) : o = some .gt := by
  cases o with
  | none => exact absurd (by decide) h
  | some o => cases o <;> first | rfl | exact absurd (by decide) h
theorem cl_le {o : Option Ordering} (h : Op.cmpValue o .l ≤ 0) : o ≠ some .gt := by
  intro e; rw [e] at h; exact absurd h (by decide)
theorem fc_z {a b : UInt32} (ha : FP.Core.FFin a) (hb : FP.Core.FFin b) : FP.fcmp a b = some (compare (zf a) (zf b)) := FP.Core.fcmp_zval ha.ne_nan hb.ne_nan
theorem fc_lt {a b : UInt32} (ha : FP.Core.FFin a) (hb : FP.Core.FFin b) : FP.fcmp a b = some .lt ↔ zf a < zf b := by
  rw [fc_z ha hb, Option.some.injEq, Int.compare_eq_lt]
theorem fc_gt {a b : UInt32} (ha : FP.Core.FFin a) (hb : FP.Core.FFin b) : FP.fcmp a b = some .gt ↔ zf b < zf a := by
  rw [fc_z ha hb, Option.some.injEq, Int.compare_eq_gt]
/-- the push of an input -/
def psh (i : Int32) : UInt32 := if (i &&& nI 1 = nI 1 ↔ i &&& nI 2 = nI 2) then FP.fconst0 else if i &&& nI 2 = nI 2 then FP.fconst1 else 3212836864
/-- the speed, with its push, ahead of the brake -/
def mvV (v : UInt32) (i : Int32) : UInt32 := FP.fadd (FP.fmul v 1063256064) (FP.fmul (psh i) 1050253722)
def mvS (v : UInt32) (i : Int32) : UInt32 := if i &&& nI 4 = nI 4 then FP.fmul (mvV v i) 1056964608 else mvV v i
/-- place and speed of a player behind a frame, ahead of a hit -/
def mv (x v : UInt32) (i : Int32) : UInt32 × UInt32 :=
  if ¬ 0 ≤ Op.cmpValue (FP.fcmp (FP.fadd x (mvS v i)) FP.fconst0) .g then (FP.fneg (FP.fadd x (mvS v i)), FP.fmul (FP.fneg (mvS v i)) 1056964608)
  else if ¬ Op.cmpValue (FP.fcmp (FP.fadd x (mvS v i)) 1107296256) .l ≤ 0 then (FP.fsub 1115684864 (FP.fadd x (mvS v i)), FP.fmul (FP.fneg (mvS v i)) 1056964608)
  else (FP.fadd x (mvS v i), mvS v i)
theorem psh_b (i : Int32) : Fb (psh i) (-(8 * e8)) (8 * e8) := by
  unfold psh
  split
  · exact (show Fb FP.fconst0 0 0 from Fc_0).wk (by decide +kernel) (by decide +kernel)
  · split
    · exact (show Fb FP.fconst1 _ _ from Fc_1).wk (by decide +kernel) (by decide +kernel)
    · exact Fc_1n.wk (by decide +kernel) (by decide +kernel)
theorem mv_1 {v : UInt32} (hv : Fb v (-(32 * e8)) (32 * e8)) : Fb (FP.fmul v 1063256064) (-(28 * e8)) (28 * e8) :=
  Fb_mulS hv (Fc_7_8.wk (lo2 := -(7 * e8)) (hi2 := 7 * e8) (by decide +kernel) (by decide +kernel)) Fc_35n Fc_35 (by decide +kernel)
theorem mv_2 (i : Int32) : Fb (FP.fmul (psh i) 1050253722) (-(4 * e8)) (4 * e8) :=
  Fb_mulS (psh_b i) (Fc_03.wk (lo2 := -(4 * e8)) (hi2 := 4 * e8) (by decide +kernel) (by decide +kernel)) Fc_hn Fc_h (by decide +kernel)
theorem mv_3 {v : UInt32} (hv : Fb v (-(32 * e8)) (32 * e8)) (i : Int32) : Fb (mvV v i) (-(32 * e8)) (32 * e8) :=
  Fb_add (mv_1 hv) (mv_2 i) Fc_4n Fc_4 (by omega) (by omega)
theorem mv_h {v : UInt32} (hv : Fb v (-(32 * e8)) (32 * e8)) : Fb (FP.fmul v 1056964608) (-(32 * e8)) (32 * e8) :=
  Fb_mulS hv (Fc_h.wk (lo2 := -(4 * e8)) (hi2 := 4 * e8) (by decide +kernel) (by decide +kernel)) Fc_4n Fc_4 (by decide +kernel)
theorem mv_4 {v : UInt32} (hv : Fb v (-(32 * e8)) (32 * e8)) (i : Int32) : Fb (mvS v i) (-(32 * e8)) (32 * e8) := by
  unfold mvS
  split
  · exact mv_h (mv_3 hv i)
  · exact mv_3 hv i
theorem mv_5 {v : UInt32} (hv : Fb v (-(32 * e8)) (32 * e8)) : Fb (FP.fmul (FP.fneg v) 1056964608) (-(32 * e8)) (32 * e8) :=
  mv_h ((Fb_neg hv).wk (by omega) (by omega))
theorem mv_x {x v : UInt32} (hx : Fb x (-(8 * e8)) (264 * e8)) (hv : Fb v (-(32 * e8)) (32 * e8)) : Fb (FP.fadd x v) (-(40 * e8)) (296 * e8) :=
  Fb_add hx hv Fc_5n Fc_37 (by omega) (by omega)
theorem mv_64 {x : UInt32} (hx : Fb x (-(40 * e8)) (296 * e8)) (h : 256 * e8 < zf x) : Fb (FP.fsub 1115684864 x) (216 * e8) (256 * e8) :=
  Fb_sub Fc_64 (⟨hx.1, Int.le_of_lt h, hx.2.2⟩ : Fb x (256 * e8) (296 * e8)) Fc_27 Fc_32 (by omega) (by omega)
theorem e8_pos : 0 < e8 := by decide +kernel
theorem mv_gt {x : UInt32} (hx : FP.Core.FFin x) (h : ¬ Op.cmpValue (FP.fcmp x 1107296256) .l ≤ 0) : 256 * e8 < zf x := by
  have h1 := (fc_gt hx Fc_32.1).mp (cl_gt h)
  have := Fc_32.2
  omega
theorem mv_b {x v : UInt32} (hx : Fb x (-(8 * e8)) (264 * e8)) (hv : Fb v (-(32 * e8)) (32 * e8)) (i : Int32) : Fb (mv x v i).1 0 (256 * e8) ∧ Fb (mv x v i).2 (-(32 * e8)) (32 * e8) := by
  have h4 := mv_4 hv i
  have hX := mv_x hx h4
  have e0 := e8_pos
  have z0 : zf FP.fconst0 = 0 := by decide +kernel
  have z32 : zf 1107296256 = 256 * e8 := by decide +kernel
  unfold mv
  split
  · rename_i h
    have h1 := (fc_lt hX.1 Fc_0.1).mp (cg_lt h)
    have h2 : zf (FP.fadd x (mvS v i)) < zf FP.fconst0 := h1
    have h3 := Fb_neg (⟨hX.1, hX.2.1, by omega⟩ : Fb (FP.fadd x (mvS v i)) (-(40 * e8)) 0)
    exact ⟨h3.wk (by omega) (by omega), mv_5 h4⟩
  · rename_i h
    have h1 : ¬ zf (FP.fadd x (mvS v i)) < zf FP.fconst0 := fun q => cg_ge (Classical.byContradiction h) ((fc_lt hX.1 Fc_0.1).mpr q)
    split
    · rename_i h5
      exact ⟨(mv_64 hX (mv_gt hX.1 h5)).wk (by omega) (Int.le_refl _), mv_5 h4⟩
    · rename_i h5
      have h6 : ¬ zf 1107296256 < zf (FP.fadd x (mvS v i)) := fun q => cl_le (Classical.byContradiction h5) ((fc_gt hX.1 Fc_32.1).mpr q)
      exact ⟨(⟨hX.1, by omega, by omega⟩ : Fb (FP.fadd x (mvS v i)) 0 (256 * e8)), h4⟩
/-- the two are nearer than 1 -/
abbrev hitP (A B : UInt32 × UInt32) : Prop := ¬ 0 ≤ Op.cmpValue (FP.fcmp (FP.fsub B.1 A.1) FP.fconst1) .g
def mid (A B : UInt32 × UInt32) : UInt32 := FP.fmul (FP.fadd A.1 B.1) 1056964608
def st_x (A B : UInt32 × UInt32) : UInt32 := if hitP A B then FP.fsub (mid A B) 1056964608 else A.1
def st_s (A B : UInt32 × UInt32) : UInt32 := if hitP A B then B.2 else A.2
def st_y (A B : UInt32 × UInt32) : UInt32 := if hitP A B then FP.fadd (mid A B) 1056964608 else B.1
def st_t (A B : UInt32 × UInt32) : UInt32 := if hitP A B then A.2 else B.2
def st_m (A B : UInt32 × UInt32) : Int32 := if hitP A B then nI 1 else nI 0
def st_w (A B : UInt32 × UInt32) (wk : UInt64) : UInt64 := FP.dadd wk (FP.dadd (FP.dmul (FP.f2d (st_s A B)) (FP.f2d (st_s A B))) (FP.dmul (FP.f2d (st_t A B)) (FP.f2d (st_t A B))))
theorem pl_1 {x y : UInt32} (hx : Fb x 0 (256 * e8)) (hy : Fb y 0 (256 * e8)) : Fb (FP.fsub y x) (-(256 * e8)) (256 * e8) :=
  Fb_sub hy hx Fc_32n Fc_32 (by omega) (by omega)
theorem pl_2 {x y : UInt32} (hx : Fb x 0 (256 * e8)) (hy : Fb y 0 (256 * e8)) : Fb (FP.fadd x y) 0 (512 * e8) :=
  Fb_add hx hy Fc_0 Fc_64 (by omega) (by omega)
theorem pl_3 {x : UInt32} (hx : Fb x 0 (512 * e8)) : Fb (FP.fmul x 1056964608) 0 (256 * e8) := by
  have e0 := e8_pos
  have hz : zf 1056964608 = 4 * e8 := by decide +kernel
  refine Fb_mul hx.1 Fc_h.1 Fc_0 Fc_32 ?_ ?_
  · rw [hz]
    have := Int.mul_nonneg hx.2.1 (show (0 : Int) ≤ 4 * e8 by omega)
    omega
  · rw [hz]
    have := Int.mul_le_mul_of_nonneg_right hx.2.2 (show (0 : Int) ≤ 4 * e8 by omega)
    have h2 : 512 * e8 * (4 * e8) = 256 * e8 * 2 ^ 149 := by decide +kernel
    omega
theorem pl_4 {x : UInt32} (hx : Fb x 0 (256 * e8)) : Fb (FP.fsub x 1056964608) (-(4 * e8)) (252 * e8) :=
  Fb_sub hx Fc_h Fc_hn Fc_315 (by omega) (by omega)
theorem pl_5 {x : UInt32} (hx : Fb x 0 (256 * e8)) : Fb (FP.fadd x 1056964608) (4 * e8) (260 * e8) :=
  Fb_add hx Fc_h Fc_h Fc_325 (by omega) (by omega)
theorem wk_1 {x : UInt32} (hx : Fb x (-(32 * e8)) (32 * e8)) : Db (FP.f2d x) (-(4 * e1)) (4 * e1) :=
  Db_f2d hx Dc_4n Dc_4 (by decide +kernel) (by decide +kernel)
theorem wk_2 {x : UInt64} (hx : Db x (-(4 * e1)) (4 * e1)) : Db (FP.dmul x x) (-(16 * e1)) (16 * e1) :=
  Db_mulS hx hx Dc_16n Dc_16 (by decide +kernel)
theorem wk_3 {x y : UInt64} (hx : Db x (-(16 * e1)) (16 * e1)) (hy : Db y (-(16 * e1)) (16 * e1)) : Db (FP.dadd x y) (-(32 * e1)) (32 * e1) :=
  Db_add hx hy Dc_32n Dc_32 (by omega) (by omega)
theorem Dc_i (v : Int32) : Db (FP.i2d v) (v.toInt * e1) (v.toInt * e1) := by
  have h : zd (FP.i2d v) = v.toInt * e1 := by
    have h1 := FP.Core.DInt_zval (FP.Core.i2d_int v)
    have h2 : ((FP.Core.one64 : Nat) : Int) = e1 := by decide +kernel
    rw [h2] at h1
    exact h1
  exact ⟨FP.Core.i2d_fin v, Int.le_of_eq h.symm, Int.le_of_eq h⟩
theorem wk_4 {wk z : UInt64} {k : Nat} (hk : k ≤ 1000000) (hw : Db wk (-(32 * (k : Int) * e1)) (32 * (k : Int) * e1)) (hz : Db z (-(32 * e1)) (32 * e1)) : Db (FP.dadd wk z) (-(32 * ((k + 1 : Nat) : Int) * e1)) (32 * ((k + 1 : Nat) : Int) * e1) := by
  have h1 := Dc_i (nI (32 * (k + 1)))
  rw [nI_toInt (by omega)] at h1
  have h2 := Dc_i (Int32.ofInt (-(32 * (k + 1) : Nat)))
  rw [Int32.toInt_ofInt_of_le (by omega) (by omega)] at h2
  have e2 : (((32 * (k + 1) : Nat) : Int)) * e1 = 32 * ((k + 1 : Nat) : Int) * e1 := by push_cast; rfl
  have e3 : (-(((32 * (k + 1) : Nat) : Int))) * e1 = -(32 * ((k + 1 : Nat) : Int) * e1) := by rw [Int.neg_mul, e2]
  rw [e2] at h1
  rw [e3] at h2
  have e4 : 32 * ((k + 1 : Nat) : Int) * e1 = 32 * (k : Int) * e1 + 32 * e1 := by push_cast; rw [Int.mul_add, Int.add_mul]; rfl
  exact Db_add hw hz h2 h1 (by omega) (by omega)
/-- a state within its bounds, behind k frames -/
def Bd (x v y t : UInt32) (wk : UInt64) (k : Nat) : Prop := Fb x (-(8 * e8)) (264 * e8) ∧ Fb v (-(32 * e8)) (32 * e8) ∧ Fb y (-(8 * e8)) (264 * e8) ∧ Fb t (-(32 * e8)) (32 * e8) ∧ Db wk (-(32 * (k : Int) * e1)) (32 * (k : Int) * e1)
theorem st_b {x v y t : UInt32} {wk : UInt64} {k : Nat} (hk : k ≤ 1000000) (h : Bd x v y t wk k) (a b : Int32) :
    Bd (st_x (mv x v a) (mv y t b)) (st_s (mv x v a) (mv y t b)) (st_y (mv x v a) (mv y t b)) (st_t (mv x v a) (mv y t b)) (st_w (mv x v a) (mv y t b) wk) (k + 1) := by
  obtain ⟨h1, h2, h3, h4, h5⟩ := h
  obtain ⟨a1, a2⟩ := mv_b h1 h2 a
  obtain ⟨b1, b2⟩ := mv_b h3 h4 b
  have e0 := e8_pos
  have hs : Fb (st_s (mv x v a) (mv y t b)) (-(32 * e8)) (32 * e8) := by unfold st_s; split <;> assumption
  have ht : Fb (st_t (mv x v a) (mv y t b)) (-(32 * e8)) (32 * e8) := by unfold st_t; split <;> assumption
  refine ⟨?_, hs, ?_, ht, wk_4 hk h5 (wk_3 (wk_2 (wk_1 hs)) (wk_2 (wk_1 ht)))⟩
  · unfold st_x
    split
    · exact (pl_4 (pl_3 (pl_2 a1 b1))).wk (by omega) (by omega)
    · exact a1.wk (by omega) (by omega)
  · unfold st_y
    split
    · exact (pl_5 (pl_3 (pl_2 a1 b1))).wk (by omega) (by omega)
    · exact b1.wk (by omega) (by omega)
/-- advice: a float within 2^33 stays so -/
theorem Fc_a : Fb 1342177280 (2 ^ 36 * e8) (2 ^ 36 * e8) := Fc (by decide) (by decide +kernel)
theorem Fc_an : Fb 3489660928 (-(2 ^ 36 * e8)) (-(2 ^ 36 * e8)) := Fc (by decide) (by decide +kernel)
theorem Fc_b : Fb 1337982976 (3 * 2 ^ 34 * e8) (3 * 2 ^ 34 * e8) := Fc (by decide) (by decide +kernel)
theorem Fc_bn : Fb 3485466624 (-(3 * 2 ^ 34 * e8)) (-(3 * 2 ^ 34 * e8)) := Fc (by decide) (by decide +kernel)
theorem Fc_c : Fb 1325400064 (2 ^ 34 * e8) (2 ^ 34 * e8) := Fc (by decide) (by decide +kernel)
theorem Fc_cn : Fb 3472883712 (-(2 ^ 34 * e8)) (-(2 ^ 34 * e8)) := Fc (by decide) (by decide +kernel)
theorem Fc_75 : Fb 1061158912 (6 * e8) (6 * e8) := Fc (by decide) (by decide +kernel)
theorem Fc_25 : Fb 1048576000 (2 * e8) (2 * e8) := Fc (by decide) (by decide +kernel)
theorem i2f_b (v : Int32) : Fb (FP.i2f v) (-(2 ^ 36 * e8)) (2 ^ 36 * e8) := by
  obtain ⟨s, c, q, h1, h2⟩ := FP.Core.mag_bits32 (FP.Core.i2f_mag v) (by decide)
  have hz : zf (FP.i2f v) = FP.Core.signed s (c * 2 ^ (q - FP.Core.b32.qmin).toNat) := by
    show FP.Core.zval _ (FP.Core.val32 (FP.Core.i2f v)) = _
    rw [h1]; rfl
  have hu : ((2 ^ 23 * 2 ^ (160 - 1) : Nat) : Int) = 2 ^ 36 * e8 := by decide +kernel
  generalize c * 2 ^ (q - FP.Core.b32.qmin).toNat = X at *
  refine ⟨⟨s, c, q, h1⟩, ?_, ?_⟩ <;> rw [hz] <;> cases s <;> simp only [FP.Core.signed, if_true, Bool.false_eq_true, if_false] <;> omega
theorem av_1 {a : UInt32} (ha : Fb a (-(2 ^ 36 * e8)) (2 ^ 36 * e8)) : Fb (FP.fmul a 1061158912) (-(3 * 2 ^ 34 * e8)) (3 * 2 ^ 34 * e8) :=
  Fb_mulS ha (Fc_75.wk (lo2 := -(6 * e8)) (hi2 := 6 * e8) (by decide +kernel) (by decide +kernel)) Fc_bn Fc_b (by decide +kernel)
theorem av_2 {a : UInt32} (ha : Fb a (-(2 ^ 36 * e8)) (2 ^ 36 * e8)) : Fb (FP.fmul 1048576000 a) (-(2 ^ 34 * e8)) (2 ^ 34 * e8) :=
  Fb_mulS (Fc_25.wk (lo2 := -(2 * e8)) (hi2 := 2 * e8) (by decide +kernel) (by decide +kernel)) ha Fc_cn Fc_c (by decide +kernel)
theorem av_3 {a b : UInt32} (ha : Fb a (-(2 ^ 36 * e8)) (2 ^ 36 * e8)) (hb : Fb b (-(2 ^ 36 * e8)) (2 ^ 36 * e8)) : Fb (FP.fadd (FP.fmul a 1061158912) (FP.fmul 1048576000 b)) (-(2 ^ 36 * e8)) (2 ^ 36 * e8) :=
  Fb_add (av_1 ha) (av_2 hb) Fc_an Fc_a (by omega) (by omega)
/-- finite factors: no NaN -/
theorem fm_n {a b : UInt32} (ha : FP.Core.FFin a) (hb : FP.Core.FFin b) : vf_n32 (FP.fmul a b) := by
  have h := FP.Core.fmul_out ha hb
  have h1 := (FP.Core.ne_nan32 _).mp ((FP.Core.notNaN_iff32 _).mp h)
  unfold vf_n32
  rw [UInt32.le_iff_toNat_le, FP.Core.mask_toNat32]
  exact h1
theorem dm_n {a b : UInt64} (ha : FP.Core.DFin a) (hb : FP.Core.DFin b) : vf_n64 (FP.dmul a b) := by
  have h := FP.Core.dmul_out ha hb
  have h1 := (FP.Core.ne_nan _).mp ((FP.Core.notNaN_iff _).mp h)
  unfold vf_n64
  rw [UInt64.le_iff_toNat_le, FP.Core.mask_toNat]
  exact h1
theorem mv_e1 {x v : UInt32} {i : Int32} (h : ¬ 0 ≤ Op.cmpValue (FP.fcmp (FP.fadd x (mvS v i)) FP.fconst0) .g) : mv x v i = (FP.fneg (FP.fadd x (mvS v i)), FP.fmul (FP.fneg (mvS v i)) 1056964608) := if_pos h
theorem mv_e2 {x v : UInt32} {i : Int32} (h : 0 ≤ Op.cmpValue (FP.fcmp (FP.fadd x (mvS v i)) FP.fconst0) .g) (h2 : ¬ Op.cmpValue (FP.fcmp (FP.fadd x (mvS v i)) 1107296256) .l ≤ 0) : mv x v i = (FP.fsub 1115684864 (FP.fadd x (mvS v i)), FP.fmul (FP.fneg (mvS v i)) 1056964608) := by
  unfold mv; rw [if_neg (fun q => q h), if_pos h2]
theorem mv_e3 {x v : UInt32} {i : Int32} (h : 0 ≤ Op.cmpValue (FP.fcmp (FP.fadd x (mvS v i)) FP.fconst0) .g) (h2 : Op.cmpValue (FP.fcmp (FP.fadd x (mvS v i)) 1107296256) .l ≤ 0) : mv x v i = (FP.fadd x (mvS v i), mvS v i) := by
  unfold mv; rw [if_neg (fun q => q h), if_neg (fun q => q h2)]
theorem st_hit {A B : UInt32 × UInt32} (h : hitP A B) : st_x A B = FP.fsub (mid A B) 1056964608 ∧ st_s A B = B.2 ∧ st_y A B = FP.fadd (mid A B) 1056964608 ∧ st_t A B = A.2 ∧ st_m A B = nI 1 := ⟨if_pos h, if_pos h, if_pos h, if_pos h, if_pos h⟩
theorem st_no {A B : UInt32 × UInt32} (h : ¬ hitP A B) : st_x A B = A.1 ∧ st_s A B = A.2 ∧ st_y A B = B.1 ∧ st_t A B = B.2 ∧ st_m A B = nI 0 := ⟨if_neg h, if_neg h, if_neg h, if_neg h, if_neg h⟩
section RJN
variable {p : Program} {l : Launch} {e : Env} {R : Room} {s : State} {m : MethodId} {args : Array Value} {below : List Frame} {meth : Method} {c : Code} {H : Heap} {locs : List Loc} {cells slots : Nat} {Q : State → Prop}
/-- two ways meet at pc2: the way behind it is walked once -/
theorem jn {α : Type} (C : α → Array Slot → Prop) (pc2 : Nat) (sf : α → List Value) {g : JFrame} (J : ∀ (a : α) (ls : Array Slot), C a ls → W p l e R s m args below meth c H locs cells slots Q (F0 m pc2 ls (sf a))) (k : (∀ (a : α) (ls : Array Slot), C a ls → W p l e R s m args below meth c H locs cells slots Q (F0 m pc2 ls (sf a))) → W p l e R s m args below meth c H locs cells slots Q g) : W p l e R s m args below meth c H locs cells slots Q g := k J
theorem jnH {α : Type} (C : α → Array Slot → Heap → List Loc → Prop) (pc2 : Nat) (sf : α → List Value) {g : JFrame} (J : ∀ (a : α) (ls : Array Slot) (H : Heap) (locs : List Loc), C a ls H locs → W p l e R s m args below meth c H locs cells slots Q (F0 m pc2 ls (sf a))) (k : (∀ (a : α) (ls : Array Slot) (H : Heap) (locs : List Loc), C a ls H locs → W p l e R s m args below meth c H locs cells slots Q (F0 m pc2 ls (sf a))) → W p l e R s m args below meth c H locs cells slots Q g) : W p l e R s m args below meth c H locs cells slots Q g := k J
end RJN
end
section
set_option maxHeartbeats 4000000 in
set_option maxRecDepth 100000 in
/-- move(x, v, i) -/
theorem c_move (l : Launch) (D : va_G) (cs : Nat → ClassId) (ad : Nat → Nat) (hJ : Inj ad 26) (d w : Int32) (S : SS) (np ns : UInt32) (x v : UInt32) (i : Int32) (hX : Fb x (-(8 * e8)) (264 * e8)) (hV : Fb v (-(32 * e8)) (32 * e8)) : CTv l yX7_move wsX7_move ({ frames := 0, cells := 0, slots := 0, locals := 0 }) D cs ad 26 (mm ad cs d w S np ns) [.ref (ad 0), .float x, .float v, .int i] (fun M2 => M2 = mm ad cs d w S (mv x v i).1 (mv x v i).2) := by
  refine Met.ofW (cc := cX7_move) (maxL := 9) (ret := none) (by decide) rfl ?_
  intro p e s m args below meth c s₁ B hml hv
  obtain ⟨rfl, hP, hK⟩ := hv
  have hx := B.exec
  have hb := B.bytes
  have hr := B.returns
  have hts := atoms_spec (ws := wsX7_move) B.pre
  have hown : s.vm.findClass RX7 = some m.cls := findClass_of_methodNamed B.named
  have hlocks := B.notSynchronized
  have hS : va_S (Ad ad 26) s.heap s.heap [] := va_S.rf
  have hl := lv_entry ([.ref (ad 0), .float x, .float v, .int i]) (n := 9) (Nat.le_of_ble_eq_true rfl)
  rw [lg_entry_eq]
  generalize (lg_sl ([.ref (ad 0), .float x, .float v, .int i]) ++ List.replicate (9 - (lg_sl ([.ref (ad 0), .float x, .float v, .int i])).length) Slot.unset).toArray = ls at hl ⊢
  have hl : lv_has ls 9 [(0, .ref (ad 0)), (1, .float x), (2, .float v), (3, .int i)] := hl
  have inX7 : ∀ w ∈ u_ws RX7 TX7 29, w ∈ wsX7_move := by decide +kernel
  refine jn (fun (z : UInt32) ls => z = psh i ∧ lv_has ls 9 [(6, .float z), (0, .ref (ad 0)), (1, .float x), (2, .float v), (3, .int i)]) 52 (fun _ => []) (fun z ls hz => ?_) (fun J => ?_)
  · obtain ⟨rfl, hl⟩ := hz
    refine jn (fun (z : UInt32) ls => z = mvS v i ∧ lv_has ls 9 [(0, .ref (ad 0)), (1, .float x)]) 81 (fun z => [.float z]) (fun z ls hz => ?_) (fun J => ?_)
    · obtain ⟨rfl, hl⟩ := hz
      refine lv_fstore (lv' := [(7, .float (mvS v i)), (0, .ref (ad 0)), (1, .float x)]) hx hb dX7_move_81 hl (by decide) rfl (fun ls hl => ?_)
      refine lv_fload_n hx hb dX7_move_83 rfl (lv_at hl 2 rfl) ?_
      refine lv_fload hx hb dX7_move_84 (lv_at hl 0 rfl) ?_
      refine lv_fadd hx hb dX7_move_86 (mv_x hX (mv_4 hV i)).n ?_
      refine lv_fstore (lv' := [(8, .float (FP.fadd x (mvS v i))), (7, .float (mvS v i)), (0, .ref (ad 0)), (1, .float x)]) hx hb dX7_move_87 hl (by decide) rfl (fun ls hl => ?_)
      refine lv_fload hx hb dX7_move_89 (lv_at hl 0 rfl) ?_
      refine lv_fconst0 hx hb dX7_move_91 ?_
      refine lv_fcmp hx hb dX7_move_92 ?_
      refine lv_if_ge (tgt := 112) hx hb dX7_move_93 (by decide) (fun c1 => ?_) (fun c1 => ?_)
      · refine lv_fload hx hb dX7_move_112 (lv_at hl 0 rfl) ?_
        refine lv_ldcf hx hb hown (hts (.constantFloat RX7 103 (1107296256)) (by decide +kernel)) dX7_move_114 ?_
        refine lv_fcmp hx hb dX7_move_116 ?_
        refine lv_if_le (tgt := 135) hx hb dX7_move_117 (by decide) (fun c2 => ?_) (fun c2 => ?_)
        · refine lv_aload_n hx hb dX7_move_135 rfl (lv_at hl 2 rfl) ?_
          refine lv_fload hx hb dX7_move_136 (lv_at hl 0 rfl) ?_
          refine m_put hx hb hts inX7 tyX7 tyX7_ok nmX7 hown hK hP hJ hS (ci := 7) rfl (k := 0) (by decide) rfl 27 (by decide) (hts (.fieldLink RX7 105 "RollbackPairModel" "newPlace" "F") (by decide +kernel)) rfl rfl rfl (Nat.le_of_ble_eq_true rfl) (fs' := [.int d, .int w, .ref (ad 1), .ref (ad 2), .ref (ad 3), .ref (ad 4), .ref (ad 5), .ref (ad 6), .ref (ad 7), .ref (ad 8), .ref (ad 9), .ref (ad 10), .ref (ad 11), .ref (ad 12), .ref (ad 13), .ref (ad 14), .ref (ad 15), .ref (ad 16), .ref (ad 17), .ref (ad 18), .ref (ad 19), .ref (ad 20), .ref (ad 21), .ref (ad 22), .ref (ad 23), .ref (ad 24), .ref (ad 25), .float (FP.fadd x (mvS v i)), .float ns]) rfl dX7_move_138 (fun H locs hP hS => ?_)
          rw [mm_np] at hP
          refine lv_aload_n hx hb dX7_move_141 rfl (lv_at hl 2 rfl) ?_
          refine lv_fload hx hb dX7_move_142 (lv_at hl 1 rfl) ?_
          refine m_put hx hb hts inX7 tyX7 tyX7_ok nmX7 hown hK hP hJ hS (ci := 7) rfl (k := 0) (by decide) rfl 28 (by decide) (hts (.fieldLink RX7 109 "RollbackPairModel" "newSpeed" "F") (by decide +kernel)) rfl rfl rfl (Nat.le_of_ble_eq_true rfl) (fs' := [.int d, .int w, .ref (ad 1), .ref (ad 2), .ref (ad 3), .ref (ad 4), .ref (ad 5), .ref (ad 6), .ref (ad 7), .ref (ad 8), .ref (ad 9), .ref (ad 10), .ref (ad 11), .ref (ad 12), .ref (ad 13), .ref (ad 14), .ref (ad 15), .ref (ad 16), .ref (ad 17), .ref (ad 18), .ref (ad 19), .ref (ad 20), .ref (ad 21), .ref (ad 22), .ref (ad 23), .ref (ad 24), .ref (ad 25), .float (FP.fadd x (mvS v i)), .float (mvS v i)]) rfl dX7_move_144 (fun H locs hP hS => ?_)
          rw [mm_np] at hP
          exact r_v hx hb hr hlocks hK hP hS dX7_move_147 (by rw [mv_e3 c1 c2])
        · refine lv_ldcf hx hb hown (hts (.constantFloat RX7 104 (1115684864)) (by decide +kernel)) dX7_move_120 ?_
          refine lv_fload hx hb dX7_move_122 (lv_at hl 0 rfl) ?_
          refine lv_fsub hx hb dX7_move_124 (mv_64 (mv_x hX (mv_4 hV i)) (mv_gt (mv_x hX (mv_4 hV i)).1 c2)).n ?_
          refine lv_fstore (lv' := [(8, .float (FP.fsub 1115684864 (FP.fadd x (mvS v i)))), (7, .float (mvS v i)), (0, .ref (ad 0)), (1, .float x)]) hx hb dX7_move_125 hl (by decide) rfl (fun ls hl => ?_)
          refine lv_fload hx hb dX7_move_127 (lv_at hl 1 rfl) ?_
          refine lv_fneg hx hb dX7_move_129 ?_
          refine lv_ldcf hx hb hown (hts (.constantFloat RX7 102 (1056964608)) (by decide +kernel)) dX7_move_130 ?_
          refine lv_fmul hx hb dX7_move_132 (mv_5 (mv_4 hV i)).n ?_
          refine lv_fstore (lv' := [(7, .float (FP.fmul (FP.fneg (mvS v i)) 1056964608)), (8, .float (FP.fsub 1115684864 (FP.fadd x (mvS v i)))), (0, .ref (ad 0)), (1, .float x)]) hx hb dX7_move_133 hl (by decide) rfl (fun ls hl => ?_)
          refine lv_aload_n hx hb dX7_move_135 rfl (lv_at hl 2 rfl) ?_
          refine lv_fload hx hb dX7_move_136 (lv_at hl 1 rfl) ?_
          refine m_put hx hb hts inX7 tyX7 tyX7_ok nmX7 hown hK hP hJ hS (ci := 7) rfl (k := 0) (by decide) rfl 27 (by decide) (hts (.fieldLink RX7 105 "RollbackPairModel" "newPlace" "F") (by decide +kernel)) rfl rfl rfl (Nat.le_of_ble_eq_true rfl) (fs' := [.int d, .int w, .ref (ad 1), .ref (ad 2), .ref (ad 3), .ref (ad 4), .ref (ad 5), .ref (ad 6), .ref (ad 7), .ref (ad 8), .ref (ad 9), .ref (ad 10), .ref (ad 11), .ref (ad 12), .ref (ad 13), .ref (ad 14), .ref (ad 15), .ref (ad 16), .ref (ad 17), .ref (ad 18), .ref (ad 19), .ref (ad 20), .ref (ad 21), .ref (ad 22), .ref (ad 23), .ref (ad 24), .ref (ad 25), .float (FP.fsub 1115684864 (FP.fadd x (mvS v i))), .float ns]) rfl dX7_move_138 (fun H locs hP hS => ?_)
          rw [mm_np] at hP
          refine lv_aload_n hx hb dX7_move_141 rfl (lv_at hl 2 rfl) ?_
          refine lv_fload hx hb dX7_move_142 (lv_at hl 0 rfl) ?_
          refine m_put hx hb hts inX7 tyX7 tyX7_ok nmX7 hown hK hP hJ hS (ci := 7) rfl (k := 0) (by decide) rfl 28 (by decide) (hts (.fieldLink RX7 109 "RollbackPairModel" "newSpeed" "F") (by decide +kernel)) rfl rfl rfl (Nat.le_of_ble_eq_true rfl) (fs' := [.int d, .int w, .ref (ad 1), .ref (ad 2), .ref (ad 3), .ref (ad 4), .ref (ad 5), .ref (ad 6), .ref (ad 7), .ref (ad 8), .ref (ad 9), .ref (ad 10), .ref (ad 11), .ref (ad 12), .ref (ad 13), .ref (ad 14), .ref (ad 15), .ref (ad 16), .ref (ad 17), .ref (ad 18), .ref (ad 19), .ref (ad 20), .ref (ad 21), .ref (ad 22), .ref (ad 23), .ref (ad 24), .ref (ad 25), .float (FP.fsub 1115684864 (FP.fadd x (mvS v i))), .float (FP.fmul (FP.fneg (mvS v i)) 1056964608)]) rfl dX7_move_144 (fun H locs hP hS => ?_)
          rw [mm_np] at hP
          exact r_v hx hb hr hlocks hK hP hS dX7_move_147 (by rw [mv_e2 c1 c2])
      · refine lv_fload hx hb dX7_move_96 (lv_at hl 0 rfl) ?_
        refine lv_fneg hx hb dX7_move_98 ?_
        refine lv_fstore (lv' := [(8, .float (FP.fneg (FP.fadd x (mvS v i)))), (7, .float (mvS v i)), (0, .ref (ad 0)), (1, .float x)]) hx hb dX7_move_99 hl (by decide) rfl (fun ls hl => ?_)
        refine lv_fload hx hb dX7_move_101 (lv_at hl 1 rfl) ?_
        refine lv_fneg hx hb dX7_move_103 ?_
        refine lv_ldcf hx hb hown (hts (.constantFloat RX7 102 (1056964608)) (by decide +kernel)) dX7_move_104 ?_
        refine lv_fmul hx hb dX7_move_106 (mv_5 (mv_4 hV i)).n ?_
        refine lv_fstore (lv' := [(7, .float (FP.fmul (FP.fneg (mvS v i)) 1056964608)), (8, .float (FP.fneg (FP.fadd x (mvS v i)))), (0, .ref (ad 0)), (1, .float x)]) hx hb dX7_move_107 hl (by decide) rfl (fun ls hl => ?_)
        refine lv_goto (tgt := 135) hx hb dX7_move_109 (by decide) ?_
        refine lv_aload_n hx hb dX7_move_135 rfl (lv_at hl 2 rfl) ?_
        refine lv_fload hx hb dX7_move_136 (lv_at hl 1 rfl) ?_
        refine m_put hx hb hts inX7 tyX7 tyX7_ok nmX7 hown hK hP hJ hS (ci := 7) rfl (k := 0) (by decide) rfl 27 (by decide) (hts (.fieldLink RX7 105 "RollbackPairModel" "newPlace" "F") (by decide +kernel)) rfl rfl rfl (Nat.le_of_ble_eq_true rfl) (fs' := [.int d, .int w, .ref (ad 1), .ref (ad 2), .ref (ad 3), .ref (ad 4), .ref (ad 5), .ref (ad 6), .ref (ad 7), .ref (ad 8), .ref (ad 9), .ref (ad 10), .ref (ad 11), .ref (ad 12), .ref (ad 13), .ref (ad 14), .ref (ad 15), .ref (ad 16), .ref (ad 17), .ref (ad 18), .ref (ad 19), .ref (ad 20), .ref (ad 21), .ref (ad 22), .ref (ad 23), .ref (ad 24), .ref (ad 25), .float (FP.fneg (FP.fadd x (mvS v i))), .float ns]) rfl dX7_move_138 (fun H locs hP hS => ?_)
        rw [mm_np] at hP
        refine lv_aload_n hx hb dX7_move_141 rfl (lv_at hl 2 rfl) ?_
        refine lv_fload hx hb dX7_move_142 (lv_at hl 0 rfl) ?_
        refine m_put hx hb hts inX7 tyX7 tyX7_ok nmX7 hown hK hP hJ hS (ci := 7) rfl (k := 0) (by decide) rfl 28 (by decide) (hts (.fieldLink RX7 109 "RollbackPairModel" "newSpeed" "F") (by decide +kernel)) rfl rfl rfl (Nat.le_of_ble_eq_true rfl) (fs' := [.int d, .int w, .ref (ad 1), .ref (ad 2), .ref (ad 3), .ref (ad 4), .ref (ad 5), .ref (ad 6), .ref (ad 7), .ref (ad 8), .ref (ad 9), .ref (ad 10), .ref (ad 11), .ref (ad 12), .ref (ad 13), .ref (ad 14), .ref (ad 15), .ref (ad 16), .ref (ad 17), .ref (ad 18), .ref (ad 19), .ref (ad 20), .ref (ad 21), .ref (ad 22), .ref (ad 23), .ref (ad 24), .ref (ad 25), .float (FP.fneg (FP.fadd x (mvS v i))), .float (FP.fmul (FP.fneg (mvS v i)) 1056964608)]) rfl dX7_move_144 (fun H locs hP hS => ?_)
        rw [mm_np] at hP
        exact r_v hx hb hr hlocks hK hP hS dX7_move_147 (by rw [mv_e1 c1])
    · refine lv_fload_n hx hb dX7_move_52 rfl (lv_at hl 3 rfl) ?_
      refine lv_ldcf hx hb hown (hts (.constantFloat RX7 100 (1063256064)) (by decide +kernel)) dX7_move_53 ?_
      refine lv_fmul hx hb dX7_move_55 (mv_1 hV).n ?_
      refine lv_fload hx hb dX7_move_56 (lv_at hl 0 rfl) ?_
      refine lv_ldcf hx hb hown (hts (.constantFloat RX7 101 (1050253722)) (by decide +kernel)) dX7_move_58 ?_
      refine lv_fmul hx hb dX7_move_60 (mv_2 i).n ?_
      refine lv_fadd hx hb dX7_move_61 (mv_3 hV i).n ?_
      refine lv_fstore (lv' := [(7, .float (mvV v i)), (6, .float (psh i)), (0, .ref (ad 0)), (1, .float x), (2, .float v), (3, .int i)]) hx hb dX7_move_62 hl (by decide) rfl (fun ls hl => ?_)
      refine lv_iload_n hx hb dX7_move_64 rfl (lv_at hl 5 rfl) ?_
      refine lv_iconst (v := nI 4) hx hb dX7_move_65 (by decide) ?_
      refine lv_iand hx hb dX7_move_66 ?_
      refine lv_iconst (v := nI 4) hx hb dX7_move_67 (by decide) ?_
      refine lv_icmp_ne (tgt := 79) hx hb dX7_move_68 (by decide) (fun c3 => ?_) (fun c3 => ?_)
      · refine lv_fload hx hb dX7_move_79 (lv_at hl 0 rfl) ?_
        exact J _ ls ⟨by unfold mvS; rw [if_neg c3], lv_sub hl [2, 3] rfl⟩
      · refine lv_fload hx hb dX7_move_71 (lv_at hl 0 rfl) ?_
        refine lv_ldcf hx hb hown (hts (.constantFloat RX7 102 (1056964608)) (by decide +kernel)) dX7_move_73 ?_
        refine lv_fmul hx hb dX7_move_75 (mv_h (mv_3 hV i)).n ?_
        refine lv_goto (tgt := 81) hx hb dX7_move_76 (by decide) ?_
        exact J _ ls ⟨by unfold mvS; rw [if_pos c3], lv_sub hl [2, 3] rfl⟩
  · refine lv_iload_n hx hb dX7_move_0 rfl (lv_at hl 3 rfl) ?_
    refine lv_iconst (v := nI 1) hx hb dX7_move_1 (by decide) ?_
    refine lv_iand hx hb dX7_move_2 ?_
    refine lv_iconst (v := nI 1) hx hb dX7_move_3 (by decide) ?_
    refine lv_icmp_ne (tgt := 11) hx hb dX7_move_4 (by decide) (fun cL => ?_) (fun cL => ?_)
    · refine lv_iconst (v := nI 0) hx hb dX7_move_11 (by decide) ?_
      refine lv_istore (lv' := [(4, .int (nI 0)), (0, .ref (ad 0)), (1, .float x), (2, .float v), (3, .int i)]) hx hb dX7_move_12 hl (by decide) rfl (fun ls hl => ?_)
      refine lv_iload_n hx hb dX7_move_14 rfl (lv_at hl 4 rfl) ?_
      refine lv_iconst (v := nI 2) hx hb dX7_move_15 (by decide) ?_
      refine lv_iand hx hb dX7_move_16 ?_
      refine lv_iconst (v := nI 2) hx hb dX7_move_17 (by decide) ?_
      refine lv_icmp_ne (tgt := 25) hx hb dX7_move_18 (by decide) (fun cR => ?_) (fun cR => ?_)
      · refine lv_iconst (v := nI 0) hx hb dX7_move_25 (by decide) ?_
        refine lv_istore (lv' := [(5, .int (nI 0)), (4, .int (nI 0)), (0, .ref (ad 0)), (1, .float x), (2, .float v), (3, .int i)]) hx hb dX7_move_26 hl (by decide) rfl (fun ls hl => ?_)
        refine lv_iload hx hb dX7_move_28 (lv_at hl 1 rfl) ?_
        refine lv_iload hx hb dX7_move_30 (lv_at hl 0 rfl) ?_
        refine n_cmp_ne (tgt := 39) hx hb dX7_move_32 (by decide) (by omega) (by omega) (fun c_1 => absurd c_1 (by decide)) (fun c_1 => ?_)
        refine lv_fconst0 hx hb dX7_move_35 ?_
        refine lv_goto (tgt := 50) hx hb dX7_move_36 (by decide) ?_
        refine lv_fstore (lv' := [(6, .float FP.fconst0), (5, .int (nI 0)), (4, .int (nI 0)), (0, .ref (ad 0)), (1, .float x), (2, .float v), (3, .int i)]) hx hb dX7_move_50 hl (by decide) rfl (fun ls hl => ?_)
        exact J _ ls ⟨by unfold psh; simp [cL, cR], lv_sub hl [0, 3, 4, 5, 6] rfl⟩
      · refine lv_iconst (v := nI 1) hx hb dX7_move_21 (by decide) ?_
        refine lv_goto (tgt := 26) hx hb dX7_move_22 (by decide) ?_
        refine lv_istore (lv' := [(5, .int (nI 1)), (4, .int (nI 0)), (0, .ref (ad 0)), (1, .float x), (2, .float v), (3, .int i)]) hx hb dX7_move_26 hl (by decide) rfl (fun ls hl => ?_)
        refine lv_iload hx hb dX7_move_28 (lv_at hl 1 rfl) ?_
        refine lv_iload hx hb dX7_move_30 (lv_at hl 0 rfl) ?_
        refine n_cmp_ne (tgt := 39) hx hb dX7_move_32 (by decide) (by omega) (by omega) (fun c_2 => ?_) (fun c_2 => absurd c_2 (by decide))
        refine lv_iload hx hb dX7_move_39 (lv_at hl 0 rfl) ?_
        refine n_if_eq (tgt := 48) hx hb dX7_move_41 (by decide) (by omega) (fun c_3 => absurd c_3 (by decide)) (fun c_3 => ?_)
        refine lv_fconst1 hx hb dX7_move_44 ?_
        refine lv_goto (tgt := 50) hx hb dX7_move_45 (by decide) ?_
        refine lv_fstore (lv' := [(6, .float FP.fconst1), (5, .int (nI 1)), (4, .int (nI 0)), (0, .ref (ad 0)), (1, .float x), (2, .float v), (3, .int i)]) hx hb dX7_move_50 hl (by decide) rfl (fun ls hl => ?_)
        exact J _ ls ⟨by unfold psh; simp [cL, cR], lv_sub hl [0, 3, 4, 5, 6] rfl⟩
    · refine lv_iconst (v := nI 1) hx hb dX7_move_7 (by decide) ?_
      refine lv_goto (tgt := 12) hx hb dX7_move_8 (by decide) ?_
      refine lv_istore (lv' := [(4, .int (nI 1)), (0, .ref (ad 0)), (1, .float x), (2, .float v), (3, .int i)]) hx hb dX7_move_12 hl (by decide) rfl (fun ls hl => ?_)
      refine lv_iload_n hx hb dX7_move_14 rfl (lv_at hl 4 rfl) ?_
      refine lv_iconst (v := nI 2) hx hb dX7_move_15 (by decide) ?_
      refine lv_iand hx hb dX7_move_16 ?_
      refine lv_iconst (v := nI 2) hx hb dX7_move_17 (by decide) ?_
      refine lv_icmp_ne (tgt := 25) hx hb dX7_move_18 (by decide) (fun cR => ?_) (fun cR => ?_)
      · refine lv_iconst (v := nI 0) hx hb dX7_move_25 (by decide) ?_
        refine lv_istore (lv' := [(5, .int (nI 0)), (4, .int (nI 1)), (0, .ref (ad 0)), (1, .float x), (2, .float v), (3, .int i)]) hx hb dX7_move_26 hl (by decide) rfl (fun ls hl => ?_)
        refine lv_iload hx hb dX7_move_28 (lv_at hl 1 rfl) ?_
        refine lv_iload hx hb dX7_move_30 (lv_at hl 0 rfl) ?_
        refine n_cmp_ne (tgt := 39) hx hb dX7_move_32 (by decide) (by omega) (by omega) (fun c_4 => ?_) (fun c_4 => absurd c_4 (by decide))
        refine lv_iload hx hb dX7_move_39 (lv_at hl 0 rfl) ?_
        refine n_if_eq (tgt := 48) hx hb dX7_move_41 (by decide) (by omega) (fun c_5 => ?_) (fun c_5 => absurd c_5 (by decide))
        refine lv_ldcf hx hb hown (hts (.constantFloat RX7 99 (3212836864)) (by decide +kernel)) dX7_move_48 ?_
        refine lv_fstore (lv' := [(6, .float 3212836864), (5, .int (nI 0)), (4, .int (nI 1)), (0, .ref (ad 0)), (1, .float x), (2, .float v), (3, .int i)]) hx hb dX7_move_50 hl (by decide) rfl (fun ls hl => ?_)
        exact J _ ls ⟨by unfold psh; simp [cL, cR], lv_sub hl [0, 3, 4, 5, 6] rfl⟩
      · refine lv_iconst (v := nI 1) hx hb dX7_move_21 (by decide) ?_
        refine lv_goto (tgt := 26) hx hb dX7_move_22 (by decide) ?_
        refine lv_istore (lv' := [(5, .int (nI 1)), (4, .int (nI 1)), (0, .ref (ad 0)), (1, .float x), (2, .float v), (3, .int i)]) hx hb dX7_move_26 hl (by decide) rfl (fun ls hl => ?_)
        refine lv_iload hx hb dX7_move_28 (lv_at hl 1 rfl) ?_
        refine lv_iload hx hb dX7_move_30 (lv_at hl 0 rfl) ?_
        refine n_cmp_ne (tgt := 39) hx hb dX7_move_32 (by decide) (by omega) (by omega) (fun c_6 => absurd c_6 (by decide)) (fun c_6 => ?_)
        refine lv_fconst0 hx hb dX7_move_35 ?_
        refine lv_goto (tgt := 50) hx hb dX7_move_36 (by decide) ?_
        refine lv_fstore (lv' := [(6, .float FP.fconst0), (5, .int (nI 1)), (4, .int (nI 1)), (0, .ref (ad 0)), (1, .float x), (2, .float v), (3, .int i)]) hx hb dX7_move_50 hl (by decide) rfl (fun ls hl => ?_)
        exact J _ ls ⟨by unfold psh; simp [cL, cR], lv_sub hl [0, 3, 4, 5, 6] rfl⟩
end
section
/-- a frame is played: the inputs used, the next state -/
def mPlay (S : SS) (q f : Nat) : SS :=
  sD (sI (sF (sF (sF (sF (sI (sI S 11 (upd (S.1 11) (1200 * q + f) (mUse S q 0 f))) 11 (upd (upd (S.1 11) (1200 * q + f) (mUse S q 0 f)) (1200 * q + 600 + f) (mUse S q 1 f)))
    13 (vf_upd (S.2.1 13) (600 * q + f + 1) (st_x (mv (S.2.1 13 (600 * q + f)) (S.2.1 14 (600 * q + f)) (mUse S q 0 f)) (mv (S.2.1 15 (600 * q + f)) (S.2.1 16 (600 * q + f)) (mUse S q 1 f))))) 14 (vf_upd (S.2.1 14) (600 * q + f + 1) (st_s (mv (S.2.1 13 (600 * q + f)) (S.2.1 14 (600 * q + f)) (mUse S q 0 f)) (mv (S.2.1 15 (600 * q + f)) (S.2.1 16 (600 * q + f)) (mUse S q 1 f))))) 15 (vf_upd (S.2.1 15) (600 * q + f + 1) (st_y (mv (S.2.1 13 (600 * q + f)) (S.2.1 14 (600 * q + f)) (mUse S q 0 f)) (mv (S.2.1 15 (600 * q + f)) (S.2.1 16 (600 * q + f)) (mUse S q 1 f))))) 16 (vf_upd (S.2.1 16) (600 * q + f + 1) (st_t (mv (S.2.1 13 (600 * q + f)) (S.2.1 14 (600 * q + f)) (mUse S q 0 f)) (mv (S.2.1 15 (600 * q + f)) (S.2.1 16 (600 * q + f)) (mUse S q 1 f)))))
    17 (upd (S.1 17) (600 * q + f + 1) (S.1 17 (600 * q + f) + st_m (mv (S.2.1 13 (600 * q + f)) (S.2.1 14 (600 * q + f)) (mUse S q 0 f)) (mv (S.2.1 15 (600 * q + f)) (S.2.1 16 (600 * q + f)) (mUse S q 1 f))))) (vf_upd S.2.2.2 (600 * q + f + 1) (st_w (mv (S.2.1 13 (600 * q + f)) (S.2.1 14 (600 * q + f)) (mUse S q 0 f)) (mv (S.2.1 15 (600 * q + f)) (S.2.1 16 (600 * q + f)) (mUse S q 1 f)) (S.2.2.2 (600 * q + f))))
/-- the state of peer q ahead of frame f is within its bounds -/
def BdAt (S : SS) (q f : Nat) : Prop := Bd (S.2.1 13 (600 * q + f)) (S.2.1 14 (600 * q + f)) (S.2.1 15 (600 * q + f)) (S.2.1 16 (600 * q + f)) (S.2.2.2 (600 * q + f)) f
set_option maxHeartbeats 4000000 in
set_option maxRecDepth 100000 in
/-- play(q, f) -/
theorem c_play (l : Launch) (D : va_G) (cs : Nat → ClassId) (ad : Nat → Nat) (hJ : Inj ad 26) (d w : Int32) (S : SS) (np ns : UInt32) (q f N0 N1 : Nat) (hq : q < 2) (hf : f < 599) (h0 : S.1 12 (2 * q + 0) = nI N0) (hN0 : N0 ≤ 600) (h1 : S.1 12 (2 * q + 1) = nI N1) (hN1 : N1 ≤ 600) (hB : BdAt S q f) : CTv l yX7_play wsX7_play ({ frames := 1, cells := 0, slots := 0, locals := 28 }) D cs ad 26 (mm ad cs d w S np ns) [.ref (ad 0), .int (nI q), .int (nI f)] (fun M2 => ∃ np2 ns2, M2 = mm ad cs d w (mPlay S q f) np2 ns2) := by
  refine Met.ofW (cc := cX7_play) (maxL := 15) (ret := none) (by decide) rfl ?_
  intro p e s m args below meth c s₁ B hml hv
  obtain ⟨rfl, hP, hK⟩ := hv
  have hx := B.exec
  have hb := B.bytes
  have hr := B.returns
  have hts := atoms_spec (ws := wsX7_play) B.pre
  have hown : s.vm.findClass RX7 = some m.cls := findClass_of_methodNamed B.named
  have hlocks := B.notSynchronized
  have hS : va_S (Ad ad 26) s.heap s.heap [] := va_S.rf
  have hl := lv_entry ([.ref (ad 0), .int (nI q), .int (nI f)]) (n := 15) (Nat.le_of_ble_eq_true rfl)
  rw [lg_entry_eq]
  generalize (lg_sl ([.ref (ad 0), .int (nI q), .int (nI f)]) ++ List.replicate (15 - (lg_sl ([.ref (ad 0), .int (nI q), .int (nI f)])).length) Slot.unset).toArray = ls at hl ⊢
  have hl : lv_has ls 15 [(0, .ref (ad 0)), (1, .int (nI q)), (2, .int (nI f))] := hl
  have inX7 : ∀ w ∈ u_ws RX7 TX7 29, w ∈ wsX7_play := by decide +kernel
  have hA1 := mv_b hB.1 hB.2.1 (mUse S q 0 f)
  have hB1 := mv_b hB.2.2.1 hB.2.2.2.1 (mUse S q 1 f)
  have hs : Fb (st_s (mv (S.2.1 13 (600 * q + f)) (S.2.1 14 (600 * q + f)) (mUse S q 0 f)) (mv (S.2.1 15 (600 * q + f)) (S.2.1 16 (600 * q + f)) (mUse S q 1 f))) (-(32 * e8)) (32 * e8) := by unfold st_s; split; exact hB1.2; exact hA1.2
  have ht : Fb (st_t (mv (S.2.1 13 (600 * q + f)) (S.2.1 14 (600 * q + f)) (mUse S q 0 f)) (mv (S.2.1 15 (600 * q + f)) (S.2.1 16 (600 * q + f)) (mUse S q 1 f))) (-(32 * e8)) (32 * e8) := by unfold st_t; split; exact hA1.2; exact hB1.2
  refine lv_sipush (v := nI 600) hx hb dX7_play_0 (by decide) ?_
  refine lv_iload_n hx hb dX7_play_3 rfl (lv_at hl 1 rfl) ?_
  refine n_mul hx hb dX7_play_4 ?_
  refine lv_iload_n hx hb dX7_play_5 rfl (lv_at hl 2 rfl) ?_
  refine n_add hx hb dX7_play_6 ?_
  refine lv_istore_n (lv' := [(3, .int (nI (600 * q + f))), (0, .ref (ad 0)), (1, .int (nI q)), (2, .int (nI f))]) hx hb dX7_play_7 rfl hl (by decide) rfl (fun ls hl => ?_)
  refine lv_aload_n hx hb dX7_play_8 rfl (lv_at hl 1 rfl) ?_
  refine lv_iload_n hx hb dX7_play_9 rfl (lv_at hl 2 rfl) ?_
  refine lv_iconst (v := nI 0) hx hb dX7_play_10 (by decide) ?_
  refine lv_iload_n hx hb dX7_play_11 rfl (lv_at hl 3 rfl) ?_
  refine k_Vi (As := [.int (nI q), .int (nI 0), .int (nI f)]) (rest := []) (k := 0) (ci := 7) ⟨hx, hb, hml, hown, hts⟩ hK hP hS Ad_le (c_useOf l D cs ad hJ d w S np ns q 0 f N0 hq (by decide) (by omega) h0 hN0) (cwV 3 hts gX7_play_X7_useOf rfl rfl rfl (by decide +kernel) ⟨Nat.le_of_ble_eq_true rfl, Nat.le_of_ble_eq_true rfl⟩) (by decide) rfl rfl rfl rfl hl.1 (Nat.le_of_ble_eq_true rfl) dX7_play_12 ⟨Nat.le_of_ble_eq_true rfl, Nat.le_of_ble_eq_true rfl⟩ (fun r_1 M1 H locs hpo hP hS _ _ => ?_)
  obtain ⟨rfl, rfl⟩ := hpo
  refine lv_istore (lv' := [(4, .int (mUse S q 0 f)), (3, .int (nI (600 * q + f))), (0, .ref (ad 0)), (1, .int (nI q)), (2, .int (nI f))]) hx hb dX7_play_15 hl (by decide) rfl (fun ls hl => ?_)
  refine lv_aload_n hx hb dX7_play_17 rfl (lv_at hl 2 rfl) ?_
  refine lv_iload_n hx hb dX7_play_18 rfl (lv_at hl 3 rfl) ?_
  refine lv_iconst (v := nI 1) hx hb dX7_play_19 (by decide) ?_
  refine lv_iload_n hx hb dX7_play_20 rfl (lv_at hl 4 rfl) ?_
  refine k_Vi (As := [.int (nI q), .int (nI 1), .int (nI f)]) (rest := []) (k := 0) (ci := 7) ⟨hx, hb, hml, hown, hts⟩ hK hP hS Ad_le (c_useOf l D cs ad hJ d w S np ns q 1 f N1 hq (by decide) (by omega) h1 hN1) (cwV 3 hts gX7_play_X7_useOf rfl rfl rfl (by decide +kernel) ⟨Nat.le_of_ble_eq_true rfl, Nat.le_of_ble_eq_true rfl⟩) (by decide) rfl rfl rfl rfl hl.1 (Nat.le_of_ble_eq_true rfl) dX7_play_21 ⟨Nat.le_of_ble_eq_true rfl, Nat.le_of_ble_eq_true rfl⟩ (fun r_2 M1 H locs hpo hP hS _ _ => ?_)
  obtain ⟨rfl, rfl⟩ := hpo
  refine lv_istore (lv' := [(5, .int (mUse S q 1 f)), (4, .int (mUse S q 0 f)), (3, .int (nI (600 * q + f))), (0, .ref (ad 0)), (1, .int (nI q)), (2, .int (nI f))]) hx hb dX7_play_24 hl (by decide) rfl (fun ls hl => ?_)
  refine lv_aload_n hx hb dX7_play_26 rfl (lv_at hl 3 rfl) ?_
  refine m_get hx hb hts inX7 hown hK hP (ci := 7) rfl (k := 0) (by decide) rfl 11 (by decide) (hts (.fieldLink RX7 40 "RollbackPairModel" "uses" "[I") (by decide +kernel)) rfl dX7_play_27 ?_
  refine lv_sipush (v := nI 1200) hx hb dX7_play_30 (by decide) ?_
  refine lv_iload_n hx hb dX7_play_33 rfl (lv_at hl 4 rfl) ?_
  refine n_mul hx hb dX7_play_34 ?_
  refine lv_iload_n hx hb dX7_play_35 rfl (lv_at hl 5 rfl) ?_
  refine n_add hx hb dX7_play_36 ?_
  refine lv_iload hx hb dX7_play_37 (lv_at hl 1 rfl) ?_
  refine m_iast hx hb hK hP hJ hS (k := 10) (by decide) (f := (S.1 11)) rfl (i := 1200 * q + f) (by omega) (by decide) dX7_play_39 (fun H locs hP hS => ?_)
  rw [mm_up11] at hP
  refine lv_aload_n hx hb dX7_play_40 rfl (lv_at hl 3 rfl) ?_
  refine m_get hx hb hts inX7 hown hK hP (ci := 7) rfl (k := 0) (by decide) rfl 11 (by decide) (hts (.fieldLink RX7 40 "RollbackPairModel" "uses" "[I") (by decide +kernel)) rfl dX7_play_41 ?_
  refine lv_sipush (v := nI 1200) hx hb dX7_play_44 (by decide) ?_
  refine lv_iload_n hx hb dX7_play_47 rfl (lv_at hl 4 rfl) ?_
  refine n_mul hx hb dX7_play_48 ?_
  refine lv_sipush (v := nI 600) hx hb dX7_play_49 (by decide) ?_
  refine n_add hx hb dX7_play_52 ?_
  refine lv_iload_n hx hb dX7_play_53 rfl (lv_at hl 5 rfl) ?_
  refine n_add hx hb dX7_play_54 ?_
  refine lv_iload hx hb dX7_play_55 (lv_at hl 0 rfl) ?_
  refine m_iast hx hb hK hP hJ hS (k := 10) (by decide) (f := (upd (S.1 11) (1200 * q + f) (mUse S q 0 f))) rfl (i := 1200 * q + 600 + f) (by omega) (by decide) dX7_play_57 (fun H locs hP hS => ?_)
  rw [mm_up11] at hP
  refine lv_aload_n hx hb dX7_play_58 rfl (lv_at hl 3 rfl) ?_
  refine lv_aload_n hx hb dX7_play_59 rfl (lv_at hl 3 rfl) ?_
  refine m_get hx hb hts inX7 hown hK hP (ci := 7) rfl (k := 0) (by decide) rfl 13 (by decide) (hts (.fieldLink RX7 46 "RollbackPairModel" "place0" "[F") (by decide +kernel)) rfl dX7_play_60 ?_
  refine lv_iload_n hx hb dX7_play_63 rfl (lv_at hl 2 rfl) ?_
  refine m_fald hx hb hK hP (k := 12) (by decide) (f := (S.2.1 13)) rfl (i := 600 * q + f) (by omega) (by decide) dX7_play_64 ?_
  refine lv_aload_n hx hb dX7_play_65 rfl (lv_at hl 3 rfl) ?_
  refine m_get hx hb hts inX7 hown hK hP (ci := 7) rfl (k := 0) (by decide) rfl 14 (by decide) (hts (.fieldLink RX7 49 "RollbackPairModel" "speed0" "[F") (by decide +kernel)) rfl dX7_play_66 ?_
  refine lv_iload_n hx hb dX7_play_69 rfl (lv_at hl 2 rfl) ?_
  refine m_fald hx hb hK hP (k := 13) (by decide) (f := (S.2.1 14)) rfl (i := 600 * q + f) (by omega) (by decide) dX7_play_70 ?_
  refine lv_iload hx hb dX7_play_71 (lv_at hl 1 rfl) ?_
  refine k_Vv (As := [.float ((S.2.1 13) (600 * q + f)), .float ((S.2.1 14) (600 * q + f)), .int (mUse S q 0 f)]) (rest := []) (k := 0) (ci := 7) ⟨hx, hb, hml, hown, hts⟩ hK hP hS Ad_le (c_move l D cs ad hJ d w (sI (sI S 11 (upd (S.1 11) (1200 * q + f) (mUse S q 0 f))) 11 (upd (upd (S.1 11) (1200 * q + f) (mUse S q 0 f)) (1200 * q + 600 + f) (mUse S q 1 f))) np ns (S.2.1 13 (600 * q + f)) (S.2.1 14 (600 * q + f)) (mUse S q 0 f) hB.1 hB.2.1) (cwV 3 hts gX7_play_X7_move rfl rfl rfl (by decide +kernel) ⟨Nat.le_of_ble_eq_true rfl, Nat.le_of_ble_eq_true rfl⟩) (by decide) rfl rfl rfl rfl hl.1 (Nat.le_of_ble_eq_true rfl) dX7_play_73 ⟨Nat.le_of_ble_eq_true rfl, Nat.le_of_ble_eq_true rfl⟩ (fun M1 H locs hpo hP hS _ _ => ?_)
  subst hpo
  refine lv_aload_n hx hb dX7_play_76 rfl (lv_at hl 3 rfl) ?_
  refine m_get hx hb hts inX7 hown hK hP (ci := 7) rfl (k := 0) (by decide) rfl 27 (by decide) (hts (.fieldLink RX7 105 "RollbackPairModel" "newPlace" "F") (by decide +kernel)) rfl dX7_play_77 ?_
  refine lv_fstore (lv' := [(6, .float ((mv (S.2.1 13 (600 * q + f)) (S.2.1 14 (600 * q + f)) (mUse S q 0 f)).1)), (5, .int (mUse S q 1 f)), (4, .int (mUse S q 0 f)), (3, .int (nI (600 * q + f))), (0, .ref (ad 0)), (1, .int (nI q)), (2, .int (nI f))]) hx hb dX7_play_80 hl (by decide) rfl (fun ls hl => ?_)
  refine lv_aload_n hx hb dX7_play_82 rfl (lv_at hl 4 rfl) ?_
  refine m_get hx hb hts inX7 hown hK hP (ci := 7) rfl (k := 0) (by decide) rfl 28 (by decide) (hts (.fieldLink RX7 109 "RollbackPairModel" "newSpeed" "F") (by decide +kernel)) rfl dX7_play_83 ?_
  refine lv_fstore (lv' := [(7, .float ((mv (S.2.1 13 (600 * q + f)) (S.2.1 14 (600 * q + f)) (mUse S q 0 f)).2)), (6, .float ((mv (S.2.1 13 (600 * q + f)) (S.2.1 14 (600 * q + f)) (mUse S q 0 f)).1)), (5, .int (mUse S q 1 f)), (4, .int (mUse S q 0 f)), (3, .int (nI (600 * q + f))), (0, .ref (ad 0)), (1, .int (nI q)), (2, .int (nI f))]) hx hb dX7_play_86 hl (by decide) rfl (fun ls hl => ?_)
  refine lv_aload_n hx hb dX7_play_88 rfl (lv_at hl 5 rfl) ?_
  refine lv_aload_n hx hb dX7_play_89 rfl (lv_at hl 5 rfl) ?_
  refine m_get hx hb hts inX7 hown hK hP (ci := 7) rfl (k := 0) (by decide) rfl 15 (by decide) (hts (.fieldLink RX7 52 "RollbackPairModel" "place1" "[F") (by decide +kernel)) rfl dX7_play_90 ?_
  refine lv_iload_n hx hb dX7_play_93 rfl (lv_at hl 4 rfl) ?_
  refine m_fald hx hb hK hP (k := 14) (by decide) (f := (S.2.1 15)) rfl (i := 600 * q + f) (by omega) (by decide) dX7_play_94 ?_
  refine lv_aload_n hx hb dX7_play_95 rfl (lv_at hl 5 rfl) ?_
  refine m_get hx hb hts inX7 hown hK hP (ci := 7) rfl (k := 0) (by decide) rfl 16 (by decide) (hts (.fieldLink RX7 55 "RollbackPairModel" "speed1" "[F") (by decide +kernel)) rfl dX7_play_96 ?_
  refine lv_iload_n hx hb dX7_play_99 rfl (lv_at hl 4 rfl) ?_
  refine m_fald hx hb hK hP (k := 15) (by decide) (f := (S.2.1 16)) rfl (i := 600 * q + f) (by omega) (by decide) dX7_play_100 ?_
  refine lv_iload hx hb dX7_play_101 (lv_at hl 2 rfl) ?_
  refine k_Vv (As := [.float ((S.2.1 15) (600 * q + f)), .float ((S.2.1 16) (600 * q + f)), .int (mUse S q 1 f)]) (rest := []) (k := 0) (ci := 7) ⟨hx, hb, hml, hown, hts⟩ hK hP hS Ad_le (c_move l D cs ad hJ d w (sI (sI S 11 (upd (S.1 11) (1200 * q + f) (mUse S q 0 f))) 11 (upd (upd (S.1 11) (1200 * q + f) (mUse S q 0 f)) (1200 * q + 600 + f) (mUse S q 1 f))) ((mv (S.2.1 13 (600 * q + f)) (S.2.1 14 (600 * q + f)) (mUse S q 0 f)).1) ((mv (S.2.1 13 (600 * q + f)) (S.2.1 14 (600 * q + f)) (mUse S q 0 f)).2) (S.2.1 15 (600 * q + f)) (S.2.1 16 (600 * q + f)) (mUse S q 1 f) hB.2.2.1 hB.2.2.2.1) (cwV 3 hts gX7_play_X7_move rfl rfl rfl (by decide +kernel) ⟨Nat.le_of_ble_eq_true rfl, Nat.le_of_ble_eq_true rfl⟩) (by decide) rfl rfl rfl rfl hl.1 (Nat.le_of_ble_eq_true rfl) dX7_play_103 ⟨Nat.le_of_ble_eq_true rfl, Nat.le_of_ble_eq_true rfl⟩ (fun M1 H locs hpo hP hS _ _ => ?_)
  subst hpo
  refine lv_aload_n hx hb dX7_play_106 rfl (lv_at hl 5 rfl) ?_
  refine m_get hx hb hts inX7 hown hK hP (ci := 7) rfl (k := 0) (by decide) rfl 27 (by decide) (hts (.fieldLink RX7 105 "RollbackPairModel" "newPlace" "F") (by decide +kernel)) rfl dX7_play_107 ?_
  refine lv_fstore (lv' := [(8, .float ((mv (S.2.1 15 (600 * q + f)) (S.2.1 16 (600 * q + f)) (mUse S q 1 f)).1)), (7, .float ((mv (S.2.1 13 (600 * q + f)) (S.2.1 14 (600 * q + f)) (mUse S q 0 f)).2)), (6, .float ((mv (S.2.1 13 (600 * q + f)) (S.2.1 14 (600 * q + f)) (mUse S q 0 f)).1)), (5, .int (mUse S q 1 f)), (4, .int (mUse S q 0 f)), (3, .int (nI (600 * q + f))), (0, .ref (ad 0)), (1, .int (nI q)), (2, .int (nI f))]) hx hb dX7_play_110 hl (by decide) rfl (fun ls hl => ?_)
  refine lv_aload_n hx hb dX7_play_112 rfl (lv_at hl 6 rfl) ?_
  refine m_get hx hb hts inX7 hown hK hP (ci := 7) rfl (k := 0) (by decide) rfl 28 (by decide) (hts (.fieldLink RX7 109 "RollbackPairModel" "newSpeed" "F") (by decide +kernel)) rfl dX7_play_113 ?_
  refine lv_fstore (lv' := [(9, .float ((mv (S.2.1 15 (600 * q + f)) (S.2.1 16 (600 * q + f)) (mUse S q 1 f)).2)), (8, .float ((mv (S.2.1 15 (600 * q + f)) (S.2.1 16 (600 * q + f)) (mUse S q 1 f)).1)), (7, .float ((mv (S.2.1 13 (600 * q + f)) (S.2.1 14 (600 * q + f)) (mUse S q 0 f)).2)), (6, .float ((mv (S.2.1 13 (600 * q + f)) (S.2.1 14 (600 * q + f)) (mUse S q 0 f)).1)), (5, .int (mUse S q 1 f)), (4, .int (mUse S q 0 f)), (3, .int (nI (600 * q + f))), (0, .ref (ad 0)), (1, .int (nI q)), (2, .int (nI f))]) hx hb dX7_play_116 hl (by decide) rfl (fun ls hl => ?_)
  refine jn (fun (_ : Unit) ls => lv_has ls 15 [(6, .float (st_x (mv (S.2.1 13 (600 * q + f)) (S.2.1 14 (600 * q + f)) (mUse S q 0 f)) (mv (S.2.1 15 (600 * q + f)) (S.2.1 16 (600 * q + f)) (mUse S q 1 f)))), (7, .float (st_s (mv (S.2.1 13 (600 * q + f)) (S.2.1 14 (600 * q + f)) (mUse S q 0 f)) (mv (S.2.1 15 (600 * q + f)) (S.2.1 16 (600 * q + f)) (mUse S q 1 f)))), (8, .float (st_y (mv (S.2.1 13 (600 * q + f)) (S.2.1 14 (600 * q + f)) (mUse S q 0 f)) (mv (S.2.1 15 (600 * q + f)) (S.2.1 16 (600 * q + f)) (mUse S q 1 f)))), (9, .float (st_t (mv (S.2.1 13 (600 * q + f)) (S.2.1 14 (600 * q + f)) (mUse S q 0 f)) (mv (S.2.1 15 (600 * q + f)) (S.2.1 16 (600 * q + f)) (mUse S q 1 f)))), (10, .int (st_m (mv (S.2.1 13 (600 * q + f)) (S.2.1 14 (600 * q + f)) (mUse S q 0 f)) (mv (S.2.1 15 (600 * q + f)) (S.2.1 16 (600 * q + f)) (mUse S q 1 f)))), (0, .ref (ad 0)), (3, .int (nI (600 * q + f)))]) 170 (fun _ => []) (fun _ ls hl => ?_) (fun J => ?_)
  · refine lv_aload_n hx hb dX7_play_170 rfl (lv_at hl 5 rfl) ?_
    refine m_get hx hb hts inX7 hown hK hP (ci := 7) rfl (k := 0) (by decide) rfl 13 (by decide) (hts (.fieldLink RX7 46 "RollbackPairModel" "place0" "[F") (by decide +kernel)) rfl dX7_play_171 ?_
    refine lv_iload_n hx hb dX7_play_174 rfl (lv_at hl 6 rfl) ?_
    refine lv_iconst (v := nI 1) hx hb dX7_play_175 (by decide) ?_
    refine n_add hx hb dX7_play_176 ?_
    refine lv_fload hx hb dX7_play_177 (lv_at hl 0 rfl) ?_
    refine m_fast hx hb hK hP hJ hS (k := 12) (by decide) (f := (S.2.1 13)) rfl (i := 600 * q + f + 1) (by omega) (by decide) dX7_play_179 (fun H locs hP hS => ?_)
    rw [mm_up13] at hP
    refine lv_aload_n hx hb dX7_play_180 rfl (lv_at hl 5 rfl) ?_
    refine m_get hx hb hts inX7 hown hK hP (ci := 7) rfl (k := 0) (by decide) rfl 14 (by decide) (hts (.fieldLink RX7 49 "RollbackPairModel" "speed0" "[F") (by decide +kernel)) rfl dX7_play_181 ?_
    refine lv_iload_n hx hb dX7_play_184 rfl (lv_at hl 6 rfl) ?_
    refine lv_iconst (v := nI 1) hx hb dX7_play_185 (by decide) ?_
    refine n_add hx hb dX7_play_186 ?_
    refine lv_fload hx hb dX7_play_187 (lv_at hl 1 rfl) ?_
    refine m_fast hx hb hK hP hJ hS (k := 13) (by decide) (f := (S.2.1 14)) rfl (i := 600 * q + f + 1) (by omega) (by decide) dX7_play_189 (fun H locs hP hS => ?_)
    rw [mm_up14] at hP
    refine lv_aload_n hx hb dX7_play_190 rfl (lv_at hl 5 rfl) ?_
    refine m_get hx hb hts inX7 hown hK hP (ci := 7) rfl (k := 0) (by decide) rfl 15 (by decide) (hts (.fieldLink RX7 52 "RollbackPairModel" "place1" "[F") (by decide +kernel)) rfl dX7_play_191 ?_
    refine lv_iload_n hx hb dX7_play_194 rfl (lv_at hl 6 rfl) ?_
    refine lv_iconst (v := nI 1) hx hb dX7_play_195 (by decide) ?_
    refine n_add hx hb dX7_play_196 ?_
    refine lv_fload hx hb dX7_play_197 (lv_at hl 2 rfl) ?_
    refine m_fast hx hb hK hP hJ hS (k := 14) (by decide) (f := (S.2.1 15)) rfl (i := 600 * q + f + 1) (by omega) (by decide) dX7_play_199 (fun H locs hP hS => ?_)
    rw [mm_up15] at hP
    refine lv_aload_n hx hb dX7_play_200 rfl (lv_at hl 5 rfl) ?_
    refine m_get hx hb hts inX7 hown hK hP (ci := 7) rfl (k := 0) (by decide) rfl 16 (by decide) (hts (.fieldLink RX7 55 "RollbackPairModel" "speed1" "[F") (by decide +kernel)) rfl dX7_play_201 ?_
    refine lv_iload_n hx hb dX7_play_204 rfl (lv_at hl 6 rfl) ?_
    refine lv_iconst (v := nI 1) hx hb dX7_play_205 (by decide) ?_
    refine n_add hx hb dX7_play_206 ?_
    refine lv_fload hx hb dX7_play_207 (lv_at hl 3 rfl) ?_
    refine m_fast hx hb hK hP hJ hS (k := 15) (by decide) (f := (S.2.1 16)) rfl (i := 600 * q + f + 1) (by omega) (by decide) dX7_play_209 (fun H locs hP hS => ?_)
    rw [mm_up16] at hP
    refine lv_aload_n hx hb dX7_play_210 rfl (lv_at hl 5 rfl) ?_
    refine m_get hx hb hts inX7 hown hK hP (ci := 7) rfl (k := 0) (by decide) rfl 17 (by decide) (hts (.fieldLink RX7 58 "RollbackPairModel" "hits" "[I") (by decide +kernel)) rfl dX7_play_211 ?_
    refine lv_iload_n hx hb dX7_play_214 rfl (lv_at hl 6 rfl) ?_
    refine lv_iconst (v := nI 1) hx hb dX7_play_215 (by decide) ?_
    refine n_add hx hb dX7_play_216 ?_
    refine lv_aload_n hx hb dX7_play_217 rfl (lv_at hl 5 rfl) ?_
    refine m_get hx hb hts inX7 hown hK hP (ci := 7) rfl (k := 0) (by decide) rfl 17 (by decide) (hts (.fieldLink RX7 58 "RollbackPairModel" "hits" "[I") (by decide +kernel)) rfl dX7_play_218 ?_
    refine lv_iload_n hx hb dX7_play_221 rfl (lv_at hl 6 rfl) ?_
    refine m_iald hx hb hK hP (k := 16) (by decide) (f := (S.1 17)) rfl (i := 600 * q + f) (by omega) (by decide) dX7_play_222 ?_
    refine lv_iload hx hb dX7_play_223 (lv_at hl 4 rfl) ?_
    refine lv_iadd hx hb dX7_play_225 ?_
    refine m_iast hx hb hK hP hJ hS (k := 16) (by decide) (f := (S.1 17)) rfl (i := 600 * q + f + 1) (by omega) (by decide) dX7_play_226 (fun H locs hP hS => ?_)
    rw [mm_up17] at hP
    refine lv_fload hx hb dX7_play_227 (lv_at hl 1 rfl) ?_
    refine lv_f2d hx hb dX7_play_229 (wk_1 hs).n ?_
    refine lv_dstore (lv' := [(11, .double (FP.f2d (st_s (mv (S.2.1 13 (600 * q + f)) (S.2.1 14 (600 * q + f)) (mUse S q 0 f)) (mv (S.2.1 15 (600 * q + f)) (S.2.1 16 (600 * q + f)) (mUse S q 1 f))))), (6, .float (st_x (mv (S.2.1 13 (600 * q + f)) (S.2.1 14 (600 * q + f)) (mUse S q 0 f)) (mv (S.2.1 15 (600 * q + f)) (S.2.1 16 (600 * q + f)) (mUse S q 1 f)))), (7, .float (st_s (mv (S.2.1 13 (600 * q + f)) (S.2.1 14 (600 * q + f)) (mUse S q 0 f)) (mv (S.2.1 15 (600 * q + f)) (S.2.1 16 (600 * q + f)) (mUse S q 1 f)))), (8, .float (st_y (mv (S.2.1 13 (600 * q + f)) (S.2.1 14 (600 * q + f)) (mUse S q 0 f)) (mv (S.2.1 15 (600 * q + f)) (S.2.1 16 (600 * q + f)) (mUse S q 1 f)))), (9, .float (st_t (mv (S.2.1 13 (600 * q + f)) (S.2.1 14 (600 * q + f)) (mUse S q 0 f)) (mv (S.2.1 15 (600 * q + f)) (S.2.1 16 (600 * q + f)) (mUse S q 1 f)))), (10, .int (st_m (mv (S.2.1 13 (600 * q + f)) (S.2.1 14 (600 * q + f)) (mUse S q 0 f)) (mv (S.2.1 15 (600 * q + f)) (S.2.1 16 (600 * q + f)) (mUse S q 1 f)))), (0, .ref (ad 0)), (3, .int (nI (600 * q + f)))]) hx hb dX7_play_230 hl (by decide) rfl (fun ls hl => ?_)
    refine lv_fload hx hb dX7_play_232 (lv_at hl 4 rfl) ?_
    refine lv_f2d hx hb dX7_play_234 (wk_1 ht).n ?_
    refine lv_dstore (lv' := [(13, .double (FP.f2d (st_t (mv (S.2.1 13 (600 * q + f)) (S.2.1 14 (600 * q + f)) (mUse S q 0 f)) (mv (S.2.1 15 (600 * q + f)) (S.2.1 16 (600 * q + f)) (mUse S q 1 f))))), (11, .double (FP.f2d (st_s (mv (S.2.1 13 (600 * q + f)) (S.2.1 14 (600 * q + f)) (mUse S q 0 f)) (mv (S.2.1 15 (600 * q + f)) (S.2.1 16 (600 * q + f)) (mUse S q 1 f))))), (6, .float (st_x (mv (S.2.1 13 (600 * q + f)) (S.2.1 14 (600 * q + f)) (mUse S q 0 f)) (mv (S.2.1 15 (600 * q + f)) (S.2.1 16 (600 * q + f)) (mUse S q 1 f)))), (7, .float (st_s (mv (S.2.1 13 (600 * q + f)) (S.2.1 14 (600 * q + f)) (mUse S q 0 f)) (mv (S.2.1 15 (600 * q + f)) (S.2.1 16 (600 * q + f)) (mUse S q 1 f)))), (8, .float (st_y (mv (S.2.1 13 (600 * q + f)) (S.2.1 14 (600 * q + f)) (mUse S q 0 f)) (mv (S.2.1 15 (600 * q + f)) (S.2.1 16 (600 * q + f)) (mUse S q 1 f)))), (9, .float (st_t (mv (S.2.1 13 (600 * q + f)) (S.2.1 14 (600 * q + f)) (mUse S q 0 f)) (mv (S.2.1 15 (600 * q + f)) (S.2.1 16 (600 * q + f)) (mUse S q 1 f)))), (10, .int (st_m (mv (S.2.1 13 (600 * q + f)) (S.2.1 14 (600 * q + f)) (mUse S q 0 f)) (mv (S.2.1 15 (600 * q + f)) (S.2.1 16 (600 * q + f)) (mUse S q 1 f)))), (0, .ref (ad 0)), (3, .int (nI (600 * q + f)))]) hx hb dX7_play_235 hl (by decide) rfl (fun ls hl => ?_)
    refine lv_aload_n hx hb dX7_play_237 rfl (lv_at hl 7 rfl) ?_
    refine m_get hx hb hts inX7 hown hK hP (ci := 7) rfl (k := 0) (by decide) rfl 18 (by decide) (hts (.fieldLink RX7 61 "RollbackPairModel" "work" "[D") (by decide +kernel)) rfl dX7_play_238 ?_
    refine lv_iload_n hx hb dX7_play_241 rfl (lv_at hl 8 rfl) ?_
    refine lv_iconst (v := nI 1) hx hb dX7_play_242 (by decide) ?_
    refine n_add hx hb dX7_play_243 ?_
    refine lv_aload_n hx hb dX7_play_244 rfl (lv_at hl 7 rfl) ?_
    refine m_get hx hb hts inX7 hown hK hP (ci := 7) rfl (k := 0) (by decide) rfl 18 (by decide) (hts (.fieldLink RX7 61 "RollbackPairModel" "work" "[D") (by decide +kernel)) rfl dX7_play_245 ?_
    refine lv_iload_n hx hb dX7_play_248 rfl (lv_at hl 8 rfl) ?_
    refine m_dald hx hb hK hP (k := 17) (by decide) (f := S.2.2.2) rfl (i := 600 * q + f) (by omega) (by decide) dX7_play_249 ?_
    refine lv_dload hx hb dX7_play_250 (lv_at hl 1 rfl) ?_
    refine lv_dload hx hb dX7_play_252 (lv_at hl 1 rfl) ?_
    refine lv_dmul hx hb dX7_play_254 (wk_2 (wk_1 hs)).n ?_
    refine lv_dload hx hb dX7_play_255 (lv_at hl 0 rfl) ?_
    refine lv_dload hx hb dX7_play_257 (lv_at hl 0 rfl) ?_
    refine lv_dmul hx hb dX7_play_259 (wk_2 (wk_1 ht)).n ?_
    refine lv_dadd hx hb dX7_play_260 (wk_3 (wk_2 (wk_1 hs)) (wk_2 (wk_1 ht))).n ?_
    refine lv_dadd hx hb dX7_play_261 (wk_4 (by omega) hB.2.2.2.2 (wk_3 (wk_2 (wk_1 hs)) (wk_2 (wk_1 ht)))).n ?_
    refine m_dast hx hb hK hP hJ hS (k := 17) (by decide) (f := S.2.2.2) rfl (i := 600 * q + f + 1) (by omega) (by decide) dX7_play_262 (fun H locs hP hS => ?_)
    rw [mm_up18] at hP
    exact r_v hx hb hr hlocks hK hP hS dX7_play_263 ⟨_, _, rfl⟩
  · refine lv_iconst (v := nI 0) hx hb dX7_play_118 (by decide) ?_
    refine lv_istore (lv' := [(10, .int (nI 0)), (9, .float ((mv (S.2.1 15 (600 * q + f)) (S.2.1 16 (600 * q + f)) (mUse S q 1 f)).2)), (8, .float ((mv (S.2.1 15 (600 * q + f)) (S.2.1 16 (600 * q + f)) (mUse S q 1 f)).1)), (7, .float ((mv (S.2.1 13 (600 * q + f)) (S.2.1 14 (600 * q + f)) (mUse S q 0 f)).2)), (6, .float ((mv (S.2.1 13 (600 * q + f)) (S.2.1 14 (600 * q + f)) (mUse S q 0 f)).1)), (5, .int (mUse S q 1 f)), (4, .int (mUse S q 0 f)), (3, .int (nI (600 * q + f))), (0, .ref (ad 0)), (1, .int (nI q)), (2, .int (nI f))]) hx hb dX7_play_119 hl (by decide) rfl (fun ls hl => ?_)
    refine lv_fload hx hb dX7_play_121 (lv_at hl 2 rfl) ?_
    refine lv_fload hx hb dX7_play_123 (lv_at hl 4 rfl) ?_
    refine lv_fsub hx hb dX7_play_125 (pl_1 hA1.1 hB1.1).n ?_
    refine lv_fconst1 hx hb dX7_play_126 ?_
    refine lv_fcmp hx hb dX7_play_127 ?_
    refine lv_if_ge (tgt := 170) hx hb dX7_play_128 (by decide) (fun c1 => ?_) (fun c1 => ?_)
    · exact J () ls (by obtain ⟨q1, q2, q3, q4, q5⟩ := st_no (fun z => z c1); rw [q1, q2, q3, q4, q5]; exact lv_sub hl [4, 3, 2, 1, 0, 8, 7] rfl)
    · refine lv_fload hx hb dX7_play_131 (lv_at hl 3 rfl) ?_
      refine lv_fstore (lv' := [(11, .float ((mv (S.2.1 13 (600 * q + f)) (S.2.1 14 (600 * q + f)) (mUse S q 0 f)).2)), (10, .int (nI 0)), (9, .float ((mv (S.2.1 15 (600 * q + f)) (S.2.1 16 (600 * q + f)) (mUse S q 1 f)).2)), (8, .float ((mv (S.2.1 15 (600 * q + f)) (S.2.1 16 (600 * q + f)) (mUse S q 1 f)).1)), (7, .float ((mv (S.2.1 13 (600 * q + f)) (S.2.1 14 (600 * q + f)) (mUse S q 0 f)).2)), (6, .float ((mv (S.2.1 13 (600 * q + f)) (S.2.1 14 (600 * q + f)) (mUse S q 0 f)).1)), (5, .int (mUse S q 1 f)), (4, .int (mUse S q 0 f)), (3, .int (nI (600 * q + f))), (0, .ref (ad 0)), (1, .int (nI q)), (2, .int (nI f))]) hx hb dX7_play_133 hl (by decide) rfl (fun ls hl => ?_)
      refine lv_fload hx hb dX7_play_135 (lv_at hl 2 rfl) ?_
      refine lv_fstore (lv' := [(7, .float ((mv (S.2.1 15 (600 * q + f)) (S.2.1 16 (600 * q + f)) (mUse S q 1 f)).2)), (11, .float ((mv (S.2.1 13 (600 * q + f)) (S.2.1 14 (600 * q + f)) (mUse S q 0 f)).2)), (10, .int (nI 0)), (9, .float ((mv (S.2.1 15 (600 * q + f)) (S.2.1 16 (600 * q + f)) (mUse S q 1 f)).2)), (8, .float ((mv (S.2.1 15 (600 * q + f)) (S.2.1 16 (600 * q + f)) (mUse S q 1 f)).1)), (6, .float ((mv (S.2.1 13 (600 * q + f)) (S.2.1 14 (600 * q + f)) (mUse S q 0 f)).1)), (5, .int (mUse S q 1 f)), (4, .int (mUse S q 0 f)), (3, .int (nI (600 * q + f))), (0, .ref (ad 0)), (1, .int (nI q)), (2, .int (nI f))]) hx hb dX7_play_137 hl (by decide) rfl (fun ls hl => ?_)
      refine lv_fload hx hb dX7_play_139 (lv_at hl 1 rfl) ?_
      refine lv_fstore (lv' := [(9, .float ((mv (S.2.1 13 (600 * q + f)) (S.2.1 14 (600 * q + f)) (mUse S q 0 f)).2)), (7, .float ((mv (S.2.1 15 (600 * q + f)) (S.2.1 16 (600 * q + f)) (mUse S q 1 f)).2)), (11, .float ((mv (S.2.1 13 (600 * q + f)) (S.2.1 14 (600 * q + f)) (mUse S q 0 f)).2)), (10, .int (nI 0)), (8, .float ((mv (S.2.1 15 (600 * q + f)) (S.2.1 16 (600 * q + f)) (mUse S q 1 f)).1)), (6, .float ((mv (S.2.1 13 (600 * q + f)) (S.2.1 14 (600 * q + f)) (mUse S q 0 f)).1)), (5, .int (mUse S q 1 f)), (4, .int (mUse S q 0 f)), (3, .int (nI (600 * q + f))), (0, .ref (ad 0)), (1, .int (nI q)), (2, .int (nI f))]) hx hb dX7_play_141 hl (by decide) rfl (fun ls hl => ?_)
      refine lv_fload hx hb dX7_play_143 (lv_at hl 5 rfl) ?_
      refine lv_fload hx hb dX7_play_145 (lv_at hl 4 rfl) ?_
      refine lv_fadd hx hb dX7_play_147 (pl_2 hA1.1 hB1.1).n ?_
      refine lv_ldcf hx hb hown (hts (.constantFloat RX7 102 (1056964608)) (by decide +kernel)) dX7_play_148 ?_
      refine lv_fmul hx hb dX7_play_150 (pl_3 (pl_2 hA1.1 hB1.1)).n ?_
      refine lv_fstore (lv' := [(12, .float (FP.fmul (FP.fadd ((mv (S.2.1 13 (600 * q + f)) (S.2.1 14 (600 * q + f)) (mUse S q 0 f)).1) ((mv (S.2.1 15 (600 * q + f)) (S.2.1 16 (600 * q + f)) (mUse S q 1 f)).1)) 1056964608)), (9, .float ((mv (S.2.1 13 (600 * q + f)) (S.2.1 14 (600 * q + f)) (mUse S q 0 f)).2)), (7, .float ((mv (S.2.1 15 (600 * q + f)) (S.2.1 16 (600 * q + f)) (mUse S q 1 f)).2)), (11, .float ((mv (S.2.1 13 (600 * q + f)) (S.2.1 14 (600 * q + f)) (mUse S q 0 f)).2)), (10, .int (nI 0)), (8, .float ((mv (S.2.1 15 (600 * q + f)) (S.2.1 16 (600 * q + f)) (mUse S q 1 f)).1)), (6, .float ((mv (S.2.1 13 (600 * q + f)) (S.2.1 14 (600 * q + f)) (mUse S q 0 f)).1)), (5, .int (mUse S q 1 f)), (4, .int (mUse S q 0 f)), (3, .int (nI (600 * q + f))), (0, .ref (ad 0)), (1, .int (nI q)), (2, .int (nI f))]) hx hb dX7_play_151 hl (by decide) rfl (fun ls hl => ?_)
      refine lv_fload hx hb dX7_play_153 (lv_at hl 0 rfl) ?_
      refine lv_ldcf hx hb hown (hts (.constantFloat RX7 102 (1056964608)) (by decide +kernel)) dX7_play_155 ?_
      refine lv_fsub hx hb dX7_play_157 (pl_4 (pl_3 (pl_2 hA1.1 hB1.1))).n ?_
      refine lv_fstore (lv' := [(6, .float (FP.fsub (FP.fmul (FP.fadd ((mv (S.2.1 13 (600 * q + f)) (S.2.1 14 (600 * q + f)) (mUse S q 0 f)).1) ((mv (S.2.1 15 (600 * q + f)) (S.2.1 16 (600 * q + f)) (mUse S q 1 f)).1)) 1056964608) 1056964608)), (12, .float (FP.fmul (FP.fadd ((mv (S.2.1 13 (600 * q + f)) (S.2.1 14 (600 * q + f)) (mUse S q 0 f)).1) ((mv (S.2.1 15 (600 * q + f)) (S.2.1 16 (600 * q + f)) (mUse S q 1 f)).1)) 1056964608)), (9, .float ((mv (S.2.1 13 (600 * q + f)) (S.2.1 14 (600 * q + f)) (mUse S q 0 f)).2)), (7, .float ((mv (S.2.1 15 (600 * q + f)) (S.2.1 16 (600 * q + f)) (mUse S q 1 f)).2)), (11, .float ((mv (S.2.1 13 (600 * q + f)) (S.2.1 14 (600 * q + f)) (mUse S q 0 f)).2)), (10, .int (nI 0)), (8, .float ((mv (S.2.1 15 (600 * q + f)) (S.2.1 16 (600 * q + f)) (mUse S q 1 f)).1)), (5, .int (mUse S q 1 f)), (4, .int (mUse S q 0 f)), (3, .int (nI (600 * q + f))), (0, .ref (ad 0)), (1, .int (nI q)), (2, .int (nI f))]) hx hb dX7_play_158 hl (by decide) rfl (fun ls hl => ?_)
      refine lv_fload hx hb dX7_play_160 (lv_at hl 1 rfl) ?_
      refine lv_ldcf hx hb hown (hts (.constantFloat RX7 102 (1056964608)) (by decide +kernel)) dX7_play_162 ?_
      refine lv_fadd hx hb dX7_play_164 (pl_5 (pl_3 (pl_2 hA1.1 hB1.1))).n ?_
      refine lv_fstore (lv' := [(8, .float (FP.fadd (FP.fmul (FP.fadd ((mv (S.2.1 13 (600 * q + f)) (S.2.1 14 (600 * q + f)) (mUse S q 0 f)).1) ((mv (S.2.1 15 (600 * q + f)) (S.2.1 16 (600 * q + f)) (mUse S q 1 f)).1)) 1056964608) 1056964608)), (6, .float (FP.fsub (FP.fmul (FP.fadd ((mv (S.2.1 13 (600 * q + f)) (S.2.1 14 (600 * q + f)) (mUse S q 0 f)).1) ((mv (S.2.1 15 (600 * q + f)) (S.2.1 16 (600 * q + f)) (mUse S q 1 f)).1)) 1056964608) 1056964608)), (12, .float (FP.fmul (FP.fadd ((mv (S.2.1 13 (600 * q + f)) (S.2.1 14 (600 * q + f)) (mUse S q 0 f)).1) ((mv (S.2.1 15 (600 * q + f)) (S.2.1 16 (600 * q + f)) (mUse S q 1 f)).1)) 1056964608)), (9, .float ((mv (S.2.1 13 (600 * q + f)) (S.2.1 14 (600 * q + f)) (mUse S q 0 f)).2)), (7, .float ((mv (S.2.1 15 (600 * q + f)) (S.2.1 16 (600 * q + f)) (mUse S q 1 f)).2)), (11, .float ((mv (S.2.1 13 (600 * q + f)) (S.2.1 14 (600 * q + f)) (mUse S q 0 f)).2)), (10, .int (nI 0)), (5, .int (mUse S q 1 f)), (4, .int (mUse S q 0 f)), (3, .int (nI (600 * q + f))), (0, .ref (ad 0)), (1, .int (nI q)), (2, .int (nI f))]) hx hb dX7_play_165 hl (by decide) rfl (fun ls hl => ?_)
      refine lv_iconst (v := nI 1) hx hb dX7_play_167 (by decide) ?_
      refine lv_istore (lv' := [(10, .int (nI 1)), (8, .float (FP.fadd (FP.fmul (FP.fadd ((mv (S.2.1 13 (600 * q + f)) (S.2.1 14 (600 * q + f)) (mUse S q 0 f)).1) ((mv (S.2.1 15 (600 * q + f)) (S.2.1 16 (600 * q + f)) (mUse S q 1 f)).1)) 1056964608) 1056964608)), (6, .float (FP.fsub (FP.fmul (FP.fadd ((mv (S.2.1 13 (600 * q + f)) (S.2.1 14 (600 * q + f)) (mUse S q 0 f)).1) ((mv (S.2.1 15 (600 * q + f)) (S.2.1 16 (600 * q + f)) (mUse S q 1 f)).1)) 1056964608) 1056964608)), (12, .float (FP.fmul (FP.fadd ((mv (S.2.1 13 (600 * q + f)) (S.2.1 14 (600 * q + f)) (mUse S q 0 f)).1) ((mv (S.2.1 15 (600 * q + f)) (S.2.1 16 (600 * q + f)) (mUse S q 1 f)).1)) 1056964608)), (9, .float ((mv (S.2.1 13 (600 * q + f)) (S.2.1 14 (600 * q + f)) (mUse S q 0 f)).2)), (7, .float ((mv (S.2.1 15 (600 * q + f)) (S.2.1 16 (600 * q + f)) (mUse S q 1 f)).2)), (11, .float ((mv (S.2.1 13 (600 * q + f)) (S.2.1 14 (600 * q + f)) (mUse S q 0 f)).2)), (5, .int (mUse S q 1 f)), (4, .int (mUse S q 0 f)), (3, .int (nI (600 * q + f))), (0, .ref (ad 0)), (1, .int (nI q)), (2, .int (nI f))]) hx hb dX7_play_168 hl (by decide) rfl (fun ls hl => ?_)
      exact J () ls (by obtain ⟨q1, q2, q3, q4, q5⟩ := st_hit c1; rw [q1, q2, q3, q4, q5]; exact lv_sub hl [2, 5, 1, 4, 0, 10, 9] rfl)
end
section
section RLP
variable {p : Program} {l : Launch} {e : Env} {R : Room} {s : State} {m : MethodId} {args : Array Value} {below : List Frame} {meth : Method} {c : Code} {cells slots : Nat} {Q : State → Prop}
/-- a loop with its head at pc2: k falls -/
theorem lpW {α : Type} (C : Nat → α → Array Slot → Heap → List Loc → Prop) (pc2 : Nat) (sf : α → List Value)
    (step : ∀ (k : Nat) (a : α) (ls : Array Slot) (H : Heap) (locs : List Loc), C k a ls H locs → (∀ k' : Nat, k' < k → ∀ (a' : α) (ls' : Array Slot) (H' : Heap) (locs' : List Loc), C k' a' ls' H' locs' → W p l e R s m args below meth c H' locs' cells slots Q (F0 m pc2 ls' (sf a'))) → W p l e R s m args below meth c H locs cells slots Q (F0 m pc2 ls (sf a))) :
    ∀ (k : Nat) (a : α) (ls : Array Slot) (H : Heap) (locs : List Loc), C k a ls H locs → W p l e R s m args below meth c H locs cells slots Q (F0 m pc2 ls (sf a)) := by
  intro k
  induction k using Nat.strongRecOn with
  | _ k ih => exact fun a ls H locs hC => step k a ls H locs hC (fun k' hk a' ls' H' locs' h => ih k' hk a' ls' H' locs' h)
end RLP
/-- the first frame from fr on, within n frames, for which peer q used another input of the other one than now -/
def mFw (S : SS) (q : Nat) : Nat → Nat → Nat
  | 0, fr => fr
  | n + 1, fr => if S.1 11 (1200 * q + 600 * (1 - q) + fr) = mUse S q (1 - q) fr then mFw S q n (fr + 1) else fr
def mPlays (S : SS) (q : Nat) : Nat → Nat → SS
  | 0, _ => S
  | n + 1, f => mPlays (mPlay S q f) q n (f + 1)
theorem mFw_ge (S : SS) (q : Nat) : ∀ n fr, fr ≤ mFw S q n fr ∧ mFw S q n fr ≤ fr + n
  | 0, fr => ⟨Nat.le_refl _, Nat.le_refl _⟩
  | n + 1, fr => by
    unfold mFw
    split
    · have := mFw_ge S q n (fr + 1); omega
    · omega
theorem mFw_s (S : SS) (q n fr : Nat) : mFw S q (n + 1) fr = if S.1 11 (1200 * q + 600 * (1 - q) + fr) = mUse S q (1 - q) fr then mFw S q n (fr + 1) else fr := rfl
abbrev pA (S : SS) (q f : Nat) : UInt32 × UInt32 := mv (S.2.1 13 (600 * q + f)) (S.2.1 14 (600 * q + f)) (mUse S q 0 f)
abbrev pB (S : SS) (q f : Nat) : UInt32 × UInt32 := mv (S.2.1 15 (600 * q + f)) (S.2.1 16 (600 * q + f)) (mUse S q 1 f)
theorem mPlay_st (S : SS) (q f : Nat) : (mPlay S q f).2.1 13 (600 * q + f + 1) = st_x (pA S q f) (pB S q f) ∧ (mPlay S q f).2.1 14 (600 * q + f + 1) = st_s (pA S q f) (pB S q f) ∧ (mPlay S q f).2.1 15 (600 * q + f + 1) = st_y (pA S q f) (pB S q f) ∧ (mPlay S q f).2.1 16 (600 * q + f + 1) = st_t (pA S q f) (pB S q f) ∧ (mPlay S q f).1 17 (600 * q + f + 1) = S.1 17 (600 * q + f) + st_m (pA S q f) (pB S q f) ∧ (mPlay S q f).2.2.2 (600 * q + f + 1) = st_w (pA S q f) (pB S q f) (S.2.2.2 (600 * q + f)) :=
  ⟨if_pos rfl, if_pos rfl, if_pos rfl, if_pos rfl, if_pos rfl, if_pos rfl⟩
theorem mPlay_Bd {S : SS} {q f : Nat} (hf : f ≤ 1000000) (h : BdAt S q f) : BdAt (mPlay S q f) q (f + 1) := by
  have h1 := st_b hf h (mUse S q 0 f) (mUse S q 1 f)
  obtain ⟨e1, e2, e3, e4, -, e6⟩ := mPlay_st S q f
  unfold BdAt
  rw [show 600 * q + (f + 1) = 600 * q + f + 1 by omega, e1, e2, e3, e4, e6]
  exact h1
set_option maxHeartbeats 4000000 in
set_option maxRecDepth 100000 in
/-- again(q, from) -/
theorem c_again (l : Launch) (D : va_G) (cs : Nat → ClassId) (ad : Nat → Nat) (hJ : Inj ad 26) (d w : Int32) (S : SS) (np ns : UInt32) (q fr0 a N0 N1 : Nat) (hq : q < 2) (hat : S.1 2 q = nI a) (ha : a ≤ 598) (hfr : fr0 ≤ a) (h0 : S.1 12 (2 * q + 0) = nI N0) (hN0 : N0 ≤ 600) (h1 : S.1 12 (2 * q + 1) = nI N1) (hN1 : N1 ≤ 600) (hB : ∀ f, f ≤ a → BdAt S q f) : CTi l yX7_again wsX7_again ({ frames := 2, cells := 0, slots := 0, locals := 62 }) D cs ad 26 (mm ad cs d w S np ns) [.ref (ad 0), .int (nI q), .int (nI fr0)] (fun r M2 => r = nI (a - mFw S q (a - fr0) fr0) ∧ ∃ np2 ns2, M2 = mm ad cs d w (mPlays S q (a - mFw S q (a - fr0) fr0) (mFw S q (a - fr0) fr0)) np2 ns2) := by
  refine Met.ofW (cc := cX7_again) (maxL := 7) (ret := (some .int)) (by decide) rfl ?_
  intro p e s m args below meth c s₁ B hml hv
  obtain ⟨rfl, hP, hK⟩ := hv
  have hx := B.exec
  have hb := B.bytes
  have hr := B.returns
  have hts := atoms_spec (ws := wsX7_again) B.pre
  have hown : s.vm.findClass RX7 = some m.cls := findClass_of_methodNamed B.named
  have hlocks := B.notSynchronized
  have hS : va_S (Ad ad 26) s.heap s.heap [] := va_S.rf
  have hl := lv_entry ([.ref (ad 0), .int (nI q), .int (nI fr0)]) (n := 7) (Nat.le_of_ble_eq_true rfl)
  rw [lg_entry_eq]
  generalize (lg_sl ([.ref (ad 0), .int (nI q), .int (nI fr0)]) ++ List.replicate (7 - (lg_sl ([.ref (ad 0), .int (nI q), .int (nI fr0)])).length) Slot.unset).toArray = ls at hl ⊢
  have hl : lv_has ls 7 [(0, .ref (ad 0)), (1, .int (nI q)), (2, .int (nI fr0))] := hl
  have inX7 : ∀ w ∈ u_ws RX7 TX7 29, w ∈ wsX7_again := by decide +kernel
  obtain ⟨N2, h2, hN2⟩ : ∃ N2, S.1 12 (2 * q + (1 - q)) = nI N2 ∧ N2 ≤ 600 := by
    rcases (show q = 0 ∨ q = 1 by omega) with rfl | rfl
    · exact ⟨N1, h1, hN1⟩
    · exact ⟨N0, h0, hN0⟩
  generalize hG : mFw S q (a - fr0) fr0 = G
  refine lv_iconst (v := nI 1) hx hb dX7_again_0 (by decide) ?_
  refine lv_iload_n hx hb dX7_again_1 rfl (lv_at hl 1 rfl) ?_
  refine n_sub hx hb (by omega) dX7_again_2 ?_
  refine lv_istore_n (lv' := [(3, .int (nI (1 - q))), (0, .ref (ad 0)), (1, .int (nI q)), (2, .int (nI fr0))]) hx hb dX7_again_3 rfl hl (by decide) rfl (fun ls hl => ?_)
  refine lv_iload_n hx hb dX7_again_4 rfl (lv_at hl 3 rfl) ?_
  refine lv_istore (lv' := [(4, .int (nI fr0)), (3, .int (nI (1 - q))), (0, .ref (ad 0)), (1, .int (nI q)), (2, .int (nI fr0))]) hx hb dX7_again_5 hl (by decide) rfl (fun ls hl => ?_)
  refine lpW (fun k (fr : Nat) ls H locs => fr ≤ a ∧ k = a - fr ∧ mFw S q (a - fr) fr = G ∧ lv_has ls 7 [(4, .int (nI fr)), (3, .int (nI (1 - q))), (0, .ref (ad 0)), (1, .int (nI q))] ∧ va_P D vwCl (sg ad 26 (mm ad cs d w S np ns)) H ∧ va_S (Ad ad 26) s.heap H locs) 7 (fun _ => []) (fun k fr ls H locs hC ih => ?_) (a - fr0) fr0 ls _ _ ⟨hfr, rfl, hG, lv_sub hl [0, 1, 2, 3] rfl, hP, hS⟩
  obtain ⟨hfa, hk, hGf, hl, hP, hS⟩ := hC
  refine lv_iload hx hb dX7_again_7 (lv_at hl 0 rfl) ?_
  refine lv_aload_n hx hb dX7_again_9 rfl (lv_at hl 2 rfl) ?_
  refine m_get hx hb hts inX7 hown hK hP (ci := 7) rfl (k := 0) (by decide) rfl 2 (by decide) (hts (.fieldLink RX7 7 "RollbackPairModel" "at" "[I") (by decide +kernel)) rfl dX7_again_10 ?_
  refine lv_iload_n hx hb dX7_again_13 rfl (lv_at hl 3 rfl) ?_
  refine m_iald hx hb hK hP (k := 1) (by decide) (f := (S.1 2)) rfl (i := q) (by omega) (by decide) dX7_again_14 ?_
  refine n_val hat ?_
  refine n_cmp_ge (tgt := 54) hx hb dX7_again_15 (by decide) (by omega) (by omega) (fun c1 => ?_) (fun c1 => ?_)
  · have hfG : fr = G := by rw [← hGf]; rw [show a - fr = 0 by omega]; rfl
    subst hfG
    refine lv_aload_n hx hb dX7_again_54 rfl (lv_at hl 2 rfl) ?_
    refine m_get hx hb hts inX7 hown hK hP (ci := 7) rfl (k := 0) (by decide) rfl 2 (by decide) (hts (.fieldLink RX7 7 "RollbackPairModel" "at" "[I") (by decide +kernel)) rfl dX7_again_55 ?_
    refine lv_iload_n hx hb dX7_again_58 rfl (lv_at hl 3 rfl) ?_
    refine m_iald hx hb hK hP (k := 1) (by decide) (f := (S.1 2)) rfl (i := q) (by omega) (by decide) dX7_again_59 ?_
    refine n_val hat ?_
    refine lv_iload hx hb dX7_again_60 (lv_at hl 0 rfl) ?_
    refine n_sub hx hb hfa dX7_again_62 ?_
    refine lv_istore (lv' := [(5, .int (nI (a - fr))), (4, .int (nI fr)), (3, .int (nI (1 - q))), (0, .ref (ad 0)), (1, .int (nI q))]) hx hb dX7_again_63 hl (by decide) rfl (fun ls hl => ?_)
    refine lv_iload hx hb dX7_again_65 (lv_at hl 1 rfl) ?_
    refine lv_istore (lv' := [(6, .int (nI fr)), (5, .int (nI (a - fr))), (4, .int (nI fr)), (3, .int (nI (1 - q))), (0, .ref (ad 0)), (1, .int (nI q))]) hx hb dX7_again_67 hl (by decide) rfl (fun ls hl => ?_)
    refine lpW (fun k (x : Nat × SS × UInt32 × UInt32) ls H locs => x.1 ≤ a ∧ k = a - x.1 ∧ mPlays x.2.1 q (a - x.1) x.1 = mPlays S q (a - fr) fr ∧ x.2.1.1 2 q = nI a ∧ x.2.1.1 12 (2 * q + 0) = nI N0 ∧ x.2.1.1 12 (2 * q + 1) = nI N1 ∧ BdAt x.2.1 q x.1 ∧ lv_has ls 7 [(6, .int (nI x.1)), (5, .int (nI (a - fr))), (0, .ref (ad 0)), (1, .int (nI q))] ∧ va_P D vwCl (sg ad 26 (mm ad cs d w x.2.1 x.2.2.1 x.2.2.2)) H ∧ va_S (Ad ad 26) s.heap H locs) 69 (fun _ => []) (fun k x ls H locs hC ih => ?_) (a - fr) (fr, S, np, ns) ls _ _ ⟨hfa, rfl, rfl, hat, h0, h1, hB fr hfa, lv_sub hl [0, 1, 4, 5] rfl, hP, hS⟩
    obtain ⟨f, S2, np2, ns2⟩ := x
    obtain ⟨hf2, hk2, hE, hat2, g0, g1, hB2, hl, hP, hS⟩ := hC
    dsimp only at hf2 hk2 hE hat2 g0 g1 hB2 hl hP hS ih ⊢
    refine lv_iload hx hb dX7_again_69 (lv_at hl 0 rfl) ?_
    refine lv_aload_n hx hb dX7_again_71 rfl (lv_at hl 2 rfl) ?_
    refine m_get hx hb hts inX7 hown hK hP (ci := 7) rfl (k := 0) (by decide) rfl 2 (by decide) (hts (.fieldLink RX7 7 "RollbackPairModel" "at" "[I") (by decide +kernel)) rfl dX7_again_72 ?_
    refine lv_iload_n hx hb dX7_again_75 rfl (lv_at hl 3 rfl) ?_
    refine m_iald hx hb hK hP (k := 1) (by decide) (f := (S2.1 2)) rfl (i := q) (by omega) (by decide) dX7_again_76 ?_
    refine n_val hat2 ?_
    refine n_cmp_ge (tgt := 93) hx hb dX7_again_77 (by decide) (by omega) (by omega) (fun c3 => ?_) (fun c3 => ?_)
    · refine lv_iload hx hb dX7_again_93 (lv_at hl 1 rfl) ?_
      refine lv_if_le (tgt := 103) hx hb dX7_again_95 (by decide) (fun c4 => ?_) (fun c4 => ?_)
      · refine lv_iconst (v := nI 0) hx hb dX7_again_103 (by decide) ?_
        have hE2 : mPlays S q (a - fr) fr = S2 := by rw [← hE, show a - f = 0 by omega]; rfl
        have hz : a - fr = 0 := Classical.byContradiction fun z => nI_nle (by omega) (by omega) c4
        exact r_i hx hb hr hlocks hK hP hS dX7_again_104 ⟨by rw [hz], np2, ns2, by rw [hE2]⟩
      · refine lv_iload hx hb dX7_again_98 (lv_at hl 1 rfl) ?_
        refine lv_goto (tgt := 104) hx hb dX7_again_100 (by decide) ?_
        have hE2 : mPlays S q (a - fr) fr = S2 := by rw [← hE, show a - f = 0 by omega]; rfl
        exact r_i hx hb hr hlocks hK hP hS dX7_again_104 ⟨rfl, np2, ns2, by rw [hE2]⟩
    · refine lv_aload_n hx hb dX7_again_80 rfl (lv_at hl 2 rfl) ?_
      refine lv_iload_n hx hb dX7_again_81 rfl (lv_at hl 3 rfl) ?_
      refine lv_iload hx hb dX7_again_82 (lv_at hl 0 rfl) ?_
      refine k_Vv (As := [.int (nI q), .int (nI f)]) (rest := []) (k := 0) (ci := 7) ⟨hx, hb, hml, hown, hts⟩ hK hP hS Ad_le (c_play l D cs ad hJ d w S2 np2 ns2 q f N0 N1 hq (by omega) g0 hN0 g1 hN1 hB2) (cwV 2 hts gX7_again_X7_play rfl rfl rfl (by decide +kernel) ⟨Nat.le_of_ble_eq_true rfl, Nat.le_of_ble_eq_true rfl⟩) (by decide) rfl rfl rfl rfl hl.1 (Nat.le_of_ble_eq_true rfl) dX7_again_84 ⟨Nat.le_of_ble_eq_true rfl, Nat.le_of_ble_eq_true rfl⟩ (fun M1 H locs hpo hP hS _ _ => ?_)
      obtain ⟨np3, ns3, rfl⟩ := hpo
      refine lv_iinc (v := nI (f + 1)) (lv' := [(6, .int (nI (f + 1))), (5, .int (nI (a - fr))), (0, .ref (ad 0)), (1, .int (nI q))]) hx hb dX7_again_87 hl (k := 0) rfl (nI_1 _) (by decide) rfl (fun ls hl => ?_)
      refine lv_goto (tgt := 69) hx hb dX7_again_90 (by decide) ?_
      exact ih (a - (f + 1)) (by omega) (f + 1, mPlay S2 q f, np3, ns3) ls H locs ⟨by omega, rfl, by rw [← hE, show a - f = (a - (f + 1)) + 1 by omega]; rfl, hat2, g0, g1, mPlay_Bd (by omega) hB2, lv_sub hl [0, 1, 2, 3] rfl, hP, hS⟩
  · refine lv_aload_n hx hb dX7_again_18 rfl (lv_at hl 2 rfl) ?_
    refine m_get hx hb hts inX7 hown hK hP (ci := 7) rfl (k := 0) (by decide) rfl 11 (by decide) (hts (.fieldLink RX7 40 "RollbackPairModel" "uses" "[I") (by decide +kernel)) rfl dX7_again_19 ?_
    refine lv_sipush (v := nI 1200) hx hb dX7_again_22 (by decide) ?_
    refine lv_iload_n hx hb dX7_again_25 rfl (lv_at hl 3 rfl) ?_
    refine n_mul hx hb dX7_again_26 ?_
    refine lv_sipush (v := nI 600) hx hb dX7_again_27 (by decide) ?_
    refine lv_iload_n hx hb dX7_again_30 rfl (lv_at hl 1 rfl) ?_
    refine n_mul hx hb dX7_again_31 ?_
    refine n_add hx hb dX7_again_32 ?_
    refine lv_iload hx hb dX7_again_33 (lv_at hl 0 rfl) ?_
    refine n_add hx hb dX7_again_35 ?_
    refine m_iald hx hb hK hP (k := 10) (by decide) (f := (S.1 11)) rfl (i := 1200 * q + (600 * (1 - q)) + fr) (by omega) (by decide) dX7_again_36 ?_
    refine lv_aload_n hx hb dX7_again_37 rfl (lv_at hl 2 rfl) ?_
    refine lv_iload_n hx hb dX7_again_38 rfl (lv_at hl 3 rfl) ?_
    refine lv_iload_n hx hb dX7_again_39 rfl (lv_at hl 1 rfl) ?_
    refine lv_iload hx hb dX7_again_40 (lv_at hl 0 rfl) ?_
    refine k_Vi (As := [.int (nI q), .int (nI (1 - q)), .int (nI fr)]) (rest := [.int ((S.1 11) (1200 * q + (600 * (1 - q)) + fr))]) (k := 0) (ci := 7) ⟨hx, hb, hml, hown, hts⟩ hK hP hS Ad_le (c_useOf l D cs ad hJ d w S np ns q (1 - q) fr N2 hq (by omega) (by omega) h2 hN2) (cwV 3 hts gX7_again_X7_useOf rfl rfl rfl (by decide +kernel) ⟨Nat.le_of_ble_eq_true rfl, Nat.le_of_ble_eq_true rfl⟩) (by decide) rfl rfl rfl rfl hl.1 (Nat.le_of_ble_eq_true rfl) dX7_again_42 ⟨Nat.le_of_ble_eq_true rfl, Nat.le_of_ble_eq_true rfl⟩ (fun r_2 M1 H locs hpo hP hS _ _ => ?_)
    obtain ⟨rfl, rfl⟩ := hpo
    refine lv_icmp_ne (tgt := 54) hx hb dX7_again_45 (by decide) (fun c2 => ?_) (fun c2 => ?_)
    · have hfG : fr = G := by rw [← hGf]; rw [show a - fr = (a - (fr + 1)) + 1 by omega]; rw [mFw_s, if_neg c2]
      subst hfG
      refine lv_aload_n hx hb dX7_again_54 rfl (lv_at hl 2 rfl) ?_
      refine m_get hx hb hts inX7 hown hK hP (ci := 7) rfl (k := 0) (by decide) rfl 2 (by decide) (hts (.fieldLink RX7 7 "RollbackPairModel" "at" "[I") (by decide +kernel)) rfl dX7_again_55 ?_
      refine lv_iload_n hx hb dX7_again_58 rfl (lv_at hl 3 rfl) ?_
      refine m_iald hx hb hK hP (k := 1) (by decide) (f := (S.1 2)) rfl (i := q) (by omega) (by decide) dX7_again_59 ?_
      refine n_val hat ?_
      refine lv_iload hx hb dX7_again_60 (lv_at hl 0 rfl) ?_
      refine n_sub hx hb hfa dX7_again_62 ?_
      refine lv_istore (lv' := [(5, .int (nI (a - fr))), (4, .int (nI fr)), (3, .int (nI (1 - q))), (0, .ref (ad 0)), (1, .int (nI q))]) hx hb dX7_again_63 hl (by decide) rfl (fun ls hl => ?_)
      refine lv_iload hx hb dX7_again_65 (lv_at hl 1 rfl) ?_
      refine lv_istore (lv' := [(6, .int (nI fr)), (5, .int (nI (a - fr))), (4, .int (nI fr)), (3, .int (nI (1 - q))), (0, .ref (ad 0)), (1, .int (nI q))]) hx hb dX7_again_67 hl (by decide) rfl (fun ls hl => ?_)
      refine lpW (fun k (x : Nat × SS × UInt32 × UInt32) ls H locs => x.1 ≤ a ∧ k = a - x.1 ∧ mPlays x.2.1 q (a - x.1) x.1 = mPlays S q (a - fr) fr ∧ x.2.1.1 2 q = nI a ∧ x.2.1.1 12 (2 * q + 0) = nI N0 ∧ x.2.1.1 12 (2 * q + 1) = nI N1 ∧ BdAt x.2.1 q x.1 ∧ lv_has ls 7 [(6, .int (nI x.1)), (5, .int (nI (a - fr))), (0, .ref (ad 0)), (1, .int (nI q))] ∧ va_P D vwCl (sg ad 26 (mm ad cs d w x.2.1 x.2.2.1 x.2.2.2)) H ∧ va_S (Ad ad 26) s.heap H locs) 69 (fun _ => []) (fun k x ls H locs hC ih => ?_) (a - fr) (fr, S, np, ns) ls _ _ ⟨hfa, rfl, rfl, hat, h0, h1, hB fr hfa, lv_sub hl [0, 1, 4, 5] rfl, hP, hS⟩
      obtain ⟨f, S2, np2, ns2⟩ := x
      obtain ⟨hf2, hk2, hE, hat2, g0, g1, hB2, hl, hP, hS⟩ := hC
      dsimp only at hf2 hk2 hE hat2 g0 g1 hB2 hl hP hS ih ⊢
      refine lv_iload hx hb dX7_again_69 (lv_at hl 0 rfl) ?_
      refine lv_aload_n hx hb dX7_again_71 rfl (lv_at hl 2 rfl) ?_
      refine m_get hx hb hts inX7 hown hK hP (ci := 7) rfl (k := 0) (by decide) rfl 2 (by decide) (hts (.fieldLink RX7 7 "RollbackPairModel" "at" "[I") (by decide +kernel)) rfl dX7_again_72 ?_
      refine lv_iload_n hx hb dX7_again_75 rfl (lv_at hl 3 rfl) ?_
      refine m_iald hx hb hK hP (k := 1) (by decide) (f := (S2.1 2)) rfl (i := q) (by omega) (by decide) dX7_again_76 ?_
      refine n_val hat2 ?_
      refine n_cmp_ge (tgt := 93) hx hb dX7_again_77 (by decide) (by omega) (by omega) (fun c3 => ?_) (fun c3 => ?_)
      · refine lv_iload hx hb dX7_again_93 (lv_at hl 1 rfl) ?_
        refine lv_if_le (tgt := 103) hx hb dX7_again_95 (by decide) (fun c4 => ?_) (fun c4 => ?_)
        · refine lv_iconst (v := nI 0) hx hb dX7_again_103 (by decide) ?_
          have hE2 : mPlays S q (a - fr) fr = S2 := by rw [← hE, show a - f = 0 by omega]; rfl
          have hz : a - fr = 0 := Classical.byContradiction fun z => nI_nle (by omega) (by omega) c4
          exact r_i hx hb hr hlocks hK hP hS dX7_again_104 ⟨by rw [hz], np2, ns2, by rw [hE2]⟩
        · refine lv_iload hx hb dX7_again_98 (lv_at hl 1 rfl) ?_
          refine lv_goto (tgt := 104) hx hb dX7_again_100 (by decide) ?_
          have hE2 : mPlays S q (a - fr) fr = S2 := by rw [← hE, show a - f = 0 by omega]; rfl
          exact r_i hx hb hr hlocks hK hP hS dX7_again_104 ⟨rfl, np2, ns2, by rw [hE2]⟩
      · refine lv_aload_n hx hb dX7_again_80 rfl (lv_at hl 2 rfl) ?_
        refine lv_iload_n hx hb dX7_again_81 rfl (lv_at hl 3 rfl) ?_
        refine lv_iload hx hb dX7_again_82 (lv_at hl 0 rfl) ?_
        refine k_Vv (As := [.int (nI q), .int (nI f)]) (rest := []) (k := 0) (ci := 7) ⟨hx, hb, hml, hown, hts⟩ hK hP hS Ad_le (c_play l D cs ad hJ d w S2 np2 ns2 q f N0 N1 hq (by omega) g0 hN0 g1 hN1 hB2) (cwV 2 hts gX7_again_X7_play rfl rfl rfl (by decide +kernel) ⟨Nat.le_of_ble_eq_true rfl, Nat.le_of_ble_eq_true rfl⟩) (by decide) rfl rfl rfl rfl hl.1 (Nat.le_of_ble_eq_true rfl) dX7_again_84 ⟨Nat.le_of_ble_eq_true rfl, Nat.le_of_ble_eq_true rfl⟩ (fun M1 H locs hpo hP hS _ _ => ?_)
        obtain ⟨np3, ns3, rfl⟩ := hpo
        refine lv_iinc (v := nI (f + 1)) (lv' := [(6, .int (nI (f + 1))), (5, .int (nI (a - fr))), (0, .ref (ad 0)), (1, .int (nI q))]) hx hb dX7_again_87 hl (k := 0) rfl (nI_1 _) (by decide) rfl (fun ls hl => ?_)
        refine lv_goto (tgt := 69) hx hb dX7_again_90 (by decide) ?_
        exact ih (a - (f + 1)) (by omega) (f + 1, mPlay S2 q f, np3, ns3) ls H locs ⟨by omega, rfl, by rw [← hE, show a - f = (a - (f + 1)) + 1 by omega]; rfl, hat2, g0, g1, mPlay_Bd (by omega) hB2, lv_sub hl [0, 1, 2, 3] rfl, hP, hS⟩
    · refine lv_iinc (v := nI (fr + 1)) (lv' := [(4, .int (nI (fr + 1))), (3, .int (nI (1 - q))), (0, .ref (ad 0)), (1, .int (nI q))]) hx hb dX7_again_48 hl (k := 0) rfl (nI_1 _) (by decide) rfl (fun ls hl => ?_)
      refine lv_goto (tgt := 7) hx hb dX7_again_51 (by decide) ?_
      exact ih (a - (fr + 1)) (by omega) (fr + 1) ls H locs ⟨by omega, rfl, by rw [← hGf, show a - fr = (a - (fr + 1)) + 1 by omega]; rw [mFw_s, if_pos c2], lv_sub hl [0, 1, 2, 3] rfl, hP, hS⟩
end
section
/-- the packets behind the first one of a row move up by one -/
def mShift (S : SS) : Nat → Nat → SS
  | 0, _ => S
  | n + 1, k => mShift (mCopy S (k + 1) k) n (k + 1)
def mTake (S : SS) (q : Nat) : SS := mShift (sI (mCopy S (12 * q) 24) 19 (upd (S.1 19) q (nI (tn (S.1 19 q) - 1)))) (tn (S.1 19 q) - 1) (12 * q)
theorem mCopy_sh {S : SS} {a b : Nat} (h : ∀ i, sh (S.1 20 i)) : ∀ i, sh ((mCopy S a b).1 20 i) := by
  intro i
  show sh (upd (S.1 20) b (S.1 20 a) i)
  unfold upd
  split
  · exact h a
  · exact h i
set_option maxHeartbeats 4000000 in
set_option maxRecDepth 100000 in
/-- take(q) -/
theorem c_take (l : Launch) (D : va_G) (cs : Nat → ClassId) (ad : Nat → Nat) (hJ : Inj ad 26) (d w : Int32) (S : SS) (np ns : UInt32) (q r : Nat) (hq : q < 2) (hr0 : S.1 19 q = nI r) (hr1 : 1 ≤ r) (hr2 : r ≤ 12) (hsh : ∀ i, sh (S.1 20 i)) : CTv l yX7_take wsX7_take ({ frames := 1, cells := 0, slots := 0, locals := 22 }) D cs ad 26 (mm ad cs d w S np ns) [.ref (ad 0), .int (nI q)] (fun M2 => M2 = mm ad cs d w (mTake S q) np ns) := by
  refine Met.ofW (cc := cX7_take) (maxL := 3) (ret := none) (by decide) rfl ?_
  intro p e s m args below meth c s₁ B hml hv
  obtain ⟨rfl, hP, hK⟩ := hv
  have hx := B.exec
  have hb := B.bytes
  have hr := B.returns
  have hts := atoms_spec (ws := wsX7_take) B.pre
  have hown : s.vm.findClass RX7 = some m.cls := findClass_of_methodNamed B.named
  have hlocks := B.notSynchronized
  have hS : va_S (Ad ad 26) s.heap s.heap [] := va_S.rf
  have hl := lv_entry ([.ref (ad 0), .int (nI q)]) (n := 3) (Nat.le_of_ble_eq_true rfl)
  rw [lg_entry_eq]
  generalize (lg_sl ([.ref (ad 0), .int (nI q)]) ++ List.replicate (3 - (lg_sl ([.ref (ad 0), .int (nI q)])).length) Slot.unset).toArray = ls at hl ⊢
  have hl : lv_has ls 3 [(0, .ref (ad 0)), (1, .int (nI q))] := hl
  have inX7 : ∀ w ∈ u_ws RX7 TX7 29, w ∈ wsX7_take := by decide +kernel
  have hT : mTake S q = mShift (sI (mCopy S (12 * q) 24) 19 (upd (S.1 19) q (nI (r - 1)))) (r - 1) (12 * q) := by unfold mTake; rw [hr0, tn_nI (by omega)]
  rw [hT]
  refine lv_aload_n hx hb dX7_take_0 rfl (lv_at hl 0 rfl) ?_
  refine lv_bipush (v := nI 12) hx hb dX7_take_1 (by decide) ?_
  refine lv_iload_n hx hb dX7_take_3 rfl (lv_at hl 1 rfl) ?_
  refine n_mul hx hb dX7_take_4 ?_
  refine lv_bipush (v := nI 24) hx hb dX7_take_5 (by decide) ?_
  refine k_Vv (As := [.int (nI (12 * q)), .int (nI 24)]) (rest := []) (k := 0) (ci := 7) ⟨hx, hb, hml, hown, hts⟩ hK hP hS Ad_le (c_copy l D cs ad hJ d w S np ns (12 * q) 24 (by omega) (by omega) (hsh _)) (cwV 2 hts gX7_take_X7_copy rfl rfl rfl (by decide +kernel) ⟨Nat.le_of_ble_eq_true rfl, Nat.le_of_ble_eq_true rfl⟩) (by decide) rfl rfl rfl rfl hl.1 (Nat.le_of_ble_eq_true rfl) dX7_take_7 ⟨Nat.le_of_ble_eq_true rfl, Nat.le_of_ble_eq_true rfl⟩ (fun M1 H locs hpo hP hS _ _ => ?_)
  subst hpo
  refine lv_aload_n hx hb dX7_take_10 rfl (lv_at hl 0 rfl) ?_
  refine m_get hx hb hts inX7 hown hK hP (ci := 7) rfl (k := 0) (by decide) rfl 19 (by decide) (hts (.fieldLink RX7 65 "RollbackPairModel" "rows" "[I") (by decide +kernel)) rfl dX7_take_11 ?_
  refine lv_iload_n hx hb dX7_take_14 rfl (lv_at hl 1 rfl) ?_
  refine lv_dup2_11 hx hb dX7_take_15 rfl rfl ?_
  refine m_iald hx hb hK hP (k := 18) (by decide) (f := (S.1 19)) rfl (i := q) (by omega) (by decide) dX7_take_16 ?_
  refine n_val hr0 ?_
  refine lv_iconst (v := nI 1) hx hb dX7_take_17 (by decide) ?_
  refine n_sub hx hb (by omega) dX7_take_18 ?_
  refine m_iast hx hb hK hP hJ hS (k := 18) (by decide) (f := (S.1 19)) rfl (i := q) (by omega) (by decide) dX7_take_19 (fun H locs hP hS => ?_)
  rw [mm_up19] at hP
  refine lv_bipush (v := nI 12) hx hb dX7_take_20 (by decide) ?_
  refine lv_iload_n hx hb dX7_take_22 rfl (lv_at hl 1 rfl) ?_
  refine n_mul hx hb dX7_take_23 ?_
  refine lv_istore_n (lv' := [(2, .int (nI (12 * q))), (0, .ref (ad 0)), (1, .int (nI q))]) hx hb dX7_take_24 rfl hl (by decide) rfl (fun ls hl => ?_)
  have hr3 : (upd (S.1 19) q (nI (r - 1))) q = nI (r - 1) := if_pos rfl
  refine lpW (fun j (x : Nat × SS) ls H locs => x.1 ≤ 12 * q + (r - 1) ∧ j = 12 * q + (r - 1) - x.1 ∧ mShift x.2 j x.1 = mShift (sI (mCopy S (12 * q) 24) 19 (upd (S.1 19) q (nI (r - 1)))) (r - 1) (12 * q) ∧ x.2.1 19 q = nI (r - 1) ∧ (∀ i, sh (x.2.1 20 i)) ∧ lv_has ls 3 [(2, .int (nI x.1)), (0, .ref (ad 0)), (1, .int (nI q))] ∧ va_P D vwCl (sg ad 26 (mm ad cs d w x.2 np ns)) H ∧ va_S (Ad ad 26) s.heap H locs) 25 (fun _ => []) (fun j x ls H locs hC ih => ?_) (r - 1) (12 * q, (sI (mCopy S (12 * q) 24) 19 (upd (S.1 19) q (nI (r - 1))))) ls _ _ ⟨Nat.le_add_right _ _, by omega, rfl, hr3, mCopy_sh hsh, lv_sub hl [0, 1, 2] rfl, hP, hS⟩
  obtain ⟨k, S2⟩ := x
  obtain ⟨hk1, hj, hE, hr4, hsh2, hl, hP, hS⟩ := hC
  dsimp only at hk1 hj hE hr4 hsh2 hl hP hS ih ⊢
  refine lv_iload_n hx hb dX7_take_25 rfl (lv_at hl 0 rfl) ?_
  refine lv_bipush (v := nI 12) hx hb dX7_take_26 (by decide) ?_
  refine lv_iload_n hx hb dX7_take_28 rfl (lv_at hl 2 rfl) ?_
  refine n_mul hx hb dX7_take_29 ?_
  refine lv_aload_n hx hb dX7_take_30 rfl (lv_at hl 1 rfl) ?_
  refine m_get hx hb hts inX7 hown hK hP (ci := 7) rfl (k := 0) (by decide) rfl 19 (by decide) (hts (.fieldLink RX7 65 "RollbackPairModel" "rows" "[I") (by decide +kernel)) rfl dX7_take_31 ?_
  refine lv_iload_n hx hb dX7_take_34 rfl (lv_at hl 2 rfl) ?_
  refine m_iald hx hb hK hP (k := 18) (by decide) (f := (S2.1 19)) rfl (i := q) (by omega) (by decide) dX7_take_35 ?_
  refine n_val hr4 ?_
  refine n_add hx hb dX7_take_36 ?_
  refine n_cmp_ge (tgt := 54) hx hb dX7_take_37 (by decide) (by omega) (by omega) (fun c1 => ?_) (fun c1 => ?_)
  · exact r_v hx hb hr hlocks hK hP hS dX7_take_54 (by rw [← hE, show j = 0 by omega]; rfl)
  · refine lv_aload_n hx hb dX7_take_40 rfl (lv_at hl 1 rfl) ?_
    refine lv_iload_n hx hb dX7_take_41 rfl (lv_at hl 0 rfl) ?_
    refine lv_iconst (v := nI 1) hx hb dX7_take_42 (by decide) ?_
    refine n_add hx hb dX7_take_43 ?_
    refine lv_iload_n hx hb dX7_take_44 rfl (lv_at hl 0 rfl) ?_
    refine k_Vv (As := [.int (nI (k + 1)), .int (nI k)]) (rest := []) (k := 0) (ci := 7) ⟨hx, hb, hml, hown, hts⟩ hK hP hS Ad_le (c_copy l D cs ad hJ d w S2 np ns (k + 1) k (by omega) (by omega) (hsh2 _)) (cwV 2 hts gX7_take_X7_copy rfl rfl rfl (by decide +kernel) ⟨Nat.le_of_ble_eq_true rfl, Nat.le_of_ble_eq_true rfl⟩) (by decide) rfl rfl rfl rfl hl.1 (Nat.le_of_ble_eq_true rfl) dX7_take_45 ⟨Nat.le_of_ble_eq_true rfl, Nat.le_of_ble_eq_true rfl⟩ (fun M1 H locs hpo hP hS _ _ => ?_)
    subst hpo
    refine lv_iinc (v := nI (k + 1)) (lv' := [(2, .int (nI (k + 1))), (0, .ref (ad 0)), (1, .int (nI q))]) hx hb dX7_take_48 hl (k := 0) rfl (nI_1 _) (by decide) rfl (fun ls hl => ?_)
    refine lv_goto (tgt := 25) hx hb dX7_take_51 (by decide) ?_
    exact ih (12 * q + (r - 1) - (k + 1)) (by omega) (k + 1, mCopy S2 (k + 1) k) ls H locs ⟨by omega, rfl, by rw [← hE, show j = (12 * q + (r - 1) - (k + 1)) + 1 by omega]; rfl, hr4, mCopy_sh hsh2, lv_sub hl [0, 1, 2] rfl, hP, hS⟩
end
section
set_option maxRecDepth 20000 in
theorem ggX7_send_X7_check : GoodIn wsX7_send wsX7_check := goodIn_r _ [18, 3, 5, 7, 8, 10, 11, 19, 20, 21, 22, 23, 24, 25, 26, 27, 28, 29, 30, 31, 32, 33, 34, 35, 36, 37, 38, 39, 40, 41, 42, 43, 44, 45, 46, 47] (by decide +kernel) (by decide +kernel)
set_option maxRecDepth 20000 in
theorem gX7_send_X7_check : GoodIn wsX7_send (wsV RX7 124 RX7 yX7_check wsX7_check) := goodIn_app (goodIn_of _ (by decide +kernel)) ggX7_send_X7_check
theorem dX7_send_0 : decode cX7_send 0 = .ok (.iconst 1, 1) := by decide +kernel
theorem dX7_send_1 : decode cX7_send 1 = .ok (.iload_n 1, 1) := by decide +kernel
theorem dX7_send_2 : decode cX7_send 2 = .ok (.isub, 1) := by decide +kernel
theorem dX7_send_3 : decode cX7_send 3 = .ok (.istore_n 2, 1) := by decide +kernel
theorem dX7_send_4 : decode cX7_send 4 = .ok (.aload_n 0, 1) := by decide +kernel
theorem dX7_send_5 : decode cX7_send 5 = .ok (.getfield 65, 3) := by decide +kernel
theorem dX7_send_8 : decode cX7_send 8 = .ok (.iload_n 2, 1) := by decide +kernel
theorem dX7_send_9 : decode cX7_send 9 = .ok (.iaload, 1) := by decide +kernel
theorem dX7_send_10 : decode cX7_send 10 = .ok (.bipush 12, 2) := by decide +kernel
theorem dX7_send_12 : decode cX7_send 12 = .ok (.if_icmp .ge 206, 3) := by decide +kernel
theorem dX7_send_15 : decode cX7_send 15 = .ok (.bipush 12, 2) := by decide +kernel
theorem dX7_send_17 : decode cX7_send 17 = .ok (.iload_n 2, 1) := by decide +kernel
theorem dX7_send_18 : decode cX7_send 18 = .ok (.imul, 1) := by decide +kernel
theorem dX7_send_19 : decode cX7_send 19 = .ok (.aload_n 0, 1) := by decide +kernel
theorem dX7_send_20 : decode cX7_send 20 = .ok (.getfield 65, 3) := by decide +kernel
theorem dX7_send_23 : decode cX7_send 23 = .ok (.iload_n 2, 1) := by decide +kernel
theorem dX7_send_24 : decode cX7_send 24 = .ok (.iaload, 1) := by decide +kernel
theorem dX7_send_25 : decode cX7_send 25 = .ok (.iadd, 1) := by decide +kernel
theorem dX7_send_26 : decode cX7_send 26 = .ok (.istore_n 3, 1) := by decide +kernel
theorem dX7_send_27 : decode cX7_send 27 = .ok (.aload_n 0, 1) := by decide +kernel
theorem dX7_send_28 : decode cX7_send 28 = .ok (.getfield 43, 3) := by decide +kernel
theorem dX7_send_31 : decode cX7_send 31 = .ok (.iconst 2, 1) := by decide +kernel
theorem dX7_send_32 : decode cX7_send 32 = .ok (.iload_n 1, 1) := by decide +kernel
theorem dX7_send_33 : decode cX7_send 33 = .ok (.imul, 1) := by decide +kernel
theorem dX7_send_34 : decode cX7_send 34 = .ok (.iload_n 1, 1) := by decide +kernel
theorem dX7_send_35 : decode cX7_send 35 = .ok (.iadd, 1) := by decide +kernel
theorem dX7_send_36 : decode cX7_send 36 = .ok (.iaload, 1) := by decide +kernel
theorem dX7_send_37 : decode cX7_send 37 = .ok (.istore 4, 2) := by decide +kernel
theorem dX7_send_39 : decode cX7_send 39 = .ok (.aload_n 0, 1) := by decide +kernel
theorem dX7_send_40 : decode cX7_send 40 = .ok (.getfield 68, 3) := by decide +kernel
theorem dX7_send_43 : decode cX7_send 43 = .ok (.iload_n 3, 1) := by decide +kernel
theorem dX7_send_44 : decode cX7_send 44 = .ok (.aload_n 0, 1) := by decide +kernel
theorem dX7_send_45 : decode cX7_send 45 = .ok (.getfield 30, 3) := by decide +kernel
theorem dX7_send_48 : decode cX7_send 48 = .ok (.iload_n 1, 1) := by decide +kernel
theorem dX7_send_49 : decode cX7_send 49 = .ok (.saload, 1) := by decide +kernel
theorem dX7_send_50 : decode cX7_send 50 = .ok (.sastore, 1) := by decide +kernel
theorem dX7_send_51 : decode cX7_send 51 = .ok (.aload_n 0, 1) := by decide +kernel
theorem dX7_send_52 : decode cX7_send 52 = .ok (.getfield 71, 3) := by decide +kernel
theorem dX7_send_55 : decode cX7_send 55 = .ok (.iload_n 3, 1) := by decide +kernel
theorem dX7_send_56 : decode cX7_send 56 = .ok (.aload_n 0, 1) := by decide +kernel
theorem dX7_send_57 : decode cX7_send 57 = .ok (.getfield 7, 3) := by decide +kernel
theorem dX7_send_60 : decode cX7_send 60 = .ok (.iload_n 1, 1) := by decide +kernel
theorem dX7_send_61 : decode cX7_send 61 = .ok (.iaload, 1) := by decide +kernel
theorem dX7_send_62 : decode cX7_send 62 = .ok (.iastore, 1) := by decide +kernel
theorem dX7_send_63 : decode cX7_send 63 = .ok (.aload_n 0, 1) := by decide +kernel
theorem dX7_send_64 : decode cX7_send 64 = .ok (.getfield 74, 3) := by decide +kernel
theorem dX7_send_67 : decode cX7_send 67 = .ok (.iload_n 3, 1) := by decide +kernel
theorem dX7_send_68 : decode cX7_send 68 = .ok (.aload_n 0, 1) := by decide +kernel
theorem dX7_send_69 : decode cX7_send 69 = .ok (.getfield 43, 3) := by decide +kernel
theorem dX7_send_72 : decode cX7_send 72 = .ok (.iconst 2, 1) := by decide +kernel
theorem dX7_send_73 : decode cX7_send 73 = .ok (.iload_n 1, 1) := by decide +kernel
theorem dX7_send_74 : decode cX7_send 74 = .ok (.imul, 1) := by decide +kernel
theorem dX7_send_75 : decode cX7_send 75 = .ok (.iload_n 2, 1) := by decide +kernel
theorem dX7_send_76 : decode cX7_send 76 = .ok (.iadd, 1) := by decide +kernel
theorem dX7_send_77 : decode cX7_send 77 = .ok (.iaload, 1) := by decide +kernel
theorem dX7_send_78 : decode cX7_send 78 = .ok (.iastore, 1) := by decide +kernel
theorem dX7_send_79 : decode cX7_send 79 = .ok (.aload_n 0, 1) := by decide +kernel
theorem dX7_send_80 : decode cX7_send 80 = .ok (.getfield 77, 3) := by decide +kernel
theorem dX7_send_83 : decode cX7_send 83 = .ok (.iload_n 3, 1) := by decide +kernel
theorem dX7_send_84 : decode cX7_send 84 = .ok (.aload_n 0, 1) := by decide +kernel
theorem dX7_send_85 : decode cX7_send 85 = .ok (.getfield 19, 3) := by decide +kernel
theorem dX7_send_88 : decode cX7_send 88 = .ok (.iload_n 1, 1) := by decide +kernel
theorem dX7_send_89 : decode cX7_send 89 = .ok (.iaload, 1) := by decide +kernel
theorem dX7_send_90 : decode cX7_send 90 = .ok (.iastore, 1) := by decide +kernel
theorem dX7_send_91 : decode cX7_send 91 = .ok (.aload_n 0, 1) := by decide +kernel
theorem dX7_send_92 : decode cX7_send 92 = .ok (.getfield 80, 3) := by decide +kernel
theorem dX7_send_95 : decode cX7_send 95 = .ok (.iload_n 3, 1) := by decide +kernel
theorem dX7_send_96 : decode cX7_send 96 = .ok (.iload 4, 2) := by decide +kernel
theorem dX7_send_98 : decode cX7_send 98 = .ok (.aload_n 0, 1) := by decide +kernel
theorem dX7_send_99 : decode cX7_send 99 = .ok (.getfield 19, 3) := by decide +kernel
theorem dX7_send_102 : decode cX7_send 102 = .ok (.iload_n 1, 1) := by decide +kernel
theorem dX7_send_103 : decode cX7_send 103 = .ok (.iaload, 1) := by decide +kernel
theorem dX7_send_104 : decode cX7_send 104 = .ok (.isub, 1) := by decide +kernel
theorem dX7_send_105 : decode cX7_send 105 = .ok (.bipush 16, 2) := by decide +kernel
theorem dX7_send_107 : decode cX7_send 107 = .ok (.if_icmp .le 8, 3) := by decide +kernel
theorem dX7_send_110 : decode cX7_send 110 = .ok (.bipush 16, 2) := by decide +kernel
theorem dX7_send_112 : decode cX7_send 112 = .ok (.goto 12, 3) := by decide +kernel
theorem dX7_send_115 : decode cX7_send 115 = .ok (.iload 4, 2) := by decide +kernel
theorem dX7_send_117 : decode cX7_send 117 = .ok (.aload_n 0, 1) := by decide +kernel
theorem dX7_send_118 : decode cX7_send 118 = .ok (.getfield 19, 3) := by decide +kernel
theorem dX7_send_121 : decode cX7_send 121 = .ok (.iload_n 1, 1) := by decide +kernel
theorem dX7_send_122 : decode cX7_send 122 = .ok (.iaload, 1) := by decide +kernel
theorem dX7_send_123 : decode cX7_send 123 = .ok (.isub, 1) := by decide +kernel
theorem dX7_send_124 : decode cX7_send 124 = .ok (.iastore, 1) := by decide +kernel
theorem dX7_send_125 : decode cX7_send 125 = .ok (.aload_n 0, 1) := by decide +kernel
theorem dX7_send_126 : decode cX7_send 126 = .ok (.getfield 83, 3) := by decide +kernel
theorem dX7_send_129 : decode cX7_send 129 = .ok (.iload_n 3, 1) := by decide +kernel
theorem dX7_send_130 : decode cX7_send 130 = .ok (.lconst 0, 1) := by decide +kernel
theorem dX7_send_131 : decode cX7_send 131 = .ok (.lastore, 1) := by decide +kernel
theorem dX7_send_132 : decode cX7_send 132 = .ok (.iconst 0, 1) := by decide +kernel
theorem dX7_send_133 : decode cX7_send 133 = .ok (.istore 5, 2) := by decide +kernel
theorem dX7_send_135 : decode cX7_send 135 = .ok (.iload 5, 2) := by decide +kernel
theorem dX7_send_137 : decode cX7_send 137 = .ok (.aload_n 0, 1) := by decide +kernel
theorem dX7_send_138 : decode cX7_send 138 = .ok (.getfield 80, 3) := by decide +kernel
theorem dX7_send_141 : decode cX7_send 141 = .ok (.iload_n 3, 1) := by decide +kernel
theorem dX7_send_142 : decode cX7_send 142 = .ok (.iaload, 1) := by decide +kernel
theorem dX7_send_143 : decode cX7_send 143 = .ok (.if_icmp .ge 54, 3) := by decide +kernel
theorem dX7_send_146 : decode cX7_send 146 = .ok (.aload_n 0, 1) := by decide +kernel
theorem dX7_send_147 : decode cX7_send 147 = .ok (.getfield 83, 3) := by decide +kernel
theorem dX7_send_150 : decode cX7_send 150 = .ok (.iload_n 3, 1) := by decide +kernel
theorem dX7_send_151 : decode cX7_send 151 = .ok (.aload_n 0, 1) := by decide +kernel
theorem dX7_send_152 : decode cX7_send 152 = .ok (.getfield 83, 3) := by decide +kernel
theorem dX7_send_155 : decode cX7_send 155 = .ok (.iload_n 3, 1) := by decide +kernel
theorem dX7_send_156 : decode cX7_send 156 = .ok (.laload, 1) := by decide +kernel
theorem dX7_send_157 : decode cX7_send 157 = .ok (.aload_n 0, 1) := by decide +kernel
theorem dX7_send_158 : decode cX7_send 158 = .ok (.getfield 37, 3) := by decide +kernel
theorem dX7_send_161 : decode cX7_send 161 = .ok (.sipush 1200, 3) := by decide +kernel
theorem dX7_send_164 : decode cX7_send 164 = .ok (.iload_n 1, 1) := by decide +kernel
theorem dX7_send_165 : decode cX7_send 165 = .ok (.imul, 1) := by decide +kernel
theorem dX7_send_166 : decode cX7_send 166 = .ok (.sipush 600, 3) := by decide +kernel
theorem dX7_send_169 : decode cX7_send 169 = .ok (.iload_n 1, 1) := by decide +kernel
theorem dX7_send_170 : decode cX7_send 170 = .ok (.imul, 1) := by decide +kernel
theorem dX7_send_171 : decode cX7_send 171 = .ok (.iadd, 1) := by decide +kernel
theorem dX7_send_172 : decode cX7_send 172 = .ok (.aload_n 0, 1) := by decide +kernel
theorem dX7_send_173 : decode cX7_send 173 = .ok (.getfield 19, 3) := by decide +kernel
theorem dX7_send_176 : decode cX7_send 176 = .ok (.iload_n 1, 1) := by decide +kernel
theorem dX7_send_177 : decode cX7_send 177 = .ok (.iaload, 1) := by decide +kernel
theorem dX7_send_178 : decode cX7_send 178 = .ok (.iadd, 1) := by decide +kernel
theorem dX7_send_179 : decode cX7_send 179 = .ok (.iload 5, 2) := by decide +kernel
theorem dX7_send_181 : decode cX7_send 181 = .ok (.iadd, 1) := by decide +kernel
theorem dX7_send_182 : decode cX7_send 182 = .ok (.iaload, 1) := by decide +kernel
theorem dX7_send_183 : decode cX7_send 183 = .ok (.i2l, 1) := by decide +kernel
theorem dX7_send_184 : decode cX7_send 184 = .ok (.iconst 3, 1) := by decide +kernel
theorem dX7_send_185 : decode cX7_send 185 = .ok (.iload 5, 2) := by decide +kernel
theorem dX7_send_187 : decode cX7_send 187 = .ok (.imul, 1) := by decide +kernel
theorem dX7_send_188 : decode cX7_send 188 = .ok (.lshl, 1) := by decide +kernel
theorem dX7_send_189 : decode cX7_send 189 = .ok (.lor, 1) := by decide +kernel
theorem dX7_send_190 : decode cX7_send 190 = .ok (.lastore, 1) := by decide +kernel
theorem dX7_send_191 : decode cX7_send 191 = .ok (.iinc 5 1, 3) := by decide +kernel
theorem dX7_send_194 : decode cX7_send 194 = .ok (.goto (-59), 3) := by decide +kernel
theorem dX7_send_197 : decode cX7_send 197 = .ok (.aload_n 0, 1) := by decide +kernel
theorem dX7_send_198 : decode cX7_send 198 = .ok (.getfield 87, 3) := by decide +kernel
theorem dX7_send_201 : decode cX7_send 201 = .ok (.iload_n 3, 1) := by decide +kernel
theorem dX7_send_202 : decode cX7_send 202 = .ok (.aload_n 0, 1) := by decide +kernel
theorem dX7_send_203 : decode cX7_send 203 = .ok (.iload_n 3, 1) := by decide +kernel
theorem dX7_send_204 : decode cX7_send 204 = .ok (.invokevirtual 124, 3) := by decide +kernel
theorem dX7_send_207 : decode cX7_send 207 = .ok (.iastore, 1) := by decide +kernel
theorem dX7_send_208 : decode cX7_send 208 = .ok (.aload_n 0, 1) := by decide +kernel
theorem dX7_send_209 : decode cX7_send 209 = .ok (.getfield 65, 3) := by decide +kernel
theorem dX7_send_212 : decode cX7_send 212 = .ok (.iload_n 2, 1) := by decide +kernel
theorem dX7_send_213 : decode cX7_send 213 = .ok (.dup2, 1) := by decide +kernel
theorem dX7_send_214 : decode cX7_send 214 = .ok (.iaload, 1) := by decide +kernel
theorem dX7_send_215 : decode cX7_send 215 = .ok (.iconst 1, 1) := by decide +kernel
theorem dX7_send_216 : decode cX7_send 216 = .ok (.iadd, 1) := by decide +kernel
theorem dX7_send_217 : decode cX7_send 217 = .ok (.iastore, 1) := by decide +kernel
theorem dX7_send_218 : decode cX7_send 218 = .ok (.aload_n 0, 1) := by decide +kernel
theorem dX7_send_219 : decode cX7_send 219 = .ok (.getfield 30, 3) := by decide +kernel
theorem dX7_send_222 : decode cX7_send 222 = .ok (.iload_n 1, 1) := by decide +kernel
theorem dX7_send_223 : decode cX7_send 223 = .ok (.dup2, 1) := by decide +kernel
theorem dX7_send_224 : decode cX7_send 224 = .ok (.saload, 1) := by decide +kernel
theorem dX7_send_225 : decode cX7_send 225 = .ok (.iconst 1, 1) := by decide +kernel
theorem dX7_send_226 : decode cX7_send 226 = .ok (.iadd, 1) := by decide +kernel
theorem dX7_send_227 : decode cX7_send 227 = .ok (.i2s, 1) := by decide +kernel
theorem dX7_send_228 : decode cX7_send 228 = .ok (.sastore, 1) := by decide +kernel
theorem dX7_send_229 : decode cX7_send 229 = .ok (.return_, 1) := by decide +kernel
set_option maxRecDepth 20000 in
theorem ggX7_advance_X7_isTwo : GoodIn wsX7_advance wsX7_isTwo := goodIn_r _ [11] (by decide +kernel) (by decide +kernel)
set_option maxRecDepth 20000 in
theorem gX7_advance_X7_isTwo : GoodIn wsX7_advance (va_wsS RX7 131 yX7_isTwo wsX7_isTwo) := goodIn_app (goodIn_of _ (by decide +kernel)) ggX7_advance_X7_isTwo
set_option maxRecDepth 20000 in
theorem ggX7_advance_X7_again : GoodIn wsX7_advance wsX7_again := goodIn_r _ [15, 2, 16, 17, 18, 19, 10, 20, 3, 6, 1, 21, 22, 23, 24, 25, 26, 27, 28, 29, 30, 31, 32, 33, 34, 35, 36, 37, 38, 39, 40, 41, 42, 61, 62, 63, 64, 65, 66, 67, 68, 69, 70, 71, 72, 73, 74, 75, 76, 77, 78, 79, 80, 81, 82, 83, 84, 85, 86, 87, 88, 89] (by decide +kernel) (by decide +kernel)
set_option maxRecDepth 20000 in
theorem gX7_advance_X7_again : GoodIn wsX7_advance (wsV RX7 135 RX7 yX7_again wsX7_again) := goodIn_app (goodIn_of _ (by decide +kernel)) ggX7_advance_X7_again
set_option maxRecDepth 20000 in
theorem ggX7_advance_X7_play : GoodIn wsX7_advance wsX7_play := goodIn_r _ [24, 16, 25, 26, 27, 28, 29, 30, 31, 32, 33, 17, 18, 19, 10, 20, 3, 6, 1, 34, 35, 36, 37, 38, 39, 40, 41, 42, 61, 62, 63, 64, 65, 66, 67, 68, 69, 70, 71, 72, 73, 74, 75, 76, 77, 78, 79, 80, 81, 82, 83, 84, 85, 86, 87, 88, 89] (by decide +kernel) (by decide +kernel)
set_option maxRecDepth 20000 in
theorem gX7_advance_X7_play : GoodIn wsX7_advance (wsV RX7 120 RX7 yX7_play wsX7_play) := goodIn_app (goodIn_of _ (by decide +kernel)) ggX7_advance_X7_play
set_option maxRecDepth 20000 in
theorem ggX7_advance_X7_send : GoodIn wsX7_advance wsX7_send := goodIn_r _ [46, 47, 3, 48, 49, 50, 2, 51, 52, 53, 54, 55, 6, 56, 57, 58, 59, 10, 60, 61, 62, 63, 64, 65, 66, 67, 68, 69, 70, 71, 72, 73, 74, 75, 76, 77, 78, 79, 80, 81, 82, 83, 84, 85, 86, 87, 88, 89] (by decide +kernel) (by decide +kernel)
set_option maxRecDepth 20000 in
theorem gX7_advance_X7_send : GoodIn wsX7_advance (wsV RX7 139 RX7 yX7_send wsX7_send) := goodIn_app (goodIn_of _ (by decide +kernel)) ggX7_advance_X7_send
theorem dX7_advance_0 : decode cX7_advance 0 = .ok (.iload_n 1, 1) := by decide +kernel
theorem dX7_advance_1 : decode cX7_advance 1 = .ok (.invokestatic 131, 3) := by decide +kernel
theorem dX7_advance_4 : decode cX7_advance 4 = .ok (.ifCond .eq 13, 3) := by decide +kernel
theorem dX7_advance_7 : decode cX7_advance 7 = .ok (.iload_n 2, 1) := by decide +kernel
theorem dX7_advance_8 : decode cX7_advance 8 = .ok (.ifCond .lt 9, 3) := by decide +kernel
theorem dX7_advance_11 : decode cX7_advance 11 = .ok (.iload_n 2, 1) := by decide +kernel
theorem dX7_advance_12 : decode cX7_advance 12 = .ok (.bipush 7, 2) := by decide +kernel
theorem dX7_advance_14 : decode cX7_advance 14 = .ok (.if_icmp .le 6, 3) := by decide +kernel
theorem dX7_advance_17 : decode cX7_advance 17 = .ok (.bipush (-2), 2) := by decide +kernel
theorem dX7_advance_19 : decode cX7_advance 19 = .ok (.ireturn, 1) := by decide +kernel
theorem dX7_advance_20 : decode cX7_advance 20 = .ok (.iconst 1, 1) := by decide +kernel
theorem dX7_advance_21 : decode cX7_advance 21 = .ok (.iload_n 1, 1) := by decide +kernel
theorem dX7_advance_22 : decode cX7_advance 22 = .ok (.isub, 1) := by decide +kernel
theorem dX7_advance_23 : decode cX7_advance 23 = .ok (.istore_n 3, 1) := by decide +kernel
theorem dX7_advance_24 : decode cX7_advance 24 = .ok (.aload_n 0, 1) := by decide +kernel
theorem dX7_advance_25 : decode cX7_advance 25 = .ok (.getfield 16, 3) := by decide +kernel
theorem dX7_advance_28 : decode cX7_advance 28 = .ok (.iload_n 1, 1) := by decide +kernel
theorem dX7_advance_29 : decode cX7_advance 29 = .ok (.iaload, 1) := by decide +kernel
theorem dX7_advance_30 : decode cX7_advance 30 = .ok (.ifCond .ge 79, 3) := by decide +kernel
theorem dX7_advance_33 : decode cX7_advance 33 = .ok (.aload_n 0, 1) := by decide +kernel
theorem dX7_advance_34 : decode cX7_advance 34 = .ok (.getfield 7, 3) := by decide +kernel
theorem dX7_advance_37 : decode cX7_advance 37 = .ok (.iload_n 1, 1) := by decide +kernel
theorem dX7_advance_38 : decode cX7_advance 38 = .ok (.iaload, 1) := by decide +kernel
theorem dX7_advance_39 : decode cX7_advance 39 = .ok (.aload_n 0, 1) := by decide +kernel
theorem dX7_advance_40 : decode cX7_advance 40 = .ok (.getfield 43, 3) := by decide +kernel
theorem dX7_advance_43 : decode cX7_advance 43 = .ok (.iconst 2, 1) := by decide +kernel
theorem dX7_advance_44 : decode cX7_advance 44 = .ok (.iload_n 1, 1) := by decide +kernel
theorem dX7_advance_45 : decode cX7_advance 45 = .ok (.imul, 1) := by decide +kernel
theorem dX7_advance_46 : decode cX7_advance 46 = .ok (.iload_n 3, 1) := by decide +kernel
theorem dX7_advance_47 : decode cX7_advance 47 = .ok (.iadd, 1) := by decide +kernel
theorem dX7_advance_48 : decode cX7_advance 48 = .ok (.iaload, 1) := by decide +kernel
theorem dX7_advance_49 : decode cX7_advance 49 = .ok (.isub, 1) := by decide +kernel
theorem dX7_advance_50 : decode cX7_advance 50 = .ok (.aload_n 0, 1) := by decide +kernel
theorem dX7_advance_51 : decode cX7_advance 51 = .ok (.getfield 94, 3) := by decide +kernel
theorem dX7_advance_54 : decode cX7_advance 54 = .ok (.if_icmp .lt 55, 3) := by decide +kernel
theorem dX7_advance_57 : decode cX7_advance 57 = .ok (.aload_n 0, 1) := by decide +kernel
theorem dX7_advance_58 : decode cX7_advance 58 = .ok (.getfield 13, 3) := by decide +kernel
theorem dX7_advance_61 : decode cX7_advance 61 = .ok (.iload_n 1, 1) := by decide +kernel
theorem dX7_advance_62 : decode cX7_advance 62 = .ok (.dup2, 1) := by decide +kernel
theorem dX7_advance_63 : decode cX7_advance 63 = .ok (.iaload, 1) := by decide +kernel
theorem dX7_advance_64 : decode cX7_advance 64 = .ok (.iconst 1, 1) := by decide +kernel
theorem dX7_advance_65 : decode cX7_advance 65 = .ok (.iadd, 1) := by decide +kernel
theorem dX7_advance_66 : decode cX7_advance 66 = .ok (.iastore, 1) := by decide +kernel
theorem dX7_advance_67 : decode cX7_advance 67 = .ok (.aload_n 0, 1) := by decide +kernel
theorem dX7_advance_68 : decode cX7_advance 68 = .ok (.getfield 13, 3) := by decide +kernel
theorem dX7_advance_71 : decode cX7_advance 71 = .ok (.iload_n 1, 1) := by decide +kernel
theorem dX7_advance_72 : decode cX7_advance 72 = .ok (.iaload, 1) := by decide +kernel
theorem dX7_advance_73 : decode cX7_advance 73 = .ok (.bipush 12, 2) := by decide +kernel
theorem dX7_advance_75 : decode cX7_advance 75 = .ok (.if_icmp .ne 32, 3) := by decide +kernel
theorem dX7_advance_78 : decode cX7_advance 78 = .ok (.aload_n 0, 1) := by decide +kernel
theorem dX7_advance_79 : decode cX7_advance 79 = .ok (.getfield 16, 3) := by decide +kernel
theorem dX7_advance_82 : decode cX7_advance 82 = .ok (.iload_n 1, 1) := by decide +kernel
theorem dX7_advance_83 : decode cX7_advance 83 = .ok (.aload_n 0, 1) := by decide +kernel
theorem dX7_advance_84 : decode cX7_advance 84 = .ok (.getfield 43, 3) := by decide +kernel
theorem dX7_advance_87 : decode cX7_advance 87 = .ok (.iconst 2, 1) := by decide +kernel
theorem dX7_advance_88 : decode cX7_advance 88 = .ok (.iload_n 1, 1) := by decide +kernel
theorem dX7_advance_89 : decode cX7_advance 89 = .ok (.imul, 1) := by decide +kernel
theorem dX7_advance_90 : decode cX7_advance 90 = .ok (.iload_n 3, 1) := by decide +kernel
theorem dX7_advance_91 : decode cX7_advance 91 = .ok (.iadd, 1) := by decide +kernel
theorem dX7_advance_92 : decode cX7_advance 92 = .ok (.iaload, 1) := by decide +kernel
theorem dX7_advance_93 : decode cX7_advance 93 = .ok (.iastore, 1) := by decide +kernel
theorem dX7_advance_94 : decode cX7_advance 94 = .ok (.aload_n 0, 1) := by decide +kernel
theorem dX7_advance_95 : decode cX7_advance 95 = .ok (.iload_n 1, 1) := by decide +kernel
theorem dX7_advance_96 : decode cX7_advance 96 = .ok (.aload_n 0, 1) := by decide +kernel
theorem dX7_advance_97 : decode cX7_advance 97 = .ok (.getfield 16, 3) := by decide +kernel
theorem dX7_advance_100 : decode cX7_advance 100 = .ok (.iload_n 1, 1) := by decide +kernel
theorem dX7_advance_101 : decode cX7_advance 101 = .ok (.iaload, 1) := by decide +kernel
theorem dX7_advance_102 : decode cX7_advance 102 = .ok (.invokevirtual 135, 3) := by decide +kernel
theorem dX7_advance_105 : decode cX7_advance 105 = .ok (.istore 4, 2) := by decide +kernel
theorem dX7_advance_107 : decode cX7_advance 107 = .ok (.iconst (-1), 1) := by decide +kernel
theorem dX7_advance_108 : decode cX7_advance 108 = .ok (.ireturn, 1) := by decide +kernel
theorem dX7_advance_109 : decode cX7_advance 109 = .ok (.aload_n 0, 1) := by decide +kernel
theorem dX7_advance_110 : decode cX7_advance 110 = .ok (.getfield 37, 3) := by decide +kernel
theorem dX7_advance_113 : decode cX7_advance 113 = .ok (.sipush 1200, 3) := by decide +kernel
theorem dX7_advance_116 : decode cX7_advance 116 = .ok (.iload_n 1, 1) := by decide +kernel
theorem dX7_advance_117 : decode cX7_advance 117 = .ok (.imul, 1) := by decide +kernel
theorem dX7_advance_118 : decode cX7_advance 118 = .ok (.sipush 600, 3) := by decide +kernel
theorem dX7_advance_121 : decode cX7_advance 121 = .ok (.iload_n 1, 1) := by decide +kernel
theorem dX7_advance_122 : decode cX7_advance 122 = .ok (.imul, 1) := by decide +kernel
theorem dX7_advance_123 : decode cX7_advance 123 = .ok (.iadd, 1) := by decide +kernel
theorem dX7_advance_124 : decode cX7_advance 124 = .ok (.aload_n 0, 1) := by decide +kernel
theorem dX7_advance_125 : decode cX7_advance 125 = .ok (.getfield 7, 3) := by decide +kernel
theorem dX7_advance_128 : decode cX7_advance 128 = .ok (.iload_n 1, 1) := by decide +kernel
theorem dX7_advance_129 : decode cX7_advance 129 = .ok (.iaload, 1) := by decide +kernel
theorem dX7_advance_130 : decode cX7_advance 130 = .ok (.iadd, 1) := by decide +kernel
theorem dX7_advance_131 : decode cX7_advance 131 = .ok (.aload_n 0, 1) := by decide +kernel
theorem dX7_advance_132 : decode cX7_advance 132 = .ok (.getfield 90, 3) := by decide +kernel
theorem dX7_advance_135 : decode cX7_advance 135 = .ok (.iadd, 1) := by decide +kernel
theorem dX7_advance_136 : decode cX7_advance 136 = .ok (.iload_n 2, 1) := by decide +kernel
theorem dX7_advance_137 : decode cX7_advance 137 = .ok (.iastore, 1) := by decide +kernel
theorem dX7_advance_138 : decode cX7_advance 138 = .ok (.aload_n 0, 1) := by decide +kernel
theorem dX7_advance_139 : decode cX7_advance 139 = .ok (.getfield 43, 3) := by decide +kernel
theorem dX7_advance_142 : decode cX7_advance 142 = .ok (.iconst 2, 1) := by decide +kernel
theorem dX7_advance_143 : decode cX7_advance 143 = .ok (.iload_n 1, 1) := by decide +kernel
theorem dX7_advance_144 : decode cX7_advance 144 = .ok (.imul, 1) := by decide +kernel
theorem dX7_advance_145 : decode cX7_advance 145 = .ok (.iload_n 1, 1) := by decide +kernel
theorem dX7_advance_146 : decode cX7_advance 146 = .ok (.iadd, 1) := by decide +kernel
theorem dX7_advance_147 : decode cX7_advance 147 = .ok (.aload_n 0, 1) := by decide +kernel
theorem dX7_advance_148 : decode cX7_advance 148 = .ok (.getfield 7, 3) := by decide +kernel
theorem dX7_advance_151 : decode cX7_advance 151 = .ok (.iload_n 1, 1) := by decide +kernel
theorem dX7_advance_152 : decode cX7_advance 152 = .ok (.iaload, 1) := by decide +kernel
theorem dX7_advance_153 : decode cX7_advance 153 = .ok (.aload_n 0, 1) := by decide +kernel
theorem dX7_advance_154 : decode cX7_advance 154 = .ok (.getfield 90, 3) := by decide +kernel
theorem dX7_advance_157 : decode cX7_advance 157 = .ok (.iadd, 1) := by decide +kernel
theorem dX7_advance_158 : decode cX7_advance 158 = .ok (.iconst 1, 1) := by decide +kernel
theorem dX7_advance_159 : decode cX7_advance 159 = .ok (.iadd, 1) := by decide +kernel
theorem dX7_advance_160 : decode cX7_advance 160 = .ok (.iastore, 1) := by decide +kernel
theorem dX7_advance_161 : decode cX7_advance 161 = .ok (.aload_n 0, 1) := by decide +kernel
theorem dX7_advance_162 : decode cX7_advance 162 = .ok (.iload_n 1, 1) := by decide +kernel
theorem dX7_advance_163 : decode cX7_advance 163 = .ok (.aload_n 0, 1) := by decide +kernel
theorem dX7_advance_164 : decode cX7_advance 164 = .ok (.getfield 7, 3) := by decide +kernel
theorem dX7_advance_167 : decode cX7_advance 167 = .ok (.iload_n 1, 1) := by decide +kernel
theorem dX7_advance_168 : decode cX7_advance 168 = .ok (.iaload, 1) := by decide +kernel
theorem dX7_advance_169 : decode cX7_advance 169 = .ok (.invokevirtual 120, 3) := by decide +kernel
theorem dX7_advance_172 : decode cX7_advance 172 = .ok (.aload_n 0, 1) := by decide +kernel
theorem dX7_advance_173 : decode cX7_advance 173 = .ok (.getfield 7, 3) := by decide +kernel
theorem dX7_advance_176 : decode cX7_advance 176 = .ok (.iload_n 1, 1) := by decide +kernel
theorem dX7_advance_177 : decode cX7_advance 177 = .ok (.dup2, 1) := by decide +kernel
theorem dX7_advance_178 : decode cX7_advance 178 = .ok (.iaload, 1) := by decide +kernel
theorem dX7_advance_179 : decode cX7_advance 179 = .ok (.iconst 1, 1) := by decide +kernel
theorem dX7_advance_180 : decode cX7_advance 180 = .ok (.iadd, 1) := by decide +kernel
theorem dX7_advance_181 : decode cX7_advance 181 = .ok (.iastore, 1) := by decide +kernel
theorem dX7_advance_182 : decode cX7_advance 182 = .ok (.aload_n 0, 1) := by decide +kernel
theorem dX7_advance_183 : decode cX7_advance 183 = .ok (.iload_n 1, 1) := by decide +kernel
theorem dX7_advance_184 : decode cX7_advance 184 = .ok (.invokevirtual 139, 3) := by decide +kernel
theorem dX7_advance_187 : decode cX7_advance 187 = .ok (.aload_n 0, 1) := by decide +kernel
theorem dX7_advance_188 : decode cX7_advance 188 = .ok (.getfield 7, 3) := by decide +kernel
theorem dX7_advance_191 : decode cX7_advance 191 = .ok (.iload_n 1, 1) := by decide +kernel
theorem dX7_advance_192 : decode cX7_advance 192 = .ok (.iaload, 1) := by decide +kernel
theorem dX7_advance_193 : decode cX7_advance 193 = .ok (.iconst 1, 1) := by decide +kernel
theorem dX7_advance_194 : decode cX7_advance 194 = .ok (.isub, 1) := by decide +kernel
theorem dX7_advance_195 : decode cX7_advance 195 = .ok (.ireturn, 1) := by decide +kernel
set_option maxRecDepth 20000 in
theorem ggX7_deliver_X7_isTwo : GoodIn wsX7_deliver wsX7_isTwo := goodIn_r _ [24] (by decide +kernel) (by decide +kernel)
set_option maxRecDepth 20000 in
theorem gX7_deliver_X7_isTwo : GoodIn wsX7_deliver (va_wsS RX7 131 yX7_isTwo wsX7_isTwo) := goodIn_app (goodIn_of _ (by decide +kernel)) ggX7_deliver_X7_isTwo
set_option maxRecDepth 20000 in
theorem ggX7_deliver_X7_take : GoodIn wsX7_deliver wsX7_take := goodIn_r _ [28, 1, 29, 30, 31, 23, 32, 2, 12, 13, 17, 16, 19, 4, 72, 73, 74, 75, 76, 77, 78, 79, 80, 81, 82, 83, 84, 85, 86, 87, 88, 89, 90, 91, 92, 93, 94, 95, 96, 97, 98, 99, 100] (by decide +kernel) (by decide +kernel)
set_option maxRecDepth 20000 in
theorem gX7_deliver_X7_take : GoodIn wsX7_deliver (wsV RX7 143 RX7 yX7_take wsX7_take) := goodIn_app (goodIn_of _ (by decide +kernel)) ggX7_deliver_X7_take
set_option maxRecDepth 20000 in
theorem ggX7_deliver_X7_check : GoodIn wsX7_deliver wsX7_check := goodIn_r _ [36, 2, 12, 13, 17, 16, 19, 72, 73, 74, 75, 76, 77, 78, 79, 80, 81, 82, 83, 84, 85, 86, 87, 88, 89, 90, 91, 92, 93, 94, 95, 96, 97, 98, 99, 100] (by decide +kernel) (by decide +kernel)
set_option maxRecDepth 20000 in
theorem gX7_deliver_X7_check : GoodIn wsX7_deliver (wsV RX7 124 RX7 yX7_check wsX7_check) := goodIn_app (goodIn_of _ (by decide +kernel)) ggX7_deliver_X7_check
set_option maxRecDepth 20000 in
theorem ggX7_deliver_X7_replay : GoodIn wsX7_deliver wsX7_replay := goodIn_r _ [40, 15, 11, 41, 18, 42, 43, 44, 23, 45, 46, 47, 48, 49, 5, 50, 51, 52, 53, 54, 55, 56, 57, 58, 59, 60, 61, 62, 63, 64, 65, 66, 67, 68, 69, 70, 71, 72, 73, 74, 75, 76, 77, 78, 79, 80, 81, 82, 83, 84, 85, 86, 87, 88, 89, 90, 91, 92, 93, 94, 95, 96, 97, 98, 99, 100] (by decide +kernel) (by decide +kernel)
set_option maxRecDepth 20000 in
theorem gX7_deliver_X7_replay : GoodIn wsX7_deliver (wsV RX7 150 RX7 yX7_replay wsX7_replay) := goodIn_app (goodIn_of _ (by decide +kernel)) ggX7_deliver_X7_replay
theorem dX7_deliver_0 : decode cX7_deliver 0 = .ok (.iload_n 1, 1) := by decide +kernel
theorem dX7_deliver_1 : decode cX7_deliver 1 = .ok (.invokestatic 131, 3) := by decide +kernel
theorem dX7_deliver_4 : decode cX7_deliver 4 = .ok (.ifCond .eq 12, 3) := by decide +kernel
theorem dX7_deliver_7 : decode cX7_deliver 7 = .ok (.aload_n 0, 1) := by decide +kernel
theorem dX7_deliver_8 : decode cX7_deliver 8 = .ok (.getfield 65, 3) := by decide +kernel
theorem dX7_deliver_11 : decode cX7_deliver 11 = .ok (.iload_n 1, 1) := by decide +kernel
theorem dX7_deliver_12 : decode cX7_deliver 12 = .ok (.iaload, 1) := by decide +kernel
theorem dX7_deliver_13 : decode cX7_deliver 13 = .ok (.ifCond .ne 5, 3) := by decide +kernel
theorem dX7_deliver_16 : decode cX7_deliver 16 = .ok (.iconst (-1), 1) := by decide +kernel
theorem dX7_deliver_17 : decode cX7_deliver 17 = .ok (.ireturn, 1) := by decide +kernel
theorem dX7_deliver_18 : decode cX7_deliver 18 = .ok (.aload_n 0, 1) := by decide +kernel
theorem dX7_deliver_19 : decode cX7_deliver 19 = .ok (.iload_n 1, 1) := by decide +kernel
theorem dX7_deliver_20 : decode cX7_deliver 20 = .ok (.invokevirtual 143, 3) := by decide +kernel
theorem dX7_deliver_23 : decode cX7_deliver 23 = .ok (.aload_n 0, 1) := by decide +kernel
theorem dX7_deliver_24 : decode cX7_deliver 24 = .ok (.getfield 68, 3) := by decide +kernel
theorem dX7_deliver_27 : decode cX7_deliver 27 = .ok (.bipush 24, 2) := by decide +kernel
theorem dX7_deliver_29 : decode cX7_deliver 29 = .ok (.saload, 1) := by decide +kernel
theorem dX7_deliver_30 : decode cX7_deliver 30 = .ok (.aload_n 0, 1) := by decide +kernel
theorem dX7_deliver_31 : decode cX7_deliver 31 = .ok (.getfield 26, 3) := by decide +kernel
theorem dX7_deliver_34 : decode cX7_deliver 34 = .ok (.iload_n 1, 1) := by decide +kernel
theorem dX7_deliver_35 : decode cX7_deliver 35 = .ok (.saload, 1) := by decide +kernel
theorem dX7_deliver_36 : decode cX7_deliver 36 = .ok (.isub, 1) := by decide +kernel
theorem dX7_deliver_37 : decode cX7_deliver 37 = .ok (.i2s, 1) := by decide +kernel
theorem dX7_deliver_38 : decode cX7_deliver 38 = .ok (.istore_n 2, 1) := by decide +kernel
theorem dX7_deliver_39 : decode cX7_deliver 39 = .ok (.aload_n 0, 1) := by decide +kernel
theorem dX7_deliver_40 : decode cX7_deliver 40 = .ok (.getfield 87, 3) := by decide +kernel
theorem dX7_deliver_43 : decode cX7_deliver 43 = .ok (.bipush 24, 2) := by decide +kernel
theorem dX7_deliver_45 : decode cX7_deliver 45 = .ok (.iaload, 1) := by decide +kernel
theorem dX7_deliver_46 : decode cX7_deliver 46 = .ok (.aload_n 0, 1) := by decide +kernel
theorem dX7_deliver_47 : decode cX7_deliver 47 = .ok (.bipush 24, 2) := by decide +kernel
theorem dX7_deliver_49 : decode cX7_deliver 49 = .ok (.invokevirtual 124, 3) := by decide +kernel
theorem dX7_deliver_52 : decode cX7_deliver 52 = .ok (.if_icmp .ne 25, 3) := by decide +kernel
theorem dX7_deliver_55 : decode cX7_deliver 55 = .ok (.aload_n 0, 1) := by decide +kernel
theorem dX7_deliver_56 : decode cX7_deliver 56 = .ok (.getfield 16, 3) := by decide +kernel
theorem dX7_deliver_59 : decode cX7_deliver 59 = .ok (.iload_n 1, 1) := by decide +kernel
theorem dX7_deliver_60 : decode cX7_deliver 60 = .ok (.iaload, 1) := by decide +kernel
theorem dX7_deliver_61 : decode cX7_deliver 61 = .ok (.ifCond .ge 16, 3) := by decide +kernel
theorem dX7_deliver_64 : decode cX7_deliver 64 = .ok (.aload_n 0, 1) := by decide +kernel
theorem dX7_deliver_65 : decode cX7_deliver 65 = .ok (.getfield 22, 3) := by decide +kernel
theorem dX7_deliver_68 : decode cX7_deliver 68 = .ok (.iload_n 1, 1) := by decide +kernel
theorem dX7_deliver_69 : decode cX7_deliver 69 = .ok (.baload, 1) := by decide +kernel
theorem dX7_deliver_70 : decode cX7_deliver 70 = .ok (.ifCond .eq 10, 3) := by decide +kernel
theorem dX7_deliver_73 : decode cX7_deliver 73 = .ok (.iload_n 2, 1) := by decide +kernel
theorem dX7_deliver_74 : decode cX7_deliver 74 = .ok (.ifCond .gt 6, 3) := by decide +kernel
theorem dX7_deliver_77 : decode cX7_deliver 77 = .ok (.bipush (-2), 2) := by decide +kernel
theorem dX7_deliver_79 : decode cX7_deliver 79 = .ok (.ireturn, 1) := by decide +kernel
theorem dX7_deliver_80 : decode cX7_deliver 80 = .ok (.aload_n 0, 1) := by decide +kernel
theorem dX7_deliver_81 : decode cX7_deliver 81 = .ok (.getfield 22, 3) := by decide +kernel
theorem dX7_deliver_84 : decode cX7_deliver 84 = .ok (.iload_n 1, 1) := by decide +kernel
theorem dX7_deliver_85 : decode cX7_deliver 85 = .ok (.iconst 1, 1) := by decide +kernel
theorem dX7_deliver_86 : decode cX7_deliver 86 = .ok (.bastore, 1) := by decide +kernel
theorem dX7_deliver_87 : decode cX7_deliver 87 = .ok (.aload_n 0, 1) := by decide +kernel
theorem dX7_deliver_88 : decode cX7_deliver 88 = .ok (.getfield 26, 3) := by decide +kernel
theorem dX7_deliver_91 : decode cX7_deliver 91 = .ok (.iload_n 1, 1) := by decide +kernel
theorem dX7_deliver_92 : decode cX7_deliver 92 = .ok (.aload_n 0, 1) := by decide +kernel
theorem dX7_deliver_93 : decode cX7_deliver 93 = .ok (.getfield 68, 3) := by decide +kernel
theorem dX7_deliver_96 : decode cX7_deliver 96 = .ok (.bipush 24, 2) := by decide +kernel
theorem dX7_deliver_98 : decode cX7_deliver 98 = .ok (.saload, 1) := by decide +kernel
theorem dX7_deliver_99 : decode cX7_deliver 99 = .ok (.sastore, 1) := by decide +kernel
theorem dX7_deliver_100 : decode cX7_deliver 100 = .ok (.aload_n 0, 1) := by decide +kernel
theorem dX7_deliver_101 : decode cX7_deliver 101 = .ok (.getfield 13, 3) := by decide +kernel
theorem dX7_deliver_104 : decode cX7_deliver 104 = .ok (.iload_n 1, 1) := by decide +kernel
theorem dX7_deliver_105 : decode cX7_deliver 105 = .ok (.iconst 0, 1) := by decide +kernel
theorem dX7_deliver_106 : decode cX7_deliver 106 = .ok (.iastore, 1) := by decide +kernel
theorem dX7_deliver_107 : decode cX7_deliver 107 = .ok (.aload_n 0, 1) := by decide +kernel
theorem dX7_deliver_108 : decode cX7_deliver 108 = .ok (.getfield 33, 3) := by decide +kernel
theorem dX7_deliver_111 : decode cX7_deliver 111 = .ok (.iload_n 1, 1) := by decide +kernel
theorem dX7_deliver_112 : decode cX7_deliver 112 = .ok (.aload_n 0, 1) := by decide +kernel
theorem dX7_deliver_113 : decode cX7_deliver 113 = .ok (.getfield 33, 3) := by decide +kernel
theorem dX7_deliver_116 : decode cX7_deliver 116 = .ok (.iload_n 1, 1) := by decide +kernel
theorem dX7_deliver_117 : decode cX7_deliver 117 = .ok (.faload, 1) := by decide +kernel
theorem dX7_deliver_118 : decode cX7_deliver 118 = .ok (.ldc 146, 2) := by decide +kernel
theorem dX7_deliver_120 : decode cX7_deliver 120 = .ok (.fmul, 1) := by decide +kernel
theorem dX7_deliver_121 : decode cX7_deliver 121 = .ok (.ldc 147, 2) := by decide +kernel
theorem dX7_deliver_123 : decode cX7_deliver 123 = .ok (.aload_n 0, 1) := by decide +kernel
theorem dX7_deliver_124 : decode cX7_deliver 124 = .ok (.getfield 7, 3) := by decide +kernel
theorem dX7_deliver_127 : decode cX7_deliver 127 = .ok (.iload_n 1, 1) := by decide +kernel
theorem dX7_deliver_128 : decode cX7_deliver 128 = .ok (.iaload, 1) := by decide +kernel
theorem dX7_deliver_129 : decode cX7_deliver 129 = .ok (.aload_n 0, 1) := by decide +kernel
theorem dX7_deliver_130 : decode cX7_deliver 130 = .ok (.getfield 71, 3) := by decide +kernel
theorem dX7_deliver_133 : decode cX7_deliver 133 = .ok (.bipush 24, 2) := by decide +kernel
theorem dX7_deliver_135 : decode cX7_deliver 135 = .ok (.iaload, 1) := by decide +kernel
theorem dX7_deliver_136 : decode cX7_deliver 136 = .ok (.isub, 1) := by decide +kernel
theorem dX7_deliver_137 : decode cX7_deliver 137 = .ok (.i2f, 1) := by decide +kernel
theorem dX7_deliver_138 : decode cX7_deliver 138 = .ok (.fmul, 1) := by decide +kernel
theorem dX7_deliver_139 : decode cX7_deliver 139 = .ok (.fadd, 1) := by decide +kernel
theorem dX7_deliver_140 : decode cX7_deliver 140 = .ok (.fastore, 1) := by decide +kernel
theorem dX7_deliver_141 : decode cX7_deliver 141 = .ok (.aload_n 0, 1) := by decide +kernel
theorem dX7_deliver_142 : decode cX7_deliver 142 = .ok (.getfield 74, 3) := by decide +kernel
theorem dX7_deliver_145 : decode cX7_deliver 145 = .ok (.bipush 24, 2) := by decide +kernel
theorem dX7_deliver_147 : decode cX7_deliver 147 = .ok (.iaload, 1) := by decide +kernel
theorem dX7_deliver_148 : decode cX7_deliver 148 = .ok (.aload_n 0, 1) := by decide +kernel
theorem dX7_deliver_149 : decode cX7_deliver 149 = .ok (.getfield 19, 3) := by decide +kernel
theorem dX7_deliver_152 : decode cX7_deliver 152 = .ok (.iload_n 1, 1) := by decide +kernel
theorem dX7_deliver_153 : decode cX7_deliver 153 = .ok (.iaload, 1) := by decide +kernel
theorem dX7_deliver_154 : decode cX7_deliver 154 = .ok (.if_icmp .le 36, 3) := by decide +kernel
theorem dX7_deliver_157 : decode cX7_deliver 157 = .ok (.aload_n 0, 1) := by decide +kernel
theorem dX7_deliver_158 : decode cX7_deliver 158 = .ok (.getfield 74, 3) := by decide +kernel
theorem dX7_deliver_161 : decode cX7_deliver 161 = .ok (.bipush 24, 2) := by decide +kernel
theorem dX7_deliver_163 : decode cX7_deliver 163 = .ok (.iaload, 1) := by decide +kernel
theorem dX7_deliver_164 : decode cX7_deliver 164 = .ok (.aload_n 0, 1) := by decide +kernel
theorem dX7_deliver_165 : decode cX7_deliver 165 = .ok (.getfield 43, 3) := by decide +kernel
theorem dX7_deliver_168 : decode cX7_deliver 168 = .ok (.iconst 2, 1) := by decide +kernel
theorem dX7_deliver_169 : decode cX7_deliver 169 = .ok (.iload_n 1, 1) := by decide +kernel
theorem dX7_deliver_170 : decode cX7_deliver 170 = .ok (.imul, 1) := by decide +kernel
theorem dX7_deliver_171 : decode cX7_deliver 171 = .ok (.iload_n 1, 1) := by decide +kernel
theorem dX7_deliver_172 : decode cX7_deliver 172 = .ok (.iadd, 1) := by decide +kernel
theorem dX7_deliver_173 : decode cX7_deliver 173 = .ok (.iaload, 1) := by decide +kernel
theorem dX7_deliver_174 : decode cX7_deliver 174 = .ok (.if_icmp .gt 16, 3) := by decide +kernel
theorem dX7_deliver_177 : decode cX7_deliver 177 = .ok (.aload_n 0, 1) := by decide +kernel
theorem dX7_deliver_178 : decode cX7_deliver 178 = .ok (.getfield 19, 3) := by decide +kernel
theorem dX7_deliver_181 : decode cX7_deliver 181 = .ok (.iload_n 1, 1) := by decide +kernel
theorem dX7_deliver_182 : decode cX7_deliver 182 = .ok (.aload_n 0, 1) := by decide +kernel
theorem dX7_deliver_183 : decode cX7_deliver 183 = .ok (.getfield 74, 3) := by decide +kernel
theorem dX7_deliver_186 : decode cX7_deliver 186 = .ok (.bipush 24, 2) := by decide +kernel
theorem dX7_deliver_188 : decode cX7_deliver 188 = .ok (.iaload, 1) := by decide +kernel
theorem dX7_deliver_189 : decode cX7_deliver 189 = .ok (.iastore, 1) := by decide +kernel
theorem dX7_deliver_190 : decode cX7_deliver 190 = .ok (.iconst 1, 1) := by decide +kernel
theorem dX7_deliver_191 : decode cX7_deliver 191 = .ok (.iload_n 1, 1) := by decide +kernel
theorem dX7_deliver_192 : decode cX7_deliver 192 = .ok (.isub, 1) := by decide +kernel
theorem dX7_deliver_193 : decode cX7_deliver 193 = .ok (.istore_n 3, 1) := by decide +kernel
theorem dX7_deliver_194 : decode cX7_deliver 194 = .ok (.aload_n 0, 1) := by decide +kernel
theorem dX7_deliver_195 : decode cX7_deliver 195 = .ok (.getfield 43, 3) := by decide +kernel
theorem dX7_deliver_198 : decode cX7_deliver 198 = .ok (.iconst 2, 1) := by decide +kernel
theorem dX7_deliver_199 : decode cX7_deliver 199 = .ok (.iload_n 1, 1) := by decide +kernel
theorem dX7_deliver_200 : decode cX7_deliver 200 = .ok (.imul, 1) := by decide +kernel
theorem dX7_deliver_201 : decode cX7_deliver 201 = .ok (.iload_n 3, 1) := by decide +kernel
theorem dX7_deliver_202 : decode cX7_deliver 202 = .ok (.iadd, 1) := by decide +kernel
theorem dX7_deliver_203 : decode cX7_deliver 203 = .ok (.iaload, 1) := by decide +kernel
theorem dX7_deliver_204 : decode cX7_deliver 204 = .ok (.istore 4, 2) := by decide +kernel
theorem dX7_deliver_206 : decode cX7_deliver 206 = .ok (.aload_n 0, 1) := by decide +kernel
theorem dX7_deliver_207 : decode cX7_deliver 207 = .ok (.getfield 80, 3) := by decide +kernel
theorem dX7_deliver_210 : decode cX7_deliver 210 = .ok (.bipush 24, 2) := by decide +kernel
theorem dX7_deliver_212 : decode cX7_deliver 212 = .ok (.iaload, 1) := by decide +kernel
theorem dX7_deliver_213 : decode cX7_deliver 213 = .ok (.bipush 16, 2) := by decide +kernel
theorem dX7_deliver_215 : decode cX7_deliver 215 = .ok (.if_icmp .le 8, 3) := by decide +kernel
theorem dX7_deliver_218 : decode cX7_deliver 218 = .ok (.bipush 16, 2) := by decide +kernel
theorem dX7_deliver_220 : decode cX7_deliver 220 = .ok (.goto 10, 3) := by decide +kernel
theorem dX7_deliver_223 : decode cX7_deliver 223 = .ok (.aload_n 0, 1) := by decide +kernel
theorem dX7_deliver_224 : decode cX7_deliver 224 = .ok (.getfield 80, 3) := by decide +kernel
theorem dX7_deliver_227 : decode cX7_deliver 227 = .ok (.bipush 24, 2) := by decide +kernel
theorem dX7_deliver_229 : decode cX7_deliver 229 = .ok (.iaload, 1) := by decide +kernel
theorem dX7_deliver_230 : decode cX7_deliver 230 = .ok (.istore 5, 2) := by decide +kernel
theorem dX7_deliver_232 : decode cX7_deliver 232 = .ok (.iload 4, 2) := by decide +kernel
theorem dX7_deliver_234 : decode cX7_deliver 234 = .ok (.i2l, 1) := by decide +kernel
theorem dX7_deliver_235 : decode cX7_deliver 235 = .ok (.aload_n 0, 1) := by decide +kernel
theorem dX7_deliver_236 : decode cX7_deliver 236 = .ok (.getfield 77, 3) := by decide +kernel
theorem dX7_deliver_239 : decode cX7_deliver 239 = .ok (.bipush 24, 2) := by decide +kernel
theorem dX7_deliver_241 : decode cX7_deliver 241 = .ok (.iaload, 1) := by decide +kernel
theorem dX7_deliver_242 : decode cX7_deliver 242 = .ok (.i2l, 1) := by decide +kernel
theorem dX7_deliver_243 : decode cX7_deliver 243 = .ok (.lsub, 1) := by decide +kernel
theorem dX7_deliver_244 : decode cX7_deliver 244 = .ok (.lstore 6, 2) := by decide +kernel
theorem dX7_deliver_246 : decode cX7_deliver 246 = .ok (.lload 6, 2) := by decide +kernel
theorem dX7_deliver_248 : decode cX7_deliver 248 = .ok (.lconst 0, 1) := by decide +kernel
theorem dX7_deliver_249 : decode cX7_deliver 249 = .ok (.lcmp, 1) := by decide +kernel
theorem dX7_deliver_250 : decode cX7_deliver 250 = .ok (.ifCond .lt 102, 3) := by decide +kernel
theorem dX7_deliver_253 : decode cX7_deliver 253 = .ok (.lload 6, 2) := by decide +kernel
theorem dX7_deliver_255 : decode cX7_deliver 255 = .ok (.iload 5, 2) := by decide +kernel
theorem dX7_deliver_257 : decode cX7_deliver 257 = .ok (.i2l, 1) := by decide +kernel
theorem dX7_deliver_258 : decode cX7_deliver 258 = .ok (.lcmp, 1) := by decide +kernel
theorem dX7_deliver_259 : decode cX7_deliver 259 = .ok (.ifCond .ge 93, 3) := by decide +kernel
theorem dX7_deliver_262 : decode cX7_deliver 262 = .ok (.aload_n 0, 1) := by decide +kernel
theorem dX7_deliver_263 : decode cX7_deliver 263 = .ok (.getfield 43, 3) := by decide +kernel
theorem dX7_deliver_266 : decode cX7_deliver 266 = .ok (.iconst 2, 1) := by decide +kernel
theorem dX7_deliver_267 : decode cX7_deliver 267 = .ok (.iload_n 1, 1) := by decide +kernel
theorem dX7_deliver_268 : decode cX7_deliver 268 = .ok (.imul, 1) := by decide +kernel
theorem dX7_deliver_269 : decode cX7_deliver 269 = .ok (.iload_n 3, 1) := by decide +kernel
theorem dX7_deliver_270 : decode cX7_deliver 270 = .ok (.iadd, 1) := by decide +kernel
theorem dX7_deliver_271 : decode cX7_deliver 271 = .ok (.iaload, 1) := by decide +kernel
theorem dX7_deliver_272 : decode cX7_deliver 272 = .ok (.aload_n 0, 1) := by decide +kernel
theorem dX7_deliver_273 : decode cX7_deliver 273 = .ok (.getfield 7, 3) := by decide +kernel
theorem dX7_deliver_276 : decode cX7_deliver 276 = .ok (.iload_n 1, 1) := by decide +kernel
theorem dX7_deliver_277 : decode cX7_deliver 277 = .ok (.iaload, 1) := by decide +kernel
theorem dX7_deliver_278 : decode cX7_deliver 278 = .ok (.bipush 20, 2) := by decide +kernel
theorem dX7_deliver_280 : decode cX7_deliver 280 = .ok (.iadd, 1) := by decide +kernel
theorem dX7_deliver_281 : decode cX7_deliver 281 = .ok (.if_icmp .ge 71, 3) := by decide +kernel
theorem dX7_deliver_284 : decode cX7_deliver 284 = .ok (.aload_n 0, 1) := by decide +kernel
theorem dX7_deliver_285 : decode cX7_deliver 285 = .ok (.getfield 37, 3) := by decide +kernel
theorem dX7_deliver_288 : decode cX7_deliver 288 = .ok (.sipush 1200, 3) := by decide +kernel
theorem dX7_deliver_291 : decode cX7_deliver 291 = .ok (.iload_n 1, 1) := by decide +kernel
theorem dX7_deliver_292 : decode cX7_deliver 292 = .ok (.imul, 1) := by decide +kernel
theorem dX7_deliver_293 : decode cX7_deliver 293 = .ok (.sipush 600, 3) := by decide +kernel
theorem dX7_deliver_296 : decode cX7_deliver 296 = .ok (.iload_n 3, 1) := by decide +kernel
theorem dX7_deliver_297 : decode cX7_deliver 297 = .ok (.imul, 1) := by decide +kernel
theorem dX7_deliver_298 : decode cX7_deliver 298 = .ok (.iadd, 1) := by decide +kernel
theorem dX7_deliver_299 : decode cX7_deliver 299 = .ok (.aload_n 0, 1) := by decide +kernel
theorem dX7_deliver_300 : decode cX7_deliver 300 = .ok (.getfield 43, 3) := by decide +kernel
theorem dX7_deliver_303 : decode cX7_deliver 303 = .ok (.iconst 2, 1) := by decide +kernel
theorem dX7_deliver_304 : decode cX7_deliver 304 = .ok (.iload_n 1, 1) := by decide +kernel
theorem dX7_deliver_305 : decode cX7_deliver 305 = .ok (.imul, 1) := by decide +kernel
theorem dX7_deliver_306 : decode cX7_deliver 306 = .ok (.iload_n 3, 1) := by decide +kernel
theorem dX7_deliver_307 : decode cX7_deliver 307 = .ok (.iadd, 1) := by decide +kernel
theorem dX7_deliver_308 : decode cX7_deliver 308 = .ok (.iaload, 1) := by decide +kernel
theorem dX7_deliver_309 : decode cX7_deliver 309 = .ok (.iadd, 1) := by decide +kernel
theorem dX7_deliver_310 : decode cX7_deliver 310 = .ok (.aload_n 0, 1) := by decide +kernel
theorem dX7_deliver_311 : decode cX7_deliver 311 = .ok (.getfield 83, 3) := by decide +kernel
theorem dX7_deliver_314 : decode cX7_deliver 314 = .ok (.bipush 24, 2) := by decide +kernel
theorem dX7_deliver_316 : decode cX7_deliver 316 = .ok (.laload, 1) := by decide +kernel
theorem dX7_deliver_317 : decode cX7_deliver 317 = .ok (.iconst 3, 1) := by decide +kernel
theorem dX7_deliver_318 : decode cX7_deliver 318 = .ok (.lload 6, 2) := by decide +kernel
theorem dX7_deliver_320 : decode cX7_deliver 320 = .ok (.l2i, 1) := by decide +kernel
theorem dX7_deliver_321 : decode cX7_deliver 321 = .ok (.imul, 1) := by decide +kernel
theorem dX7_deliver_322 : decode cX7_deliver 322 = .ok (.lshr, 1) := by decide +kernel
theorem dX7_deliver_323 : decode cX7_deliver 323 = .ok (.ldc2_w 148, 3) := by decide +kernel
theorem dX7_deliver_326 : decode cX7_deliver 326 = .ok (.land, 1) := by decide +kernel
theorem dX7_deliver_327 : decode cX7_deliver 327 = .ok (.l2i, 1) := by decide +kernel
theorem dX7_deliver_328 : decode cX7_deliver 328 = .ok (.iastore, 1) := by decide +kernel
theorem dX7_deliver_329 : decode cX7_deliver 329 = .ok (.aload_n 0, 1) := by decide +kernel
theorem dX7_deliver_330 : decode cX7_deliver 330 = .ok (.getfield 43, 3) := by decide +kernel
theorem dX7_deliver_333 : decode cX7_deliver 333 = .ok (.iconst 2, 1) := by decide +kernel
theorem dX7_deliver_334 : decode cX7_deliver 334 = .ok (.iload_n 1, 1) := by decide +kernel
theorem dX7_deliver_335 : decode cX7_deliver 335 = .ok (.imul, 1) := by decide +kernel
theorem dX7_deliver_336 : decode cX7_deliver 336 = .ok (.iload_n 3, 1) := by decide +kernel
theorem dX7_deliver_337 : decode cX7_deliver 337 = .ok (.iadd, 1) := by decide +kernel
theorem dX7_deliver_338 : decode cX7_deliver 338 = .ok (.dup2, 1) := by decide +kernel
theorem dX7_deliver_339 : decode cX7_deliver 339 = .ok (.iaload, 1) := by decide +kernel
theorem dX7_deliver_340 : decode cX7_deliver 340 = .ok (.iconst 1, 1) := by decide +kernel
theorem dX7_deliver_341 : decode cX7_deliver 341 = .ok (.iadd, 1) := by decide +kernel
theorem dX7_deliver_342 : decode cX7_deliver 342 = .ok (.iastore, 1) := by decide +kernel
theorem dX7_deliver_343 : decode cX7_deliver 343 = .ok (.lload 6, 2) := by decide +kernel
theorem dX7_deliver_345 : decode cX7_deliver 345 = .ok (.lconst 1, 1) := by decide +kernel
theorem dX7_deliver_346 : decode cX7_deliver 346 = .ok (.ladd, 1) := by decide +kernel
theorem dX7_deliver_347 : decode cX7_deliver 347 = .ok (.lstore 6, 2) := by decide +kernel
theorem dX7_deliver_349 : decode cX7_deliver 349 = .ok (.goto (-103), 3) := by decide +kernel
theorem dX7_deliver_352 : decode cX7_deliver 352 = .ok (.aload_n 0, 1) := by decide +kernel
theorem dX7_deliver_353 : decode cX7_deliver 353 = .ok (.getfield 43, 3) := by decide +kernel
theorem dX7_deliver_356 : decode cX7_deliver 356 = .ok (.iconst 2, 1) := by decide +kernel
theorem dX7_deliver_357 : decode cX7_deliver 357 = .ok (.iload_n 1, 1) := by decide +kernel
theorem dX7_deliver_358 : decode cX7_deliver 358 = .ok (.imul, 1) := by decide +kernel
theorem dX7_deliver_359 : decode cX7_deliver 359 = .ok (.iload_n 3, 1) := by decide +kernel
theorem dX7_deliver_360 : decode cX7_deliver 360 = .ok (.iadd, 1) := by decide +kernel
theorem dX7_deliver_361 : decode cX7_deliver 361 = .ok (.iaload, 1) := by decide +kernel
theorem dX7_deliver_362 : decode cX7_deliver 362 = .ok (.iload 4, 2) := by decide +kernel
theorem dX7_deliver_364 : decode cX7_deliver 364 = .ok (.if_icmp .le 13, 3) := by decide +kernel
theorem dX7_deliver_367 : decode cX7_deliver 367 = .ok (.aload_n 0, 1) := by decide +kernel
theorem dX7_deliver_368 : decode cX7_deliver 368 = .ok (.iload_n 1, 1) := by decide +kernel
theorem dX7_deliver_369 : decode cX7_deliver 369 = .ok (.iload 4, 2) := by decide +kernel
theorem dX7_deliver_371 : decode cX7_deliver 371 = .ok (.invokevirtual 150, 3) := by decide +kernel
theorem dX7_deliver_374 : decode cX7_deliver 374 = .ok (.goto 4, 3) := by decide +kernel
theorem dX7_deliver_377 : decode cX7_deliver 377 = .ok (.iconst 0, 1) := by decide +kernel
theorem dX7_deliver_378 : decode cX7_deliver 378 = .ok (.ireturn, 1) := by decide +kernel
set_option maxRecDepth 20000 in
theorem ggX7_replay_X7_again : GoodIn wsX7_replay wsX7_again := goodIn_r _ [9, 2, 3, 10, 11, 12, 8, 13, 1, 4, 14, 15, 16, 17, 18, 19, 20, 21, 22, 23, 24, 25, 26, 27, 28, 29, 30, 31, 32, 33, 34, 35, 36, 37, 38, 39, 40, 41, 42, 43, 44, 45, 46, 47, 48, 49, 50, 51, 52, 53, 54, 55, 56, 57, 58, 59, 60, 61, 62, 63, 64, 65] (by decide +kernel) (by decide +kernel)
set_option maxRecDepth 20000 in
theorem gX7_replay_X7_again : GoodIn wsX7_replay (wsV RX7 135 RX7 yX7_again wsX7_again) := goodIn_app (goodIn_of _ (by decide +kernel)) ggX7_replay_X7_again
theorem dX7_replay_0 : decode cX7_replay 0 = .ok (.iconst 1, 1) := by decide +kernel
theorem dX7_replay_1 : decode cX7_replay 1 = .ok (.iload_n 1, 1) := by decide +kernel
theorem dX7_replay_2 : decode cX7_replay 2 = .ok (.isub, 1) := by decide +kernel
theorem dX7_replay_3 : decode cX7_replay 3 = .ok (.istore_n 3, 1) := by decide +kernel
theorem dX7_replay_4 : decode cX7_replay 4 = .ok (.iload_n 2, 1) := by decide +kernel
theorem dX7_replay_5 : decode cX7_replay 5 = .ok (.istore 4, 2) := by decide +kernel
theorem dX7_replay_7 : decode cX7_replay 7 = .ok (.iload 4, 2) := by decide +kernel
theorem dX7_replay_9 : decode cX7_replay 9 = .ok (.aload_n 0, 1) := by decide +kernel
theorem dX7_replay_10 : decode cX7_replay 10 = .ok (.getfield 43, 3) := by decide +kernel
theorem dX7_replay_13 : decode cX7_replay 13 = .ok (.iconst 2, 1) := by decide +kernel
theorem dX7_replay_14 : decode cX7_replay 14 = .ok (.iload_n 1, 1) := by decide +kernel
theorem dX7_replay_15 : decode cX7_replay 15 = .ok (.imul, 1) := by decide +kernel
theorem dX7_replay_16 : decode cX7_replay 16 = .ok (.iload_n 3, 1) := by decide +kernel
theorem dX7_replay_17 : decode cX7_replay 17 = .ok (.iadd, 1) := by decide +kernel
theorem dX7_replay_18 : decode cX7_replay 18 = .ok (.iaload, 1) := by decide +kernel
theorem dX7_replay_19 : decode cX7_replay 19 = .ok (.if_icmp .ge 69, 3) := by decide +kernel
theorem dX7_replay_22 : decode cX7_replay 22 = .ok (.iload 4, 2) := by decide +kernel
theorem dX7_replay_24 : decode cX7_replay 24 = .ok (.aload_n 0, 1) := by decide +kernel
theorem dX7_replay_25 : decode cX7_replay 25 = .ok (.getfield 7, 3) := by decide +kernel
theorem dX7_replay_28 : decode cX7_replay 28 = .ok (.iload_n 1, 1) := by decide +kernel
theorem dX7_replay_29 : decode cX7_replay 29 = .ok (.iaload, 1) := by decide +kernel
theorem dX7_replay_30 : decode cX7_replay 30 = .ok (.if_icmp .ge 58, 3) := by decide +kernel
theorem dX7_replay_33 : decode cX7_replay 33 = .ok (.aload_n 0, 1) := by decide +kernel
theorem dX7_replay_34 : decode cX7_replay 34 = .ok (.getfield 40, 3) := by decide +kernel
theorem dX7_replay_37 : decode cX7_replay 37 = .ok (.sipush 1200, 3) := by decide +kernel
theorem dX7_replay_40 : decode cX7_replay 40 = .ok (.iload_n 1, 1) := by decide +kernel
theorem dX7_replay_41 : decode cX7_replay 41 = .ok (.imul, 1) := by decide +kernel
theorem dX7_replay_42 : decode cX7_replay 42 = .ok (.sipush 600, 3) := by decide +kernel
theorem dX7_replay_45 : decode cX7_replay 45 = .ok (.iload_n 3, 1) := by decide +kernel
theorem dX7_replay_46 : decode cX7_replay 46 = .ok (.imul, 1) := by decide +kernel
theorem dX7_replay_47 : decode cX7_replay 47 = .ok (.iadd, 1) := by decide +kernel
theorem dX7_replay_48 : decode cX7_replay 48 = .ok (.iload 4, 2) := by decide +kernel
theorem dX7_replay_50 : decode cX7_replay 50 = .ok (.iadd, 1) := by decide +kernel
theorem dX7_replay_51 : decode cX7_replay 51 = .ok (.iaload, 1) := by decide +kernel
theorem dX7_replay_52 : decode cX7_replay 52 = .ok (.aload_n 0, 1) := by decide +kernel
theorem dX7_replay_53 : decode cX7_replay 53 = .ok (.getfield 37, 3) := by decide +kernel
theorem dX7_replay_56 : decode cX7_replay 56 = .ok (.sipush 1200, 3) := by decide +kernel
theorem dX7_replay_59 : decode cX7_replay 59 = .ok (.iload_n 1, 1) := by decide +kernel
theorem dX7_replay_60 : decode cX7_replay 60 = .ok (.imul, 1) := by decide +kernel
theorem dX7_replay_61 : decode cX7_replay 61 = .ok (.sipush 600, 3) := by decide +kernel
theorem dX7_replay_64 : decode cX7_replay 64 = .ok (.iload_n 3, 1) := by decide +kernel
theorem dX7_replay_65 : decode cX7_replay 65 = .ok (.imul, 1) := by decide +kernel
theorem dX7_replay_66 : decode cX7_replay 66 = .ok (.iadd, 1) := by decide +kernel
theorem dX7_replay_67 : decode cX7_replay 67 = .ok (.iload 4, 2) := by decide +kernel
theorem dX7_replay_69 : decode cX7_replay 69 = .ok (.iadd, 1) := by decide +kernel
theorem dX7_replay_70 : decode cX7_replay 70 = .ok (.iaload, 1) := by decide +kernel
theorem dX7_replay_71 : decode cX7_replay 71 = .ok (.if_icmp .eq 11, 3) := by decide +kernel
theorem dX7_replay_74 : decode cX7_replay 74 = .ok (.aload_n 0, 1) := by decide +kernel
theorem dX7_replay_75 : decode cX7_replay 75 = .ok (.iload_n 1, 1) := by decide +kernel
theorem dX7_replay_76 : decode cX7_replay 76 = .ok (.iload 4, 2) := by decide +kernel
theorem dX7_replay_78 : decode cX7_replay 78 = .ok (.invokevirtual 135, 3) := by decide +kernel
theorem dX7_replay_81 : decode cX7_replay 81 = .ok (.ireturn, 1) := by decide +kernel
theorem dX7_replay_82 : decode cX7_replay 82 = .ok (.iinc 4 1, 3) := by decide +kernel
theorem dX7_replay_85 : decode cX7_replay 85 = .ok (.goto (-78), 3) := by decide +kernel
theorem dX7_replay_88 : decode cX7_replay 88 = .ok (.iconst 0, 1) := by decide +kernel
theorem dX7_replay_89 : decode cX7_replay 89 = .ok (.ireturn, 1) := by decide +kernel
end
section
section RV
variable {p : Program} {l : Launch} {e : Env} {R : Room} {s : State} {m : MethodId} {args : Array Value} {below : List Frame} {meth : Method} {c : Code} {H : Heap} {locs : List Loc} {cells slots : Nat} {Q : State → Prop} {pc : Nat} {ls : Array Slot} {rest : List Value}
theorem j_val {x y : Int64} (h : x = y) (k : W p l e R s m args below meth c H locs cells slots Q (F0 m pc ls (.long y :: rest))) : W p l e R s m args below meth c H locs cells slots Q (F0 m pc ls (.long x :: rest)) := by rw [h]; exact k
theorem f_val {x y : UInt32} (h : x = y) (k : W p l e R s m args below meth c H locs cells slots Q (F0 m pc ls (.float y :: rest))) : W p l e R s m args below meth c H locs cells slots Q (F0 m pc ls (.float x :: rest)) := by rw [h]; exact k
end RV
theorem updL_updL (f : Nat → Int64) (k : Nat) (a b : Int64) : vp_updL (vp_updL f k a) k b = vp_updL f k b := by
  funext j; unfold vp_updL; split <;> rfl
theorem upd_upd (f : Nat → Int32) (k : Nat) (a b : Int32) : upd (upd f k a) k b = upd f k b := by
  funext j; unfold upd; split <;> rfl
/-- the bits of the first n inputs from b on -/
def pkB (inp : Nat → Int32) (b : Nat) : Nat → Int64
  | 0 => 0
  | j + 1 => pkB inp b j ||| ((inp (b + j)).toInt64 <<< ((nI (3 * j)).toInt64 &&& 63))
/-- a packet of peer q in the place k, its check left out -/
def mFill (S : SS) (q k c : Nat) (b : Int64) : SS := sB (sI (sI (sI (sI (sI S 20 (upd (S.1 20) k (S.1 8 q))) 21 (upd (S.1 21) k (S.1 2 q))) 22 (upd (S.1 22) k (S.1 12 (2 * q + (1 - q))))) 23 (upd (S.1 23) k (S.1 5 q))) 24 (upd (S.1 24) k (nI c))) (vp_updL S.2.2.1 k b)
/-- a packet of peer q goes into the row to the other one -/
def mPut (S : SS) (q r c : Nat) (b : Int64) : SS := sI (sI (mFill S q (12 * (1 - q) + r) c b) 26 (upd (S.1 26) (12 * (1 - q) + r) (mChk (mFill S q (12 * (1 - q) + r) c b) (12 * (1 - q) + r)))) 19 (upd (S.1 19) (1 - q) (nI (r + 1)))
def mNum (U : SS) (q : Nat) : SS := sI U 8 (upd (U.1 8) q (U.1 8 q + nI 1).toInt16.toInt32)
def mSend (S : SS) (q : Nat) : SS :=
  if tn (S.1 19 (1 - q)) < 12 then mNum (mPut S q (tn (S.1 19 (1 - q))) (min 16 (tn (S.1 12 (2 * q + q)) - tn (S.1 5 q))) (pkB (S.1 10) (1200 * q + 600 * q + tn (S.1 5 q)) (min 16 (tn (S.1 12 (2 * q + q)) - tn (S.1 5 q))))) q
  else mNum S q
theorem mSend_eq {S : SS} {q r n t : Nat} (hr : S.1 19 (1 - q) = nI r) (hr2 : r ≤ 12) (hn : S.1 12 (2 * q + q) = nI n) (hn2 : n ≤ 600) (ht : S.1 5 q = nI t) (ht2 : t ≤ n) : mSend S q = if r < 12 then mNum (mPut S q r (min 16 (n - t)) (pkB (S.1 10) (1200 * q + 600 * q + t) (min 16 (n - t)))) q else mNum S q := by
  unfold mSend
  rw [hr, hn, ht, tn_nI (by omega), tn_nI (by omega), tn_nI (by omega)]
set_option maxHeartbeats 4000000 in
set_option maxRecDepth 100000 in
/-- send(q) -/
theorem c_send (l : Launch) (D : va_G) (cs : Nat → ClassId) (ad : Nat → Nat) (hJ : Inj ad 26) (d w : Int32) (S : SS) (np ns : UInt32) (q r n t : Nat) (hq : q < 2) (hr0 : S.1 19 (1 - q) = nI r) (hr2 : r ≤ 12) (hn : S.1 12 (2 * q + q) = nI n) (hn2 : n ≤ 600) (ht : S.1 5 q = nI t) (ht2 : t ≤ n) (hsh : sh (S.1 8 q)) : CTv l yX7_send wsX7_send ({ frames := 1, cells := 0, slots := 0, locals := 22 }) D cs ad 26 (mm ad cs d w S np ns) [.ref (ad 0), .int (nI q)] (fun M2 => M2 = mm ad cs d w (mSend S q) np ns) := by
  refine Met.ofW (cc := cX7_send) (maxL := 6) (ret := none) (by decide) rfl ?_
  intro p e s m args below meth c s₁ B hml hv
  obtain ⟨rfl, hP, hK⟩ := hv
  have hx := B.exec
  have hb := B.bytes
  have hr := B.returns
  have hts := atoms_spec (ws := wsX7_send) B.pre
  have hown : s.vm.findClass RX7 = some m.cls := findClass_of_methodNamed B.named
  have hlocks := B.notSynchronized
  have hS : va_S (Ad ad 26) s.heap s.heap [] := va_S.rf
  have hl := lv_entry ([.ref (ad 0), .int (nI q)]) (n := 6) (Nat.le_of_ble_eq_true rfl)
  rw [lg_entry_eq]
  generalize (lg_sl ([.ref (ad 0), .int (nI q)]) ++ List.replicate (6 - (lg_sl ([.ref (ad 0), .int (nI q)])).length) Slot.unset).toArray = ls at hl ⊢
  have hl : lv_has ls 6 [(0, .ref (ad 0)), (1, .int (nI q))] := hl
  have inX7 : ∀ w ∈ u_ws RX7 TX7 29, w ∈ wsX7_send := by decide +kernel
  rw [mSend_eq hr0 hr2 hn hn2 ht ht2]
  obtain ⟨k, hk⟩ : ∃ k, k = 12 * (1 - q) + r := ⟨_, rfl⟩
  obtain ⟨cn, hcn⟩ : ∃ cn, cn = min 16 (n - t) := ⟨_, rfl⟩
  have hcn2 : cn ≤ n - t := by omega
  refine lv_iconst (v := nI 1) hx hb dX7_send_0 (by decide) ?_
  refine lv_iload_n hx hb dX7_send_1 rfl (lv_at hl 1 rfl) ?_
  refine n_sub hx hb (by omega) dX7_send_2 ?_
  refine lv_istore_n (lv' := [(2, .int (nI (1 - q))), (0, .ref (ad 0)), (1, .int (nI q))]) hx hb dX7_send_3 rfl hl (by decide) rfl (fun ls hl => ?_)
  refine lv_aload_n hx hb dX7_send_4 rfl (lv_at hl 1 rfl) ?_
  refine m_get hx hb hts inX7 hown hK hP (ci := 7) rfl (k := 0) (by decide) rfl 19 (by decide) (hts (.fieldLink RX7 65 "RollbackPairModel" "rows" "[I") (by decide +kernel)) rfl dX7_send_5 ?_
  refine lv_iload_n hx hb dX7_send_8 rfl (lv_at hl 0 rfl) ?_
  refine m_iald hx hb hK hP (k := 18) (by decide) (f := (S.1 19)) rfl (i := 1 - q) (by omega) (by decide) dX7_send_9 ?_
  refine n_val hr0 ?_
  refine lv_bipush (v := nI 12) hx hb dX7_send_10 (by decide) ?_
  refine n_cmp_ge (tgt := 218) hx hb dX7_send_12 (by decide) (by omega) (by omega) (fun c1 => ?_) (fun c1 => ?_)
  · refine lv_aload_n hx hb dX7_send_218 rfl (lv_at hl 1 rfl) ?_
    refine m_get hx hb hts inX7 hown hK hP (ci := 7) rfl (k := 0) (by decide) rfl 8 (by decide) (hts (.fieldLink RX7 30 "RollbackPairModel" "number" "[S") (by decide +kernel)) rfl dX7_send_219 ?_
    refine lv_iload_n hx hb dX7_send_222 rfl (lv_at hl 2 rfl) ?_
    refine lv_dup2_11 hx hb dX7_send_223 rfl rfl ?_
    refine m_sald hx hb hK hP (k := 7) (by decide) (f := (S.1 8)) rfl (i := q) (by omega) (by decide) dX7_send_224 ?_
    refine lv_iconst (v := nI 1) hx hb dX7_send_225 (by decide) ?_
    refine lv_iadd hx hb dX7_send_226 ?_
    refine lv_i2s hx hb dX7_send_227 rfl ?_
    refine m_sast hx hb hK hP hJ hS (k := 7) (by decide) (f := (S.1 8)) rfl (i := q) (y := (S.1 8 q + nI 1).toInt16.toInt32) (by omega) (by decide) (pk_vs _) dX7_send_228 (fun H locs hP hS => ?_)
    rw [mm_up8] at hP
    exact r_v hx hb hr hlocks hK hP hS dX7_send_229 (by rw [if_neg (by omega)]; rfl)
  · refine lv_bipush (v := nI 12) hx hb dX7_send_15 (by decide) ?_
    refine lv_iload_n hx hb dX7_send_17 rfl (lv_at hl 0 rfl) ?_
    refine n_mul hx hb dX7_send_18 ?_
    refine lv_aload_n hx hb dX7_send_19 rfl (lv_at hl 1 rfl) ?_
    refine m_get hx hb hts inX7 hown hK hP (ci := 7) rfl (k := 0) (by decide) rfl 19 (by decide) (hts (.fieldLink RX7 65 "RollbackPairModel" "rows" "[I") (by decide +kernel)) rfl dX7_send_20 ?_
    refine lv_iload_n hx hb dX7_send_23 rfl (lv_at hl 0 rfl) ?_
    refine m_iald hx hb hK hP (k := 18) (by decide) (f := (S.1 19)) rfl (i := 1 - q) (by omega) (by decide) dX7_send_24 ?_
    refine n_val hr0 ?_
    refine n_add hx hb dX7_send_25 ?_
    refine n_val (congrArg nI hk.symm) ?_
    have hk2 : k < 24 := by omega
    refine lv_istore_n (lv' := [(3, .int (nI k)), (2, .int (nI (1 - q))), (0, .ref (ad 0)), (1, .int (nI q))]) hx hb dX7_send_26 rfl hl (by decide) rfl (fun ls hl => ?_)
    refine lv_aload_n hx hb dX7_send_27 rfl (lv_at hl 2 rfl) ?_
    refine m_get hx hb hts inX7 hown hK hP (ci := 7) rfl (k := 0) (by decide) rfl 12 (by decide) (hts (.fieldLink RX7 43 "RollbackPairModel" "known" "[I") (by decide +kernel)) rfl dX7_send_28 ?_
    refine lv_iconst (v := nI 2) hx hb dX7_send_31 (by decide) ?_
    refine lv_iload_n hx hb dX7_send_32 rfl (lv_at hl 3 rfl) ?_
    refine n_mul hx hb dX7_send_33 ?_
    refine lv_iload_n hx hb dX7_send_34 rfl (lv_at hl 3 rfl) ?_
    refine n_add hx hb dX7_send_35 ?_
    refine m_iald hx hb hK hP (k := 11) (by decide) (f := (S.1 12)) rfl (i := 2 * q + q) (by omega) (by decide) dX7_send_36 ?_
    refine n_val hn ?_
    refine lv_istore (lv' := [(4, .int (nI n)), (3, .int (nI k)), (2, .int (nI (1 - q))), (0, .ref (ad 0)), (1, .int (nI q))]) hx hb dX7_send_37 hl (by decide) rfl (fun ls hl => ?_)
    refine lv_aload_n hx hb dX7_send_39 rfl (lv_at hl 3 rfl) ?_
    refine m_get hx hb hts inX7 hown hK hP (ci := 7) rfl (k := 0) (by decide) rfl 20 (by decide) (hts (.fieldLink RX7 68 "RollbackPairModel" "pNumber" "[S") (by decide +kernel)) rfl dX7_send_40 ?_
    refine lv_iload_n hx hb dX7_send_43 rfl (lv_at hl 1 rfl) ?_
    refine lv_aload_n hx hb dX7_send_44 rfl (lv_at hl 3 rfl) ?_
    refine m_get hx hb hts inX7 hown hK hP (ci := 7) rfl (k := 0) (by decide) rfl 8 (by decide) (hts (.fieldLink RX7 30 "RollbackPairModel" "number" "[S") (by decide +kernel)) rfl dX7_send_45 ?_
    refine lv_iload_n hx hb dX7_send_48 rfl (lv_at hl 4 rfl) ?_
    refine m_sald hx hb hK hP (k := 7) (by decide) (f := (S.1 8)) rfl (i := q) (by omega) (by decide) dX7_send_49 ?_
    refine m_sast hx hb hK hP hJ hS (k := 19) (by decide) (f := (S.1 20)) rfl (i := k) (y := S.1 8 q) (by omega) (by decide) hsh dX7_send_50 (fun H locs hP hS => ?_)
    rw [mm_up20] at hP
    refine lv_aload_n hx hb dX7_send_51 rfl (lv_at hl 3 rfl) ?_
    refine m_get hx hb hts inX7 hown hK hP (ci := 7) rfl (k := 0) (by decide) rfl 21 (by decide) (hts (.fieldLink RX7 71 "RollbackPairModel" "pFrame" "[I") (by decide +kernel)) rfl dX7_send_52 ?_
    refine lv_iload_n hx hb dX7_send_55 rfl (lv_at hl 1 rfl) ?_
    refine lv_aload_n hx hb dX7_send_56 rfl (lv_at hl 3 rfl) ?_
    refine m_get hx hb hts inX7 hown hK hP (ci := 7) rfl (k := 0) (by decide) rfl 2 (by decide) (hts (.fieldLink RX7 7 "RollbackPairModel" "at" "[I") (by decide +kernel)) rfl dX7_send_57 ?_
    refine lv_iload_n hx hb dX7_send_60 rfl (lv_at hl 4 rfl) ?_
    refine m_iald hx hb hK hP (k := 1) (by decide) (f := (S.1 2)) rfl (i := q) (by omega) (by decide) dX7_send_61 ?_
    refine m_iast hx hb hK hP hJ hS (k := 20) (by decide) (f := (S.1 21)) rfl (i := k) (by omega) (by decide) dX7_send_62 (fun H locs hP hS => ?_)
    rw [mm_up21] at hP
    refine lv_aload_n hx hb dX7_send_63 rfl (lv_at hl 3 rfl) ?_
    refine m_get hx hb hts inX7 hown hK hP (ci := 7) rfl (k := 0) (by decide) rfl 22 (by decide) (hts (.fieldLink RX7 74 "RollbackPairModel" "pAck" "[I") (by decide +kernel)) rfl dX7_send_64 ?_
    refine lv_iload_n hx hb dX7_send_67 rfl (lv_at hl 1 rfl) ?_
    refine lv_aload_n hx hb dX7_send_68 rfl (lv_at hl 3 rfl) ?_
    refine m_get hx hb hts inX7 hown hK hP (ci := 7) rfl (k := 0) (by decide) rfl 12 (by decide) (hts (.fieldLink RX7 43 "RollbackPairModel" "known" "[I") (by decide +kernel)) rfl dX7_send_69 ?_
    refine lv_iconst (v := nI 2) hx hb dX7_send_72 (by decide) ?_
    refine lv_iload_n hx hb dX7_send_73 rfl (lv_at hl 4 rfl) ?_
    refine n_mul hx hb dX7_send_74 ?_
    refine lv_iload_n hx hb dX7_send_75 rfl (lv_at hl 2 rfl) ?_
    refine n_add hx hb dX7_send_76 ?_
    refine m_iald hx hb hK hP (k := 11) (by decide) (f := (S.1 12)) rfl (i := 2 * q + (1 - q)) (by omega) (by decide) dX7_send_77 ?_
    refine m_iast hx hb hK hP hJ hS (k := 21) (by decide) (f := (S.1 22)) rfl (i := k) (by omega) (by decide) dX7_send_78 (fun H locs hP hS => ?_)
    rw [mm_up22] at hP
    refine lv_aload_n hx hb dX7_send_79 rfl (lv_at hl 3 rfl) ?_
    refine m_get hx hb hts inX7 hown hK hP (ci := 7) rfl (k := 0) (by decide) rfl 23 (by decide) (hts (.fieldLink RX7 77 "RollbackPairModel" "pFirst" "[I") (by decide +kernel)) rfl dX7_send_80 ?_
    refine lv_iload_n hx hb dX7_send_83 rfl (lv_at hl 1 rfl) ?_
    refine lv_aload_n hx hb dX7_send_84 rfl (lv_at hl 3 rfl) ?_
    refine m_get hx hb hts inX7 hown hK hP (ci := 7) rfl (k := 0) (by decide) rfl 5 (by decide) (hts (.fieldLink RX7 19 "RollbackPairModel" "told" "[I") (by decide +kernel)) rfl dX7_send_85 ?_
    refine lv_iload_n hx hb dX7_send_88 rfl (lv_at hl 4 rfl) ?_
    refine m_iald hx hb hK hP (k := 4) (by decide) (f := (S.1 5)) rfl (i := q) (by omega) (by decide) dX7_send_89 ?_
    refine m_iast hx hb hK hP hJ hS (k := 22) (by decide) (f := (S.1 23)) rfl (i := k) (by omega) (by decide) dX7_send_90 (fun H locs hP hS => ?_)
    rw [mm_up23] at hP
    refine lv_aload_n hx hb dX7_send_91 rfl (lv_at hl 3 rfl) ?_
    refine m_get hx hb hts inX7 hown hK hP (ci := 7) rfl (k := 0) (by decide) rfl 24 (by decide) (hts (.fieldLink RX7 80 "RollbackPairModel" "pCount" "[I") (by decide +kernel)) rfl dX7_send_92 ?_
    refine lv_iload_n hx hb dX7_send_95 rfl (lv_at hl 1 rfl) ?_
    refine lv_iload hx hb dX7_send_96 (lv_at hl 0 rfl) ?_
    refine lv_aload_n hx hb dX7_send_98 rfl (lv_at hl 3 rfl) ?_
    refine m_get hx hb hts inX7 hown hK hP (ci := 7) rfl (k := 0) (by decide) rfl 5 (by decide) (hts (.fieldLink RX7 19 "RollbackPairModel" "told" "[I") (by decide +kernel)) rfl dX7_send_99 ?_
    refine lv_iload_n hx hb dX7_send_102 rfl (lv_at hl 4 rfl) ?_
    refine m_iald hx hb hK hP (k := 4) (by decide) (f := (S.1 5)) rfl (i := q) (by omega) (by decide) dX7_send_103 ?_
    refine n_val ht ?_
    refine n_sub hx hb ht2 dX7_send_104 ?_
    refine lv_bipush (v := nI 16) hx hb dX7_send_105 (by decide) ?_
    refine jn (fun (_ : Unit) ls => lv_has ls 6 [(3, .int (nI k)), (2, .int (nI (1 - q))), (4, .int (nI n)), (0, .ref (ad 0)), (1, .int (nI q))]) 124 (fun _ => [.int (nI cn), .int (nI k), .ref (ad 23)]) (fun _ ls hl => ?_) (fun J => ?_)
    · refine m_iast hx hb hK hP hJ hS (k := 23) (by decide) (f := (S.1 24)) rfl (i := k) (by omega) (by decide) dX7_send_124 (fun H locs hP hS => ?_)
      rw [mm_up24] at hP
      refine lv_aload_n hx hb dX7_send_125 rfl (lv_at hl 3 rfl) ?_
      refine m_get hx hb hts inX7 hown hK hP (ci := 7) rfl (k := 0) (by decide) rfl 25 (by decide) (hts (.fieldLink RX7 83 "RollbackPairModel" "pBits" "[J") (by decide +kernel)) rfl dX7_send_126 ?_
      refine lv_iload_n hx hb dX7_send_129 rfl (lv_at hl 0 rfl) ?_
      refine lv_lconst (v := 0) hx hb dX7_send_130 (by decide) ?_
      refine m_last hx hb hK hP hJ hS (k := 24) (by decide) (f := S.2.2.1) rfl (i := k) (by omega) (by decide) dX7_send_131 (fun H locs hP hS => ?_)
      rw [mm_up25] at hP
      refine lv_iconst (v := nI 0) hx hb dX7_send_132 (by decide) ?_
      refine lv_istore (lv' := [(5, .int (nI 0)), (3, .int (nI k)), (2, .int (nI (1 - q))), (4, .int (nI n)), (0, .ref (ad 0)), (1, .int (nI q))]) hx hb dX7_send_133 hl (by decide) rfl (fun ls hl => ?_)
      refine lpW (fun i (j : Nat) ls H locs => j ≤ cn ∧ i = cn - j ∧ lv_has ls 6 [(5, .int (nI j)), (3, .int (nI k)), (2, .int (nI (1 - q))), (0, .ref (ad 0)), (1, .int (nI q))] ∧ va_P D vwCl (sg ad 26 (mm ad cs d w (mFill S q k cn (pkB (S.1 10) (1200 * q + 600 * q + t) j)) np ns)) H ∧ va_S (Ad ad 26) s.heap H locs) 135 (fun _ => []) (fun i j ls H locs hC ih => ?_) cn 0 ls _ _ ⟨Nat.zero_le _, rfl, lv_sub hl [0, 1, 2, 4, 5] rfl, hP, hS⟩
      obtain ⟨hj, hi, hl, hP, hS⟩ := hC
      refine lv_iload hx hb dX7_send_135 (lv_at hl 0 rfl) ?_
      refine lv_aload_n hx hb dX7_send_137 rfl (lv_at hl 3 rfl) ?_
      refine m_get hx hb hts inX7 hown hK hP (ci := 7) rfl (k := 0) (by decide) rfl 24 (by decide) (hts (.fieldLink RX7 80 "RollbackPairModel" "pCount" "[I") (by decide +kernel)) rfl dX7_send_138 ?_
      refine lv_iload_n hx hb dX7_send_141 rfl (lv_at hl 1 rfl) ?_
      refine m_iald hx hb hK hP (k := 23) (by decide) (f := (upd (S.1 24) k (nI cn))) rfl (i := k) (by omega) (by decide) dX7_send_142 ?_
      refine n_val (if_pos rfl) ?_
      refine n_cmp_ge (tgt := 197) hx hb dX7_send_143 (by decide) (by omega) (by omega) (fun c3 => ?_) (fun c3 => ?_)
      · have hjc : j = cn := by omega
        subst hjc
        refine lv_aload_n hx hb dX7_send_197 rfl (lv_at hl 3 rfl) ?_
        refine m_get hx hb hts inX7 hown hK hP (ci := 7) rfl (k := 0) (by decide) rfl 26 (by decide) (hts (.fieldLink RX7 87 "RollbackPairModel" "pCheck" "[I") (by decide +kernel)) rfl dX7_send_198 ?_
        refine lv_iload_n hx hb dX7_send_201 rfl (lv_at hl 1 rfl) ?_
        refine lv_aload_n hx hb dX7_send_202 rfl (lv_at hl 3 rfl) ?_
        refine lv_iload_n hx hb dX7_send_203 rfl (lv_at hl 1 rfl) ?_
        refine k_Vi (As := [.int (nI k)]) (rest := [.int (nI k), .ref (ad 25)]) (k := 0) (ci := 7) ⟨hx, hb, hml, hown, hts⟩ hK hP hS Ad_le (c_check l D cs ad hJ d w (mFill S q k j (pkB (S.1 10) (1200 * q + 600 * q + t) j)) np ns k (by omega)) (cwV 1 hts gX7_send_X7_check rfl rfl rfl (by decide +kernel) ⟨Nat.le_of_ble_eq_true rfl, Nat.le_of_ble_eq_true rfl⟩) (by decide) rfl rfl rfl rfl hl.1 (Nat.le_of_ble_eq_true rfl) dX7_send_204 ⟨Nat.le_of_ble_eq_true rfl, Nat.le_of_ble_eq_true rfl⟩ (fun r_1 M1 H locs hpo hP hS _ _ => ?_)
        obtain ⟨rfl, rfl⟩ := hpo
        refine m_iast hx hb hK hP hJ hS (k := 25) (by decide) (f := (S.1 26)) rfl (i := k) (by omega) (by decide) dX7_send_207 (fun H locs hP hS => ?_)
        rw [mm_up26] at hP
        refine lv_aload_n hx hb dX7_send_208 rfl (lv_at hl 3 rfl) ?_
        refine m_get hx hb hts inX7 hown hK hP (ci := 7) rfl (k := 0) (by decide) rfl 19 (by decide) (hts (.fieldLink RX7 65 "RollbackPairModel" "rows" "[I") (by decide +kernel)) rfl dX7_send_209 ?_
        refine lv_iload_n hx hb dX7_send_212 rfl (lv_at hl 2 rfl) ?_
        refine lv_dup2_11 hx hb dX7_send_213 rfl rfl ?_
        refine m_iald hx hb hK hP (k := 18) (by decide) (f := (S.1 19)) rfl (i := 1 - q) (by omega) (by decide) dX7_send_214 ?_
        refine n_val hr0 ?_
        refine lv_iconst (v := nI 1) hx hb dX7_send_215 (by decide) ?_
        refine n_add hx hb dX7_send_216 ?_
        refine m_iast hx hb hK hP hJ hS (k := 18) (by decide) (f := (S.1 19)) rfl (i := 1 - q) (by omega) (by decide) dX7_send_217 (fun H locs hP hS => ?_)
        rw [mm_up19] at hP
        refine lv_aload_n hx hb dX7_send_218 rfl (lv_at hl 3 rfl) ?_
        refine m_get hx hb hts inX7 hown hK hP (ci := 7) rfl (k := 0) (by decide) rfl 8 (by decide) (hts (.fieldLink RX7 30 "RollbackPairModel" "number" "[S") (by decide +kernel)) rfl dX7_send_219 ?_
        refine lv_iload_n hx hb dX7_send_222 rfl (lv_at hl 4 rfl) ?_
        refine lv_dup2_11 hx hb dX7_send_223 rfl rfl ?_
        refine m_sald hx hb hK hP (k := 7) (by decide) (f := (S.1 8)) rfl (i := q) (by omega) (by decide) dX7_send_224 ?_
        refine lv_iconst (v := nI 1) hx hb dX7_send_225 (by decide) ?_
        refine lv_iadd hx hb dX7_send_226 ?_
        refine lv_i2s hx hb dX7_send_227 rfl ?_
        refine m_sast hx hb hK hP hJ hS (k := 7) (by decide) (f := (S.1 8)) rfl (i := q) (y := (S.1 8 q + nI 1).toInt16.toInt32) (by omega) (by decide) (pk_vs _) dX7_send_228 (fun H locs hP hS => ?_)
        rw [mm_up8] at hP
        subst hk
        exact r_v hx hb hr hlocks hK hP hS dX7_send_229 (by rw [if_pos c1, ← hcn]; rfl)
      · refine lv_aload_n hx hb dX7_send_146 rfl (lv_at hl 3 rfl) ?_
        refine m_get hx hb hts inX7 hown hK hP (ci := 7) rfl (k := 0) (by decide) rfl 25 (by decide) (hts (.fieldLink RX7 83 "RollbackPairModel" "pBits" "[J") (by decide +kernel)) rfl dX7_send_147 ?_
        refine lv_iload_n hx hb dX7_send_150 rfl (lv_at hl 1 rfl) ?_
        refine lv_aload_n hx hb dX7_send_151 rfl (lv_at hl 3 rfl) ?_
        refine m_get hx hb hts inX7 hown hK hP (ci := 7) rfl (k := 0) (by decide) rfl 25 (by decide) (hts (.fieldLink RX7 83 "RollbackPairModel" "pBits" "[J") (by decide +kernel)) rfl dX7_send_152 ?_
        refine lv_iload_n hx hb dX7_send_155 rfl (lv_at hl 1 rfl) ?_
        refine m_lald hx hb hK hP (k := 24) (by decide) (f := (vp_updL S.2.2.1 k (pkB (S.1 10) (1200 * q + 600 * q + t) j))) rfl (i := k) (by omega) (by decide) dX7_send_156 ?_
        refine j_val (if_pos rfl) ?_
        refine lv_aload_n hx hb dX7_send_157 rfl (lv_at hl 3 rfl) ?_
        refine m_get hx hb hts inX7 hown hK hP (ci := 7) rfl (k := 0) (by decide) rfl 10 (by decide) (hts (.fieldLink RX7 37 "RollbackPairModel" "input" "[I") (by decide +kernel)) rfl dX7_send_158 ?_
        refine lv_sipush (v := nI 1200) hx hb dX7_send_161 (by decide) ?_
        refine lv_iload_n hx hb dX7_send_164 rfl (lv_at hl 4 rfl) ?_
        refine n_mul hx hb dX7_send_165 ?_
        refine lv_sipush (v := nI 600) hx hb dX7_send_166 (by decide) ?_
        refine lv_iload_n hx hb dX7_send_169 rfl (lv_at hl 4 rfl) ?_
        refine n_mul hx hb dX7_send_170 ?_
        refine n_add hx hb dX7_send_171 ?_
        refine lv_aload_n hx hb dX7_send_172 rfl (lv_at hl 3 rfl) ?_
        refine m_get hx hb hts inX7 hown hK hP (ci := 7) rfl (k := 0) (by decide) rfl 5 (by decide) (hts (.fieldLink RX7 19 "RollbackPairModel" "told" "[I") (by decide +kernel)) rfl dX7_send_173 ?_
        refine lv_iload_n hx hb dX7_send_176 rfl (lv_at hl 4 rfl) ?_
        refine m_iald hx hb hK hP (k := 4) (by decide) (f := (S.1 5)) rfl (i := q) (by omega) (by decide) dX7_send_177 ?_
        refine n_val ht ?_
        refine n_add hx hb dX7_send_178 ?_
        refine lv_iload hx hb dX7_send_179 (lv_at hl 0 rfl) ?_
        refine n_add hx hb dX7_send_181 ?_
        refine m_iald hx hb hK hP (k := 9) (by decide) (f := (S.1 10)) rfl (i := 1200 * q + (600 * q) + t + j) (by omega) (by decide) dX7_send_182 ?_
        refine lv_i2l hx hb dX7_send_183 rfl ?_
        refine lv_iconst (v := nI 3) hx hb dX7_send_184 (by decide) ?_
        refine lv_iload hx hb dX7_send_185 (lv_at hl 0 rfl) ?_
        refine n_mul hx hb dX7_send_187 ?_
        refine lv_lshl hx hb dX7_send_188 rfl ?_
        refine lv_lor hx hb dX7_send_189 ?_
        refine m_last hx hb hK hP hJ hS (k := 24) (by decide) (f := (vp_updL S.2.2.1 k (pkB (S.1 10) (1200 * q + 600 * q + t) j))) rfl (i := k) (by omega) (by decide) dX7_send_190 (fun H locs hP hS => ?_)
        rw [mm_up25] at hP
        refine lv_iinc (v := nI (j + 1)) (lv' := [(5, .int (nI (j + 1))), (3, .int (nI k)), (2, .int (nI (1 - q))), (0, .ref (ad 0)), (1, .int (nI q))]) hx hb dX7_send_191 hl (k := 0) rfl (nI_1 _) (by decide) rfl (fun ls hl => ?_)
        refine lv_goto (tgt := 135) hx hb dX7_send_194 (by decide) ?_
        rw [updL_updL] at hP
        exact ih (cn - (j + 1)) (by omega) (j + 1) ls H locs ⟨by omega, rfl, lv_sub hl [0, 1, 2, 3, 4] rfl, hP, hS⟩
    · refine n_cmp_le (tgt := 115) hx hb dX7_send_107 (by decide) (by omega) (by omega) (fun c2 => ?_) (fun c2 => ?_)
      · refine lv_iload hx hb dX7_send_115 (lv_at hl 0 rfl) ?_
        refine lv_aload_n hx hb dX7_send_117 rfl (lv_at hl 3 rfl) ?_
        refine m_get hx hb hts inX7 hown hK hP (ci := 7) rfl (k := 0) (by decide) rfl 5 (by decide) (hts (.fieldLink RX7 19 "RollbackPairModel" "told" "[I") (by decide +kernel)) rfl dX7_send_118 ?_
        refine lv_iload_n hx hb dX7_send_121 rfl (lv_at hl 4 rfl) ?_
        refine m_iald hx hb hK hP (k := 4) (by decide) (f := (S.1 5)) rfl (i := q) (by omega) (by decide) dX7_send_122 ?_
        refine n_val ht ?_
        refine n_sub hx hb ht2 dX7_send_123 ?_
        refine n_val (show nI (n - t) = nI cn by rw [show cn = n - t by omega]) ?_
        exact J () ls (lv_sub hl [1, 2, 0, 3, 4] rfl)
      · refine lv_bipush (v := nI 16) hx hb dX7_send_110 (by decide) ?_
        refine lv_goto (tgt := 124) hx hb dX7_send_112 (by decide) ?_
        refine n_val (show nI 16 = nI cn by rw [show cn = 16 by omega]) ?_
        exact J () ls (lv_sub hl [1, 2, 0, 3, 4] rfl)
end
section
theorem two_ok {q : Nat} (h : q < 2) : (if nI q = 0 ∨ nI q = 1 then (1 : Int32) else 0) = nI 1 := by
  rcases (show q = 0 ∨ q = 1 by omega) with rfl | rfl <;> decide
/-- the peer has stalled once more -/
def mSt1 (S : SS) (q : Nat) : SS := sI S 3 (upd (S.1 3) q (S.1 3 q + nI 1))
def mCut (S : SS) (q : Nat) : SS := sI (mSt1 S q) 4 (upd (S.1 4) q (S.1 12 (2 * q + (1 - q))))
/-- played again from fr on, where another input was used -/
def mAgain (S : SS) (q a fr : Nat) : SS := mPlays S q (a - mFw S q (a - fr) fr) (mFw S q (a - fr) fr)
def mOwn (dd : Nat) (S : SS) (q a : Nat) (i : Int32) : SS := sI (sI S 10 (upd (S.1 10) (1200 * q + 600 * q + a + dd) i)) 12 (upd (S.1 12) (2 * q + q) (nI (a + dd + 1)))
def mGo (dd : Nat) (S : SS) (q a : Nat) (i : Int32) : SS := sI (mPlay (mOwn dd S q a i) q a) 2 (upd (S.1 2) q (nI (a + 1)))
/-- the peer has to wait -/
abbrev mStall (ww : Nat) (S : SS) (q : Nat) : Prop := ¬ 0 ≤ S.1 4 q ∧ ¬ S.1 2 q - S.1 12 (2 * q + (1 - q)) < nI ww
def mAdv (dd ww : Nat) (S : SS) (q : Nat) (i : Int32) : SS :=
  if mStall ww S q then (if S.1 3 q + nI 1 = nI 12 then mAgain (mCut S q) q (tn (S.1 2 q)) (tn (S.1 12 (2 * q + (1 - q)))) else mSt1 S q)
  else mSend (mGo dd S q (tn (S.1 2 q)) i) q
def rAdv (ww : Nat) (S : SS) (q : Nat) : Int32 := if mStall ww S q then -1 else S.1 2 q
theorem st_le {a n ww : Nat} (ha : a < 2 ^ 30) (hn : n < 2 ^ 30) (hw : ww < 2 ^ 30) : nI a - nI n < nI ww ↔ (a : Int) - n < ww := by
  rw [Int32.lt_iff_toInt_lt, pk_sub_toInt ha hn, nI_toInt (by omega)]
theorem mSend_at (S : SS) (q : Nat) : (mSend S q).1 2 = S.1 2 := by
  unfold mSend
  split <;> rfl
theorem BdAt_of {S S2 : SS} {q f : Nat} (h : S2.2 = S.2) (hb : BdAt S q f) : BdAt S2 q f := by
  unfold BdAt at *
  rw [h]
  exact hb
theorem two_kn {f : Nat → Int32} {q x y : Nat} (hq : q < 2) (h1 : f (2 * q + q) = nI x) (h2 : f (2 * q + (1 - q)) = nI y) (hx : x ≤ 600) (hy : y ≤ 600) : ∃ N0 N1, f (2 * q + 0) = nI N0 ∧ N0 ≤ 600 ∧ f (2 * q + 1) = nI N1 ∧ N1 ≤ 600 := by
  rcases (show q = 0 ∨ q = 1 by omega) with rfl | rfl
  · exact ⟨x, y, h1, hx, h2, hy⟩
  · exact ⟨y, x, h2, hy, h1, hx⟩
set_option maxHeartbeats 4000000 in
set_option maxRecDepth 100000 in
/-- advance, refused -/
theorem c_advance_no (l : Launch) (D : va_G) (cs : Nat → ClassId) (ad : Nat → Nat) (hJ : Inj ad 26) (d w : Int32) (S : SS) (np ns : UInt32) (pe i : Int32) (hno : ¬ (pe = 0 ∨ pe = 1) ∨ i < 0 ∨ ¬ i ≤ nI 7) : CTi l yX7_advance wsX7_advance ({ frames := 1, cells := 0, slots := 0, locals := 20 }) D cs ad 26 (mm ad cs d w S np ns) [.ref (ad 0), .int pe, .int i] (fun r M2 => M2 = (mm ad cs d w S np ns) ∧ r = -2) := by
  refine Met.ofW (cc := cX7_advance) (maxL := 5) (ret := (some .int)) (by decide) rfl ?_
  intro p e s m args below meth c s₁ B hml hv
  obtain ⟨rfl, hP, hK⟩ := hv
  have hx := B.exec
  have hb := B.bytes
  have hr := B.returns
  have hts := atoms_spec (ws := wsX7_advance) B.pre
  have hown : s.vm.findClass RX7 = some m.cls := findClass_of_methodNamed B.named
  have hlocks := B.notSynchronized
  have hS : va_S (Ad ad 26) s.heap s.heap [] := va_S.rf
  have hl := lv_entry ([.ref (ad 0), .int pe, .int i]) (n := 5) (Nat.le_of_ble_eq_true rfl)
  rw [lg_entry_eq]
  generalize (lg_sl ([.ref (ad 0), .int pe, .int i]) ++ List.replicate (5 - (lg_sl ([.ref (ad 0), .int pe, .int i])).length) Slot.unset).toArray = ls at hl ⊢
  have hl : lv_has ls 5 [(0, .ref (ad 0)), (1, .int pe), (2, .int i)] := hl
  have inX7 : ∀ w ∈ u_ws RX7 TX7 29, w ∈ wsX7_advance := fun w h => List.mem_cons_of_mem _ (List.mem_append_right _ h)
  refine lv_iload_n hx hb dX7_advance_0 rfl (lv_at hl 1 rfl) ?_
  refine k_Si (As := [.int pe]) (rest := []) ⟨hx, hb, hml, hown, hts⟩ hK hP hS Ad_le (c_isTwo l D cs ad 26 (mm ad cs d w S np ns) pe) (va_cwS 1 hts gX7_advance_X7_isTwo rfl rfl rfl (by decide +kernel) ⟨Nat.le_of_ble_eq_true rfl, Nat.le_of_ble_eq_true rfl⟩) rfl rfl hl.1 (Nat.le_of_ble_eq_true rfl) dX7_advance_1 ⟨Nat.le_of_ble_eq_true rfl, Nat.le_of_ble_eq_true rfl⟩ (fun r_1 M1 H locs hpo hP hS _ _ => ?_)
  obtain ⟨rfl, rfl⟩ := hpo
  refine lv_if_eq (tgt := 17) hx hb dX7_advance_4 (by decide) (fun c1 => ?_) (fun c1 => ?_)
  · refine lv_bipush (v := (-2)) hx hb dX7_advance_17 (by decide) ?_
    exact r_i hx hb hr hlocks hK hP hS dX7_advance_19 ⟨rfl, rfl⟩
  · refine lv_iload_n hx hb dX7_advance_7 rfl (lv_at hl 2 rfl) ?_
    refine lv_if_lt (tgt := 17) hx hb dX7_advance_8 (by decide) (fun c2 => ?_) (fun c2 => ?_)
    · refine lv_bipush (v := (-2)) hx hb dX7_advance_17 (by decide) ?_
      exact r_i hx hb hr hlocks hK hP hS dX7_advance_19 ⟨rfl, rfl⟩
    · refine lv_iload_n hx hb dX7_advance_11 rfl (lv_at hl 2 rfl) ?_
      refine lv_bipush (v := nI 7) hx hb dX7_advance_12 (by decide) ?_
      refine lv_icmp_le (tgt := 20) hx hb dX7_advance_14 (by decide) (fun c3 => ?_) (fun c3 => ?_)
      · exact absurd hno (fun z => z.elim (fun z => c1 (if_neg z)) (fun z => z.elim c2 (fun z => z c3)))
      · refine lv_bipush (v := (-2)) hx hb dX7_advance_17 (by decide) ?_
        exact r_i hx hb hr hlocks hK hP hS dX7_advance_19 ⟨rfl, rfl⟩
set_option maxHeartbeats 4000000 in
set_option maxRecDepth 100000 in
/-- advance(q, i) -/
theorem c_advance (l : Launch) (D : va_G) (cs : Nat → ClassId) (ad : Nat → Nat) (hJ : Inj ad 26) (dd ww : Nat) (S : SS) (np ns : UInt32) (q a n r t : Nat) (i : Int32) (hq : q < 2) (hdd : dd ≤ 4) (hw1 : 1 ≤ ww) (hw2 : ww ≤ 8) (hat : S.1 2 q = nI a) (ha : a ≤ 590) (hn : S.1 12 (2 * q + (1 - q)) = nI n) (hn2 : n ≤ 598) (ho : S.1 12 (2 * q + q) = nI (a + dd)) (ht : S.1 5 q = nI t) (ht2 : t ≤ a + dd) (hr0 : S.1 19 (1 - q) = nI r) (hr2 : r ≤ 12) (hsh : sh (S.1 8 q)) (hB : ∀ f, f ≤ a → BdAt S q f) (hi1 : ¬ i < 0) (hi2 : i ≤ nI 7) : CTi l yX7_advance wsX7_advance ({ frames := 3, cells := 0, slots := 0, locals := 88 }) D cs ad 26 (mm ad cs (nI dd) (nI ww) S np ns) [.ref (ad 0), .int (nI q), .int i] (fun r M2 => r = rAdv ww S q ∧ ∃ np2 ns2, M2 = mm ad cs (nI dd) (nI ww) (mAdv dd ww S q i) np2 ns2) := by
  refine Met.ofW (cc := cX7_advance) (maxL := 5) (ret := (some .int)) (by decide) rfl ?_
  intro p e s m args below meth c s₁ B hml hv
  obtain ⟨rfl, hP, hK⟩ := hv
  have hx := B.exec
  have hb := B.bytes
  have hr := B.returns
  have hts := atoms_spec (ws := wsX7_advance) B.pre
  have hown : s.vm.findClass RX7 = some m.cls := findClass_of_methodNamed B.named
  have hlocks := B.notSynchronized
  have hS : va_S (Ad ad 26) s.heap s.heap [] := va_S.rf
  have hl := lv_entry ([.ref (ad 0), .int (nI q), .int i]) (n := 5) (Nat.le_of_ble_eq_true rfl)
  rw [lg_entry_eq]
  generalize (lg_sl ([.ref (ad 0), .int (nI q), .int i]) ++ List.replicate (5 - (lg_sl ([.ref (ad 0), .int (nI q), .int i])).length) Slot.unset).toArray = ls at hl ⊢
  have hl : lv_has ls 5 [(0, .ref (ad 0)), (1, .int (nI q)), (2, .int i)] := hl
  have inX7 : ∀ w ∈ u_ws RX7 TX7 29, w ∈ wsX7_advance := fun w h => List.mem_cons_of_mem _ (List.mem_append_right _ h)
  refine lv_iload_n hx hb dX7_advance_0 rfl (lv_at hl 1 rfl) ?_
  refine k_Si (As := [.int (nI q)]) (rest := []) ⟨hx, hb, hml, hown, hts⟩ hK hP hS Ad_le (c_isTwo l D cs ad 26 (mm ad cs (nI dd) (nI ww) S np ns) (nI q)) (va_cwS 1 hts gX7_advance_X7_isTwo rfl rfl rfl (by decide +kernel) ⟨Nat.le_of_ble_eq_true rfl, Nat.le_of_ble_eq_true rfl⟩) rfl rfl hl.1 (Nat.le_of_ble_eq_true rfl) dX7_advance_1 ⟨Nat.le_of_ble_eq_true rfl, Nat.le_of_ble_eq_true rfl⟩ (fun r_1 M1 H locs hpo hP hS _ _ => ?_)
  obtain ⟨rfl, rfl⟩ := hpo
  refine n_val (two_ok hq) ?_
  refine n_if_eq (tgt := 17) hx hb dX7_advance_4 (by decide) (by omega) (fun c_2 => absurd c_2 (by decide)) (fun c_2 => ?_)
  refine lv_iload_n hx hb dX7_advance_7 rfl (lv_at hl 2 rfl) ?_
  refine lv_if_lt (tgt := 17) hx hb dX7_advance_8 (by decide) (fun c2 => absurd c2 hi1) (fun c2 => ?_)
  refine lv_iload_n hx hb dX7_advance_11 rfl (lv_at hl 2 rfl) ?_
  refine lv_bipush (v := nI 7) hx hb dX7_advance_12 (by decide) ?_
  refine lv_icmp_le (tgt := 20) hx hb dX7_advance_14 (by decide) (fun c3 => ?_) (fun c3 => absurd hi2 c3)
  refine lv_iconst (v := nI 1) hx hb dX7_advance_20 (by decide) ?_
  refine lv_iload_n hx hb dX7_advance_21 rfl (lv_at hl 1 rfl) ?_
  refine n_sub hx hb (by omega) dX7_advance_22 ?_
  refine lv_istore_n (lv' := [(3, .int (nI (1 - q))), (0, .ref (ad 0)), (1, .int (nI q)), (2, .int i)]) hx hb dX7_advance_23 rfl hl (by decide) rfl (fun ls hl => ?_)
  refine lv_aload_n hx hb dX7_advance_24 rfl (lv_at hl 1 rfl) ?_
  refine m_get hx hb hts inX7 hown hK hP (ci := 7) rfl (k := 0) (by decide) rfl 4 (by decide) (hts (.fieldLink RX7 16 "RollbackPairModel" "cut" "[I") (by decide +kernel)) rfl dX7_advance_25 ?_
  refine lv_iload_n hx hb dX7_advance_28 rfl (lv_at hl 2 rfl) ?_
  refine m_iald hx hb hK hP (k := 3) (by decide) (f := (S.1 4)) rfl (i := q) (by omega) (by decide) dX7_advance_29 ?_
  refine lv_if_ge (tgt := 109) hx hb dX7_advance_30 (by decide) (fun c4 => ?_) (fun c4 => ?_)
  · refine lv_aload_n hx hb dX7_advance_109 rfl (lv_at hl 1 rfl) ?_
    refine m_get hx hb hts inX7 hown hK hP (ci := 7) rfl (k := 0) (by decide) rfl 10 (by decide) (hts (.fieldLink RX7 37 "RollbackPairModel" "input" "[I") (by decide +kernel)) rfl dX7_advance_110 ?_
    refine lv_sipush (v := nI 1200) hx hb dX7_advance_113 (by decide) ?_
    refine lv_iload_n hx hb dX7_advance_116 rfl (lv_at hl 2 rfl) ?_
    refine n_mul hx hb dX7_advance_117 ?_
    refine lv_sipush (v := nI 600) hx hb dX7_advance_118 (by decide) ?_
    refine lv_iload_n hx hb dX7_advance_121 rfl (lv_at hl 2 rfl) ?_
    refine n_mul hx hb dX7_advance_122 ?_
    refine n_add hx hb dX7_advance_123 ?_
    refine lv_aload_n hx hb dX7_advance_124 rfl (lv_at hl 1 rfl) ?_
    refine m_get hx hb hts inX7 hown hK hP (ci := 7) rfl (k := 0) (by decide) rfl 2 (by decide) (hts (.fieldLink RX7 7 "RollbackPairModel" "at" "[I") (by decide +kernel)) rfl dX7_advance_125 ?_
    refine lv_iload_n hx hb dX7_advance_128 rfl (lv_at hl 2 rfl) ?_
    refine m_iald hx hb hK hP (k := 1) (by decide) (f := (S.1 2)) rfl (i := q) (by omega) (by decide) dX7_advance_129 ?_
    refine n_val hat ?_
    refine n_add hx hb dX7_advance_130 ?_
    refine lv_aload_n hx hb dX7_advance_131 rfl (lv_at hl 1 rfl) ?_
    refine m_get hx hb hts inX7 hown hK hP (ci := 7) rfl (k := 0) (by decide) rfl 0 (by decide) (hts (.fieldLink RX7 90 "RollbackPairModel" "delay" "I") (by decide +kernel)) rfl dX7_advance_132 ?_
    refine n_add hx hb dX7_advance_135 ?_
    refine lv_iload_n hx hb dX7_advance_136 rfl (lv_at hl 3 rfl) ?_
    refine m_iast hx hb hK hP hJ hS (k := 9) (by decide) (f := (S.1 10)) rfl (i := 1200 * q + (600 * q) + a + dd) (by omega) (by decide) dX7_advance_137 (fun H locs hP hS => ?_)
    rw [mm_up10] at hP
    refine lv_aload_n hx hb dX7_advance_138 rfl (lv_at hl 1 rfl) ?_
    refine m_get hx hb hts inX7 hown hK hP (ci := 7) rfl (k := 0) (by decide) rfl 12 (by decide) (hts (.fieldLink RX7 43 "RollbackPairModel" "known" "[I") (by decide +kernel)) rfl dX7_advance_139 ?_
    refine lv_iconst (v := nI 2) hx hb dX7_advance_142 (by decide) ?_
    refine lv_iload_n hx hb dX7_advance_143 rfl (lv_at hl 2 rfl) ?_
    refine n_mul hx hb dX7_advance_144 ?_
    refine lv_iload_n hx hb dX7_advance_145 rfl (lv_at hl 2 rfl) ?_
    refine n_add hx hb dX7_advance_146 ?_
    refine lv_aload_n hx hb dX7_advance_147 rfl (lv_at hl 1 rfl) ?_
    refine m_get hx hb hts inX7 hown hK hP (ci := 7) rfl (k := 0) (by decide) rfl 2 (by decide) (hts (.fieldLink RX7 7 "RollbackPairModel" "at" "[I") (by decide +kernel)) rfl dX7_advance_148 ?_
    refine lv_iload_n hx hb dX7_advance_151 rfl (lv_at hl 2 rfl) ?_
    refine m_iald hx hb hK hP (k := 1) (by decide) (f := (S.1 2)) rfl (i := q) (by omega) (by decide) dX7_advance_152 ?_
    refine n_val hat ?_
    refine lv_aload_n hx hb dX7_advance_153 rfl (lv_at hl 1 rfl) ?_
    refine m_get hx hb hts inX7 hown hK hP (ci := 7) rfl (k := 0) (by decide) rfl 0 (by decide) (hts (.fieldLink RX7 90 "RollbackPairModel" "delay" "I") (by decide +kernel)) rfl dX7_advance_154 ?_
    refine n_add hx hb dX7_advance_157 ?_
    refine lv_iconst (v := nI 1) hx hb dX7_advance_158 (by decide) ?_
    refine n_add hx hb dX7_advance_159 ?_
    refine m_iast hx hb hK hP hJ hS (k := 11) (by decide) (f := (S.1 12)) rfl (i := 2 * q + q) (by omega) (by decide) dX7_advance_160 (fun H locs hP hS => ?_)
    rw [mm_up12] at hP
    refine lv_aload_n hx hb dX7_advance_161 rfl (lv_at hl 1 rfl) ?_
    refine lv_iload_n hx hb dX7_advance_162 rfl (lv_at hl 2 rfl) ?_
    refine lv_aload_n hx hb dX7_advance_163 rfl (lv_at hl 1 rfl) ?_
    refine m_get hx hb hts inX7 hown hK hP (ci := 7) rfl (k := 0) (by decide) rfl 2 (by decide) (hts (.fieldLink RX7 7 "RollbackPairModel" "at" "[I") (by decide +kernel)) rfl dX7_advance_164 ?_
    refine lv_iload_n hx hb dX7_advance_167 rfl (lv_at hl 2 rfl) ?_
    refine m_iald hx hb hK hP (k := 1) (by decide) (f := (S.1 2)) rfl (i := q) (by omega) (by decide) dX7_advance_168 ?_
    refine n_val hat ?_
    obtain ⟨N0, N1, k0, k1, k2, k3⟩ := two_kn (f := (mOwn dd S q a i).1 12) hq (show _ = nI (a + dd + 1) from if_pos rfl) (show _ = nI n from (if_neg (by omega)).trans hn) (by omega) (by omega)
    refine k_Vv (As := [.int (nI q), .int (nI a)]) (rest := []) (k := 0) (ci := 7) ⟨hx, hb, hml, hown, hts⟩ hK hP hS Ad_le (c_play l D cs ad hJ (nI dd) (nI ww) (mOwn dd S q a i) np ns q a N0 N1 hq (by omega) k0 k1 k2 k3 (BdAt_of rfl (hB a (Nat.le_refl a)))) (cwV 2 hts gX7_advance_X7_play rfl rfl rfl (by decide +kernel) ⟨Nat.le_of_ble_eq_true rfl, Nat.le_of_ble_eq_true rfl⟩) (by decide) rfl rfl rfl rfl hl.1 (Nat.le_of_ble_eq_true rfl) dX7_advance_169 ⟨Nat.le_of_ble_eq_true rfl, Nat.le_of_ble_eq_true rfl⟩ (fun M1 H locs hpo hP hS _ _ => ?_)
    obtain ⟨np3, ns3, rfl⟩ := hpo
    refine lv_aload_n hx hb dX7_advance_172 rfl (lv_at hl 1 rfl) ?_
    refine m_get hx hb hts inX7 hown hK hP (ci := 7) rfl (k := 0) (by decide) rfl 2 (by decide) (hts (.fieldLink RX7 7 "RollbackPairModel" "at" "[I") (by decide +kernel)) rfl dX7_advance_173 ?_
    refine lv_iload_n hx hb dX7_advance_176 rfl (lv_at hl 2 rfl) ?_
    refine lv_dup2_11 hx hb dX7_advance_177 rfl rfl ?_
    refine m_iald hx hb hK hP (k := 1) (by decide) (f := (S.1 2)) rfl (i := q) (by omega) (by decide) dX7_advance_178 ?_
    refine n_val hat ?_
    refine lv_iconst (v := nI 1) hx hb dX7_advance_179 (by decide) ?_
    refine n_add hx hb dX7_advance_180 ?_
    refine m_iast hx hb hK hP hJ hS (k := 1) (by decide) (f := (S.1 2)) rfl (i := q) (by omega) (by decide) dX7_advance_181 (fun H locs hP hS => ?_)
    rw [mm_up2] at hP
    refine lv_aload_n hx hb dX7_advance_182 rfl (lv_at hl 1 rfl) ?_
    refine lv_iload_n hx hb dX7_advance_183 rfl (lv_at hl 2 rfl) ?_
    refine k_Vv (As := [.int (nI q)]) (rest := []) (k := 0) (ci := 7) ⟨hx, hb, hml, hown, hts⟩ hK hP hS Ad_le (c_send l D cs ad hJ (nI dd) (nI ww) (mGo dd S q a i) np3 ns3 q r (a + dd + 1) t hq hr0 hr2 (show _ = nI (a + dd + 1) from if_pos rfl) (by omega) ht (by omega) hsh) (cwV 1 hts gX7_advance_X7_send rfl rfl rfl (by decide +kernel) ⟨Nat.le_of_ble_eq_true rfl, Nat.le_of_ble_eq_true rfl⟩) (by decide) rfl rfl rfl rfl hl.1 (Nat.le_of_ble_eq_true rfl) dX7_advance_184 ⟨Nat.le_of_ble_eq_true rfl, Nat.le_of_ble_eq_true rfl⟩ (fun M1 H locs hpo hP hS _ _ => ?_)
    subst hpo
    refine lv_aload_n hx hb dX7_advance_187 rfl (lv_at hl 1 rfl) ?_
    refine m_get hx hb hts inX7 hown hK hP (ci := 7) rfl (k := 0) (by decide) rfl 2 (by decide) (hts (.fieldLink RX7 7 "RollbackPairModel" "at" "[I") (by decide +kernel)) rfl dX7_advance_188 ?_
    refine lv_iload_n hx hb dX7_advance_191 rfl (lv_at hl 2 rfl) ?_
    refine m_iald hx hb hK hP (k := 1) (by decide) (f := ((mSend (mGo dd S q a i) q).1 2)) rfl (i := q) (by omega) (by decide) dX7_advance_192 ?_
    refine n_val (show _ = nI (a + 1) from by rw [mSend_at]; exact if_pos rfl) ?_
    refine lv_iconst (v := nI 1) hx hb dX7_advance_193 (by decide) ?_
    refine n_sub hx hb (by omega) dX7_advance_194 ?_
    have hst : ¬ mStall ww S q := fun z => z.1 c4
    exact r_i hx hb hr hlocks hK hP hS dX7_advance_195 ⟨by unfold rAdv; rw [if_neg hst, hat]; rfl, np3, ns3, by unfold mAdv; rw [if_neg hst, hat, tn_nI (by omega)]⟩
  · refine lv_aload_n hx hb dX7_advance_33 rfl (lv_at hl 1 rfl) ?_
    refine m_get hx hb hts inX7 hown hK hP (ci := 7) rfl (k := 0) (by decide) rfl 2 (by decide) (hts (.fieldLink RX7 7 "RollbackPairModel" "at" "[I") (by decide +kernel)) rfl dX7_advance_34 ?_
    refine lv_iload_n hx hb dX7_advance_37 rfl (lv_at hl 2 rfl) ?_
    refine m_iald hx hb hK hP (k := 1) (by decide) (f := (S.1 2)) rfl (i := q) (by omega) (by decide) dX7_advance_38 ?_
    refine n_val hat ?_
    refine lv_aload_n hx hb dX7_advance_39 rfl (lv_at hl 1 rfl) ?_
    refine m_get hx hb hts inX7 hown hK hP (ci := 7) rfl (k := 0) (by decide) rfl 12 (by decide) (hts (.fieldLink RX7 43 "RollbackPairModel" "known" "[I") (by decide +kernel)) rfl dX7_advance_40 ?_
    refine lv_iconst (v := nI 2) hx hb dX7_advance_43 (by decide) ?_
    refine lv_iload_n hx hb dX7_advance_44 rfl (lv_at hl 2 rfl) ?_
    refine n_mul hx hb dX7_advance_45 ?_
    refine lv_iload_n hx hb dX7_advance_46 rfl (lv_at hl 0 rfl) ?_
    refine n_add hx hb dX7_advance_47 ?_
    refine m_iald hx hb hK hP (k := 11) (by decide) (f := (S.1 12)) rfl (i := 2 * q + (1 - q)) (by omega) (by decide) dX7_advance_48 ?_
    refine n_val hn ?_
    refine lv_isub hx hb dX7_advance_49 ?_
    refine lv_aload_n hx hb dX7_advance_50 rfl (lv_at hl 1 rfl) ?_
    refine m_get hx hb hts inX7 hown hK hP (ci := 7) rfl (k := 0) (by decide) rfl 1 (by decide) (hts (.fieldLink RX7 94 "RollbackPairModel" "window" "I") (by decide +kernel)) rfl dX7_advance_51 ?_
    refine lv_icmp_lt (tgt := 109) hx hb dX7_advance_54 (by decide) (fun c5 => ?_) (fun c5 => ?_)
    · refine lv_aload_n hx hb dX7_advance_109 rfl (lv_at hl 1 rfl) ?_
      refine m_get hx hb hts inX7 hown hK hP (ci := 7) rfl (k := 0) (by decide) rfl 10 (by decide) (hts (.fieldLink RX7 37 "RollbackPairModel" "input" "[I") (by decide +kernel)) rfl dX7_advance_110 ?_
      refine lv_sipush (v := nI 1200) hx hb dX7_advance_113 (by decide) ?_
      refine lv_iload_n hx hb dX7_advance_116 rfl (lv_at hl 2 rfl) ?_
      refine n_mul hx hb dX7_advance_117 ?_
      refine lv_sipush (v := nI 600) hx hb dX7_advance_118 (by decide) ?_
      refine lv_iload_n hx hb dX7_advance_121 rfl (lv_at hl 2 rfl) ?_
      refine n_mul hx hb dX7_advance_122 ?_
      refine n_add hx hb dX7_advance_123 ?_
      refine lv_aload_n hx hb dX7_advance_124 rfl (lv_at hl 1 rfl) ?_
      refine m_get hx hb hts inX7 hown hK hP (ci := 7) rfl (k := 0) (by decide) rfl 2 (by decide) (hts (.fieldLink RX7 7 "RollbackPairModel" "at" "[I") (by decide +kernel)) rfl dX7_advance_125 ?_
      refine lv_iload_n hx hb dX7_advance_128 rfl (lv_at hl 2 rfl) ?_
      refine m_iald hx hb hK hP (k := 1) (by decide) (f := (S.1 2)) rfl (i := q) (by omega) (by decide) dX7_advance_129 ?_
      refine n_val hat ?_
      refine n_add hx hb dX7_advance_130 ?_
      refine lv_aload_n hx hb dX7_advance_131 rfl (lv_at hl 1 rfl) ?_
      refine m_get hx hb hts inX7 hown hK hP (ci := 7) rfl (k := 0) (by decide) rfl 0 (by decide) (hts (.fieldLink RX7 90 "RollbackPairModel" "delay" "I") (by decide +kernel)) rfl dX7_advance_132 ?_
      refine n_add hx hb dX7_advance_135 ?_
      refine lv_iload_n hx hb dX7_advance_136 rfl (lv_at hl 3 rfl) ?_
      refine m_iast hx hb hK hP hJ hS (k := 9) (by decide) (f := (S.1 10)) rfl (i := 1200 * q + (600 * q) + a + dd) (by omega) (by decide) dX7_advance_137 (fun H locs hP hS => ?_)
      rw [mm_up10] at hP
      refine lv_aload_n hx hb dX7_advance_138 rfl (lv_at hl 1 rfl) ?_
      refine m_get hx hb hts inX7 hown hK hP (ci := 7) rfl (k := 0) (by decide) rfl 12 (by decide) (hts (.fieldLink RX7 43 "RollbackPairModel" "known" "[I") (by decide +kernel)) rfl dX7_advance_139 ?_
      refine lv_iconst (v := nI 2) hx hb dX7_advance_142 (by decide) ?_
      refine lv_iload_n hx hb dX7_advance_143 rfl (lv_at hl 2 rfl) ?_
      refine n_mul hx hb dX7_advance_144 ?_
      refine lv_iload_n hx hb dX7_advance_145 rfl (lv_at hl 2 rfl) ?_
      refine n_add hx hb dX7_advance_146 ?_
      refine lv_aload_n hx hb dX7_advance_147 rfl (lv_at hl 1 rfl) ?_
      refine m_get hx hb hts inX7 hown hK hP (ci := 7) rfl (k := 0) (by decide) rfl 2 (by decide) (hts (.fieldLink RX7 7 "RollbackPairModel" "at" "[I") (by decide +kernel)) rfl dX7_advance_148 ?_
      refine lv_iload_n hx hb dX7_advance_151 rfl (lv_at hl 2 rfl) ?_
      refine m_iald hx hb hK hP (k := 1) (by decide) (f := (S.1 2)) rfl (i := q) (by omega) (by decide) dX7_advance_152 ?_
      refine n_val hat ?_
      refine lv_aload_n hx hb dX7_advance_153 rfl (lv_at hl 1 rfl) ?_
      refine m_get hx hb hts inX7 hown hK hP (ci := 7) rfl (k := 0) (by decide) rfl 0 (by decide) (hts (.fieldLink RX7 90 "RollbackPairModel" "delay" "I") (by decide +kernel)) rfl dX7_advance_154 ?_
      refine n_add hx hb dX7_advance_157 ?_
      refine lv_iconst (v := nI 1) hx hb dX7_advance_158 (by decide) ?_
      refine n_add hx hb dX7_advance_159 ?_
      refine m_iast hx hb hK hP hJ hS (k := 11) (by decide) (f := (S.1 12)) rfl (i := 2 * q + q) (by omega) (by decide) dX7_advance_160 (fun H locs hP hS => ?_)
      rw [mm_up12] at hP
      refine lv_aload_n hx hb dX7_advance_161 rfl (lv_at hl 1 rfl) ?_
      refine lv_iload_n hx hb dX7_advance_162 rfl (lv_at hl 2 rfl) ?_
      refine lv_aload_n hx hb dX7_advance_163 rfl (lv_at hl 1 rfl) ?_
      refine m_get hx hb hts inX7 hown hK hP (ci := 7) rfl (k := 0) (by decide) rfl 2 (by decide) (hts (.fieldLink RX7 7 "RollbackPairModel" "at" "[I") (by decide +kernel)) rfl dX7_advance_164 ?_
      refine lv_iload_n hx hb dX7_advance_167 rfl (lv_at hl 2 rfl) ?_
      refine m_iald hx hb hK hP (k := 1) (by decide) (f := (S.1 2)) rfl (i := q) (by omega) (by decide) dX7_advance_168 ?_
      refine n_val hat ?_
      obtain ⟨N0, N1, k0, k1, k2, k3⟩ := two_kn (f := (mOwn dd S q a i).1 12) hq (show _ = nI (a + dd + 1) from if_pos rfl) (show _ = nI n from (if_neg (by omega)).trans hn) (by omega) (by omega)
      refine k_Vv (As := [.int (nI q), .int (nI a)]) (rest := []) (k := 0) (ci := 7) ⟨hx, hb, hml, hown, hts⟩ hK hP hS Ad_le (c_play l D cs ad hJ (nI dd) (nI ww) (mOwn dd S q a i) np ns q a N0 N1 hq (by omega) k0 k1 k2 k3 (BdAt_of rfl (hB a (Nat.le_refl a)))) (cwV 2 hts gX7_advance_X7_play rfl rfl rfl (by decide +kernel) ⟨Nat.le_of_ble_eq_true rfl, Nat.le_of_ble_eq_true rfl⟩) (by decide) rfl rfl rfl rfl hl.1 (Nat.le_of_ble_eq_true rfl) dX7_advance_169 ⟨Nat.le_of_ble_eq_true rfl, Nat.le_of_ble_eq_true rfl⟩ (fun M1 H locs hpo hP hS _ _ => ?_)
      obtain ⟨np3, ns3, rfl⟩ := hpo
      refine lv_aload_n hx hb dX7_advance_172 rfl (lv_at hl 1 rfl) ?_
      refine m_get hx hb hts inX7 hown hK hP (ci := 7) rfl (k := 0) (by decide) rfl 2 (by decide) (hts (.fieldLink RX7 7 "RollbackPairModel" "at" "[I") (by decide +kernel)) rfl dX7_advance_173 ?_
      refine lv_iload_n hx hb dX7_advance_176 rfl (lv_at hl 2 rfl) ?_
      refine lv_dup2_11 hx hb dX7_advance_177 rfl rfl ?_
      refine m_iald hx hb hK hP (k := 1) (by decide) (f := (S.1 2)) rfl (i := q) (by omega) (by decide) dX7_advance_178 ?_
      refine n_val hat ?_
      refine lv_iconst (v := nI 1) hx hb dX7_advance_179 (by decide) ?_
      refine n_add hx hb dX7_advance_180 ?_
      refine m_iast hx hb hK hP hJ hS (k := 1) (by decide) (f := (S.1 2)) rfl (i := q) (by omega) (by decide) dX7_advance_181 (fun H locs hP hS => ?_)
      rw [mm_up2] at hP
      refine lv_aload_n hx hb dX7_advance_182 rfl (lv_at hl 1 rfl) ?_
      refine lv_iload_n hx hb dX7_advance_183 rfl (lv_at hl 2 rfl) ?_
      refine k_Vv (As := [.int (nI q)]) (rest := []) (k := 0) (ci := 7) ⟨hx, hb, hml, hown, hts⟩ hK hP hS Ad_le (c_send l D cs ad hJ (nI dd) (nI ww) (mGo dd S q a i) np3 ns3 q r (a + dd + 1) t hq hr0 hr2 (show _ = nI (a + dd + 1) from if_pos rfl) (by omega) ht (by omega) hsh) (cwV 1 hts gX7_advance_X7_send rfl rfl rfl (by decide +kernel) ⟨Nat.le_of_ble_eq_true rfl, Nat.le_of_ble_eq_true rfl⟩) (by decide) rfl rfl rfl rfl hl.1 (Nat.le_of_ble_eq_true rfl) dX7_advance_184 ⟨Nat.le_of_ble_eq_true rfl, Nat.le_of_ble_eq_true rfl⟩ (fun M1 H locs hpo hP hS _ _ => ?_)
      subst hpo
      refine lv_aload_n hx hb dX7_advance_187 rfl (lv_at hl 1 rfl) ?_
      refine m_get hx hb hts inX7 hown hK hP (ci := 7) rfl (k := 0) (by decide) rfl 2 (by decide) (hts (.fieldLink RX7 7 "RollbackPairModel" "at" "[I") (by decide +kernel)) rfl dX7_advance_188 ?_
      refine lv_iload_n hx hb dX7_advance_191 rfl (lv_at hl 2 rfl) ?_
      refine m_iald hx hb hK hP (k := 1) (by decide) (f := ((mSend (mGo dd S q a i) q).1 2)) rfl (i := q) (by omega) (by decide) dX7_advance_192 ?_
      refine n_val (show _ = nI (a + 1) from by rw [mSend_at]; exact if_pos rfl) ?_
      refine lv_iconst (v := nI 1) hx hb dX7_advance_193 (by decide) ?_
      refine n_sub hx hb (by omega) dX7_advance_194 ?_
      have hst : ¬ mStall ww S q := fun z => z.2 (by rw [hat, hn]; exact c5)
      exact r_i hx hb hr hlocks hK hP hS dX7_advance_195 ⟨by unfold rAdv; rw [if_neg hst, hat]; rfl, np3, ns3, by unfold mAdv; rw [if_neg hst, hat, tn_nI (by omega)]⟩
    · refine lv_aload_n hx hb dX7_advance_57 rfl (lv_at hl 1 rfl) ?_
      refine m_get hx hb hts inX7 hown hK hP (ci := 7) rfl (k := 0) (by decide) rfl 3 (by decide) (hts (.fieldLink RX7 13 "RollbackPairModel" "stalls" "[I") (by decide +kernel)) rfl dX7_advance_58 ?_
      refine lv_iload_n hx hb dX7_advance_61 rfl (lv_at hl 2 rfl) ?_
      refine lv_dup2_11 hx hb dX7_advance_62 rfl rfl ?_
      refine m_iald hx hb hK hP (k := 2) (by decide) (f := (S.1 3)) rfl (i := q) (by omega) (by decide) dX7_advance_63 ?_
      refine lv_iconst (v := nI 1) hx hb dX7_advance_64 (by decide) ?_
      refine lv_iadd hx hb dX7_advance_65 ?_
      refine m_iast hx hb hK hP hJ hS (k := 2) (by decide) (f := (S.1 3)) rfl (i := q) (by omega) (by decide) dX7_advance_66 (fun H locs hP hS => ?_)
      rw [mm_up3] at hP
      refine lv_aload_n hx hb dX7_advance_67 rfl (lv_at hl 1 rfl) ?_
      refine m_get hx hb hts inX7 hown hK hP (ci := 7) rfl (k := 0) (by decide) rfl 3 (by decide) (hts (.fieldLink RX7 13 "RollbackPairModel" "stalls" "[I") (by decide +kernel)) rfl dX7_advance_68 ?_
      refine lv_iload_n hx hb dX7_advance_71 rfl (lv_at hl 2 rfl) ?_
      refine m_iald hx hb hK hP (k := 2) (by decide) (f := (upd (S.1 3) q (((S.1 3) q) + (nI 1)))) rfl (i := q) (by omega) (by decide) dX7_advance_72 ?_
      refine n_val (show _ = S.1 3 q + nI 1 from if_pos rfl) ?_
      refine lv_bipush (v := nI 12) hx hb dX7_advance_73 (by decide) ?_
      refine lv_icmp_ne (tgt := 107) hx hb dX7_advance_75 (by decide) (fun c6 => ?_) (fun c6 => ?_)
      · refine lv_iconst (v := (-1)) hx hb dX7_advance_107 (by decide) ?_
        have hst : mStall ww S q := ⟨c4, by rw [hat, hn]; exact c5⟩
        exact r_i hx hb hr hlocks hK hP hS dX7_advance_108 ⟨by unfold rAdv; rw [if_pos hst], np, ns, by unfold mAdv; rw [if_pos hst, if_neg c6]; rfl⟩
      · refine lv_aload_n hx hb dX7_advance_78 rfl (lv_at hl 1 rfl) ?_
        refine m_get hx hb hts inX7 hown hK hP (ci := 7) rfl (k := 0) (by decide) rfl 4 (by decide) (hts (.fieldLink RX7 16 "RollbackPairModel" "cut" "[I") (by decide +kernel)) rfl dX7_advance_79 ?_
        refine lv_iload_n hx hb dX7_advance_82 rfl (lv_at hl 2 rfl) ?_
        refine lv_aload_n hx hb dX7_advance_83 rfl (lv_at hl 1 rfl) ?_
        refine m_get hx hb hts inX7 hown hK hP (ci := 7) rfl (k := 0) (by decide) rfl 12 (by decide) (hts (.fieldLink RX7 43 "RollbackPairModel" "known" "[I") (by decide +kernel)) rfl dX7_advance_84 ?_
        refine lv_iconst (v := nI 2) hx hb dX7_advance_87 (by decide) ?_
        refine lv_iload_n hx hb dX7_advance_88 rfl (lv_at hl 2 rfl) ?_
        refine n_mul hx hb dX7_advance_89 ?_
        refine lv_iload_n hx hb dX7_advance_90 rfl (lv_at hl 0 rfl) ?_
        refine n_add hx hb dX7_advance_91 ?_
        refine m_iald hx hb hK hP (k := 11) (by decide) (f := (S.1 12)) rfl (i := 2 * q + (1 - q)) (by omega) (by decide) dX7_advance_92 ?_
        refine n_val hn ?_
        refine m_iast hx hb hK hP hJ hS (k := 3) (by decide) (f := (S.1 4)) rfl (i := q) (by omega) (by decide) dX7_advance_93 (fun H locs hP hS => ?_)
        rw [mm_up4] at hP
        refine lv_aload_n hx hb dX7_advance_94 rfl (lv_at hl 1 rfl) ?_
        refine lv_iload_n hx hb dX7_advance_95 rfl (lv_at hl 2 rfl) ?_
        refine lv_aload_n hx hb dX7_advance_96 rfl (lv_at hl 1 rfl) ?_
        refine m_get hx hb hts inX7 hown hK hP (ci := 7) rfl (k := 0) (by decide) rfl 4 (by decide) (hts (.fieldLink RX7 16 "RollbackPairModel" "cut" "[I") (by decide +kernel)) rfl dX7_advance_97 ?_
        refine lv_iload_n hx hb dX7_advance_100 rfl (lv_at hl 2 rfl) ?_
        refine m_iald hx hb hK hP (k := 3) (by decide) (f := (upd (S.1 4) q (nI n))) rfl (i := q) (by omega) (by decide) dX7_advance_101 ?_
        refine n_val (show _ = nI n from if_pos rfl) ?_
        have hc5 : ¬ ((a : Int) - n < ww) := fun z => c5 ((st_le (by omega) (by omega) (by omega)).mpr z)
        have hS2 : mCut S q = sI (sI S 3 (upd (S.1 3) q (S.1 3 q + nI 1))) 4 (upd (S.1 4) q (nI n)) := by unfold mCut mSt1; rw [hn]
        rw [← hS2] at hP
        obtain ⟨N0, N1, k0, k1, k2, k3⟩ := two_kn (f := (mCut S q).1 12) hq ho hn (by omega) (by omega)
        refine k_Vi (As := [.int (nI q), .int (nI n)]) (rest := []) (k := 0) (ci := 7) ⟨hx, hb, hml, hown, hts⟩ hK hP hS Ad_le (c_again l D cs ad hJ (nI dd) (nI ww) (mCut S q) np ns q n a N0 N1 hq hat (by omega) (by omega) k0 k1 k2 k3 (fun f hf => BdAt_of rfl (hB f hf))) (cwV 2 hts gX7_advance_X7_again rfl rfl rfl (by decide +kernel) ⟨Nat.le_of_ble_eq_true rfl, Nat.le_of_ble_eq_true rfl⟩) (by decide) rfl rfl rfl rfl hl.1 (Nat.le_of_ble_eq_true rfl) dX7_advance_102 ⟨Nat.le_of_ble_eq_true rfl, Nat.le_of_ble_eq_true rfl⟩ (fun r_7 M1 H locs hpo hP hS _ _ => ?_)
        obtain ⟨-, np3, ns3, rfl⟩ := hpo
        refine lv_istore (lv' := [(4, .int r_7), (3, .int (nI (1 - q))), (0, .ref (ad 0)), (1, .int (nI q)), (2, .int i)]) hx hb dX7_advance_105 hl (by decide) rfl (fun ls hl => ?_)
        refine lv_iconst (v := (-1)) hx hb dX7_advance_107 (by decide) ?_
        have hst : mStall ww S q := ⟨c4, by rw [hat, hn]; exact c5⟩
        exact r_i hx hb hr hlocks hK hP hS dX7_advance_108 ⟨by unfold rAdv; rw [if_pos hst], np3, ns3, by unfold mAdv; rw [if_pos hst, if_pos c6, hat, hn, tn_nI (by omega), tn_nI (by omega)]; rfl⟩
end
section
/-- the first frame from f on, within c frames, whose input of the other one isn't the one that was used -/
def mRf (S : SS) (q : Nat) : Nat → Nat → Nat
  | 0, f => f
  | c + 1, f => if S.1 11 (1200 * q + 600 * (1 - q) + f) = S.1 10 (1200 * q + 600 * (1 - q) + f) then mRf S q c (f + 1) else f
theorem mRf_s (S : SS) (q c f : Nat) : mRf S q (c + 1) f = if S.1 11 (1200 * q + 600 * (1 - q) + f) = S.1 10 (1200 * q + 600 * (1 - q) + f) then mRf S q c (f + 1) else f := rfl
def rRep (S : SS) (q a f0 n : Nat) : Int32 := if mRf S q (min n a - f0) f0 < min n a then nI (a - mFw S q (a - mRf S q (min n a - f0) f0) (mRf S q (min n a - f0) f0)) else nI 0
def mRep (S : SS) (q a f0 n : Nat) : SS := if mRf S q (min n a - f0) f0 < min n a then mAgain S q a (mRf S q (min n a - f0) f0) else S
set_option maxHeartbeats 4000000 in
set_option maxRecDepth 100000 in
/-- replay(q, f0) -/
theorem c_replay (l : Launch) (D : va_G) (cs : Nat → ClassId) (ad : Nat → Nat) (hJ : Inj ad 26) (d w : Int32) (S : SS) (np ns : UInt32) (q f0 a n o : Nat) (hq : q < 2) (hat : S.1 2 q = nI a) (ha : a ≤ 590) (hn : S.1 12 (2 * q + (1 - q)) = nI n) (hn2 : n ≤ 600) (ho : S.1 12 (2 * q + q) = nI o) (ho2 : o ≤ 600) (hf0 : f0 ≤ 600) (hB : ∀ f, f ≤ a → BdAt S q f) : CTi l yX7_replay wsX7_replay ({ frames := 3, cells := 0, slots := 0, locals := 88 }) D cs ad 26 (mm ad cs d w S np ns) [.ref (ad 0), .int (nI q), .int (nI f0)] (fun r M2 => r = rRep S q a f0 n ∧ ∃ np2 ns2, M2 = mm ad cs d w (mRep S q a f0 n) np2 ns2) := by
  refine Met.ofW (cc := cX7_replay) (maxL := 5) (ret := (some .int)) (by decide) rfl ?_
  intro p e s m args below meth c s₁ B hml hv
  obtain ⟨rfl, hP, hK⟩ := hv
  have hx := B.exec
  have hb := B.bytes
  have hr := B.returns
  have hts := atoms_spec (ws := wsX7_replay) B.pre
  have hown : s.vm.findClass RX7 = some m.cls := findClass_of_methodNamed B.named
  have hlocks := B.notSynchronized
  have hS : va_S (Ad ad 26) s.heap s.heap [] := va_S.rf
  have hl := lv_entry ([.ref (ad 0), .int (nI q), .int (nI f0)]) (n := 5) (Nat.le_of_ble_eq_true rfl)
  rw [lg_entry_eq]
  generalize (lg_sl ([.ref (ad 0), .int (nI q), .int (nI f0)]) ++ List.replicate (5 - (lg_sl ([.ref (ad 0), .int (nI q), .int (nI f0)])).length) Slot.unset).toArray = ls at hl ⊢
  have hl : lv_has ls 5 [(0, .ref (ad 0)), (1, .int (nI q)), (2, .int (nI f0))] := hl
  have inX7 : ∀ w ∈ u_ws RX7 TX7 29, w ∈ wsX7_replay := fun w h => List.mem_cons_of_mem _ (List.mem_append_right _ h)
  obtain ⟨N0, N1, k0, k1, k2, k3⟩ := two_kn (f := S.1 12) hq ho hn ho2 hn2
  unfold rRep mRep
  generalize hG : mRf S q (min n a - f0) f0 = G
  refine lv_iconst (v := nI 1) hx hb dX7_replay_0 (by decide) ?_
  refine lv_iload_n hx hb dX7_replay_1 rfl (lv_at hl 1 rfl) ?_
  refine n_sub hx hb (by omega) dX7_replay_2 ?_
  refine lv_istore_n (lv' := [(3, .int (nI (1 - q))), (0, .ref (ad 0)), (1, .int (nI q)), (2, .int (nI f0))]) hx hb dX7_replay_3 rfl hl (by decide) rfl (fun ls hl => ?_)
  refine lv_iload_n hx hb dX7_replay_4 rfl (lv_at hl 3 rfl) ?_
  refine lv_istore (lv' := [(4, .int (nI f0)), (3, .int (nI (1 - q))), (0, .ref (ad 0)), (1, .int (nI q)), (2, .int (nI f0))]) hx hb dX7_replay_5 hl (by decide) rfl (fun ls hl => ?_)
  refine lpW (fun k (f : Nat) ls H locs => f ≤ 600 ∧ k = 600 - f ∧ mRf S q (min n a - f) f = G ∧ lv_has ls 5 [(4, .int (nI f)), (3, .int (nI (1 - q))), (0, .ref (ad 0)), (1, .int (nI q))] ∧ va_P D vwCl (sg ad 26 (mm ad cs d w S np ns)) H ∧ va_S (Ad ad 26) s.heap H locs) 7 (fun _ => []) (fun k f ls H locs hC ih => ?_) (600 - f0) f0 ls _ _ ⟨hf0, rfl, hG, lv_sub hl [0, 1, 2, 3] rfl, hP, hS⟩
  obtain ⟨hf, hk, hGf, hl, hP, hS⟩ := hC
  refine lv_iload hx hb dX7_replay_7 (lv_at hl 0 rfl) ?_
  refine lv_aload_n hx hb dX7_replay_9 rfl (lv_at hl 2 rfl) ?_
  refine m_get hx hb hts inX7 hown hK hP (ci := 7) rfl (k := 0) (by decide) rfl 12 (by decide) (hts (.fieldLink RX7 43 "RollbackPairModel" "known" "[I") (by decide +kernel)) rfl dX7_replay_10 ?_
  refine lv_iconst (v := nI 2) hx hb dX7_replay_13 (by decide) ?_
  refine lv_iload_n hx hb dX7_replay_14 rfl (lv_at hl 3 rfl) ?_
  refine n_mul hx hb dX7_replay_15 ?_
  refine lv_iload_n hx hb dX7_replay_16 rfl (lv_at hl 1 rfl) ?_
  refine n_add hx hb dX7_replay_17 ?_
  refine m_iald hx hb hK hP (k := 11) (by decide) (f := (S.1 12)) rfl (i := 2 * q + (1 - q)) (by omega) (by decide) dX7_replay_18 ?_
  refine n_val hn ?_
  refine n_cmp_ge (tgt := 88) hx hb dX7_replay_19 (by decide) (by omega) (by omega) (fun c1 => ?_) (fun c1 => ?_)
  · refine lv_iconst (v := nI 0) hx hb dX7_replay_88 (by decide) ?_
    have hfG : G = f := by rw [← hGf, show min n a - f = 0 by omega]; rfl
    exact r_i hx hb hr hlocks hK hP hS dX7_replay_89 ⟨by rw [if_neg (by omega)], np, ns, by rw [if_neg (by omega)]⟩
  · refine lv_iload hx hb dX7_replay_22 (lv_at hl 0 rfl) ?_
    refine lv_aload_n hx hb dX7_replay_24 rfl (lv_at hl 2 rfl) ?_
    refine m_get hx hb hts inX7 hown hK hP (ci := 7) rfl (k := 0) (by decide) rfl 2 (by decide) (hts (.fieldLink RX7 7 "RollbackPairModel" "at" "[I") (by decide +kernel)) rfl dX7_replay_25 ?_
    refine lv_iload_n hx hb dX7_replay_28 rfl (lv_at hl 3 rfl) ?_
    refine m_iald hx hb hK hP (k := 1) (by decide) (f := (S.1 2)) rfl (i := q) (by omega) (by decide) dX7_replay_29 ?_
    refine n_val hat ?_
    refine n_cmp_ge (tgt := 88) hx hb dX7_replay_30 (by decide) (by omega) (by omega) (fun c2 => ?_) (fun c2 => ?_)
    · refine lv_iconst (v := nI 0) hx hb dX7_replay_88 (by decide) ?_
      have hfG : G = f := by rw [← hGf, show min n a - f = 0 by omega]; rfl
      exact r_i hx hb hr hlocks hK hP hS dX7_replay_89 ⟨by rw [if_neg (by omega)], np, ns, by rw [if_neg (by omega)]⟩
    · refine lv_aload_n hx hb dX7_replay_33 rfl (lv_at hl 2 rfl) ?_
      refine m_get hx hb hts inX7 hown hK hP (ci := 7) rfl (k := 0) (by decide) rfl 11 (by decide) (hts (.fieldLink RX7 40 "RollbackPairModel" "uses" "[I") (by decide +kernel)) rfl dX7_replay_34 ?_
      refine lv_sipush (v := nI 1200) hx hb dX7_replay_37 (by decide) ?_
      refine lv_iload_n hx hb dX7_replay_40 rfl (lv_at hl 3 rfl) ?_
      refine n_mul hx hb dX7_replay_41 ?_
      refine lv_sipush (v := nI 600) hx hb dX7_replay_42 (by decide) ?_
      refine lv_iload_n hx hb dX7_replay_45 rfl (lv_at hl 1 rfl) ?_
      refine n_mul hx hb dX7_replay_46 ?_
      refine n_add hx hb dX7_replay_47 ?_
      refine lv_iload hx hb dX7_replay_48 (lv_at hl 0 rfl) ?_
      refine n_add hx hb dX7_replay_50 ?_
      refine m_iald hx hb hK hP (k := 10) (by decide) (f := (S.1 11)) rfl (i := 1200 * q + (600 * (1 - q)) + f) (by omega) (by decide) dX7_replay_51 ?_
      refine lv_aload_n hx hb dX7_replay_52 rfl (lv_at hl 2 rfl) ?_
      refine m_get hx hb hts inX7 hown hK hP (ci := 7) rfl (k := 0) (by decide) rfl 10 (by decide) (hts (.fieldLink RX7 37 "RollbackPairModel" "input" "[I") (by decide +kernel)) rfl dX7_replay_53 ?_
      refine lv_sipush (v := nI 1200) hx hb dX7_replay_56 (by decide) ?_
      refine lv_iload_n hx hb dX7_replay_59 rfl (lv_at hl 3 rfl) ?_
      refine n_mul hx hb dX7_replay_60 ?_
      refine lv_sipush (v := nI 600) hx hb dX7_replay_61 (by decide) ?_
      refine lv_iload_n hx hb dX7_replay_64 rfl (lv_at hl 1 rfl) ?_
      refine n_mul hx hb dX7_replay_65 ?_
      refine n_add hx hb dX7_replay_66 ?_
      refine lv_iload hx hb dX7_replay_67 (lv_at hl 0 rfl) ?_
      refine n_add hx hb dX7_replay_69 ?_
      refine m_iald hx hb hK hP (k := 9) (by decide) (f := (S.1 10)) rfl (i := 1200 * q + (600 * (1 - q)) + f) (by omega) (by decide) dX7_replay_70 ?_
      refine lv_icmp_eq (tgt := 82) hx hb dX7_replay_71 (by decide) (fun c3 => ?_) (fun c3 => ?_)
      · refine lv_iinc (v := nI (f + 1)) (lv' := [(4, .int (nI (f + 1))), (3, .int (nI (1 - q))), (0, .ref (ad 0)), (1, .int (nI q))]) hx hb dX7_replay_82 hl (k := 0) rfl (nI_1 _) (by decide) rfl (fun ls hl => ?_)
        refine lv_goto (tgt := 7) hx hb dX7_replay_85 (by decide) ?_
        exact ih (600 - (f + 1)) (by omega) (f + 1) ls H locs ⟨by omega, rfl, by rw [← hGf, show min n a - f = (min n a - (f + 1)) + 1 by omega, mRf_s, if_pos c3], lv_sub hl [0, 1, 2, 3] rfl, hP, hS⟩
      · refine lv_aload_n hx hb dX7_replay_74 rfl (lv_at hl 2 rfl) ?_
        refine lv_iload_n hx hb dX7_replay_75 rfl (lv_at hl 3 rfl) ?_
        refine lv_iload hx hb dX7_replay_76 (lv_at hl 0 rfl) ?_
        have hfG : f = G := by rw [← hGf, show min n a - f = (min n a - (f + 1)) + 1 by omega, mRf_s, if_neg c3]
        subst hfG
        refine k_Vi (As := [.int (nI q), .int (nI f)]) (rest := []) (k := 0) (ci := 7) ⟨hx, hb, hml, hown, hts⟩ hK hP hS Ad_le (c_again l D cs ad hJ d w S np ns q f a N0 N1 hq hat (by omega) (by omega) k0 k1 k2 k3 hB) (cwV 2 hts gX7_replay_X7_again rfl rfl rfl (by decide +kernel) ⟨Nat.le_of_ble_eq_true rfl, Nat.le_of_ble_eq_true rfl⟩) (by decide) rfl rfl rfl rfl hl.1 (Nat.le_of_ble_eq_true rfl) dX7_replay_78 ⟨Nat.le_of_ble_eq_true rfl, Nat.le_of_ble_eq_true rfl⟩ (fun r_1 M1 H locs hpo hP hS _ _ => ?_)
        obtain ⟨hr9, np3, ns3, rfl⟩ := hpo
        exact r_i hx hb hr hlocks hK hP hS dX7_replay_81 ⟨by rw [if_pos (by omega)]; exact hr9, np3, ns3, by rw [if_pos (by omega)]; rfl⟩
end
section
/-! deliver -/
theorem mCopy_k {S : SS} {a b j : Nat} (h : j < 20 ∨ 26 < j) : (mCopy S a b).1 j = S.1 j := by
  have h0 : j ≠ 20 ∧ j ≠ 21 ∧ j ≠ 22 ∧ j ≠ 23 ∧ j ≠ 24 ∧ j ≠ 26 := by omega
  simp [mCopy, sI, sB, va_up, h0]
theorem mShift_k : ∀ (n : Nat) (S : SS) (k j : Nat), (j < 20 ∨ 26 < j) → (mShift S n k).1 j = S.1 j
  | 0, _, _, _, _ => rfl
  | n + 1, S, k, j, h => by
    show (mShift (mCopy S (k + 1) k) n (k + 1)).1 j = S.1 j
    rw [mShift_k n _ _ j h, mCopy_k h]
theorem mShift_F : ∀ (n : Nat) (S : SS) (k : Nat), (mShift S n k).2.1 = S.2.1 ∧ (mShift S n k).2.2.2 = S.2.2.2
  | 0, _, _ => ⟨rfl, rfl⟩
  | n + 1, S, k => mShift_F n (mCopy S (k + 1) k) (k + 1)
theorem mShift_sh : ∀ (n : Nat) (S : SS) (k : Nat), (∀ i, sh (S.1 20 i)) → ∀ i, sh ((mShift S n k).1 20 i)
  | 0, _, _, h => h
  | n + 1, S, k, h => mShift_sh n (mCopy S (k + 1) k) (k + 1) (mCopy_sh h)
theorem mTake_k {S : SS} {q j : Nat} (h : j < 19 ∨ 26 < j) : (mTake S q).1 j = S.1 j := by
  unfold mTake
  rw [mShift_k _ _ _ j (by omega)]
  show va_up (mCopy S (12 * q) 24).1 19 _ j = S.1 j
  rw [va_up_ne _ _ (by omega), mCopy_k (by omega)]
theorem mTake_F (S : SS) (q : Nat) : (mTake S q).2.1 = S.2.1 ∧ (mTake S q).2.2.2 = S.2.2.2 := by
  unfold mTake
  have h := mShift_F (tn (S.1 19 q) - 1) (sI (mCopy S (12 * q) 24) 19 (upd (S.1 19) q (nI (tn (S.1 19 q) - 1)))) (12 * q)
  exact ⟨h.1, h.2⟩
theorem mTake_sh {S : SS} {q : Nat} (h : ∀ i, sh (S.1 20 i)) : ∀ i, sh ((mTake S q).1 20 i) := by
  unfold mTake
  exact mShift_sh _ _ _ (mCopy_sh h)
theorem BdAt_F {S S2 : SS} {q f : Nat} (h : S2.2.1 = S.2.1 ∧ S2.2.2.2 = S.2.2.2) (hb : BdAt S q f) : BdAt S2 q f := by
  unfold BdAt at *
  rw [h.1, h.2]
  exact hb
/-- the packet at hand is dropped -/
abbrev dropP (S : SS) (q : Nat) : Prop := ¬ S.1 26 24 = mChk S 24 ∨ 0 ≤ S.1 4 q ∨ (¬ S.1 6 q = 0 ∧ ¬ 0 < (S.1 20 24 - S.1 7 q).toInt16.toInt32)
def avN (S : SS) (q : Nat) : UInt32 := FP.fadd (FP.fmul (S.2.1 9 q) 1061158912) (FP.fmul 1048576000 (FP.i2f (S.1 2 q - S.1 21 24)))
def mTk1 (S : SS) (q : Nat) : SS := sF (sI (sI (sI S 6 (upd (S.1 6) q (nI 1))) 7 (upd (S.1 7) q (S.1 20 24))) 3 (upd (S.1 3) q (nI 0))) 9 (vf_upd (S.2.1 9) q (avN S q))
abbrev ackP (S : SS) (q : Nat) : Prop := ¬ S.1 22 24 ≤ S.1 5 q ∧ ¬ S.1 12 (2 * q + q) < S.1 22 24
def mTold (S : SS) (q : Nat) : SS := if ackP S q then sI S 5 (upd (S.1 5) q (S.1 22 24)) else S
/-- three bits of the inputs -/
def bt3 (x : Int64) (j : Nat) : Int32 := ((x >>> ((nI (3 * j)).toInt64 &&& 63)) &&& (7 : Int64)).toInt32
def mLr1 (S : SS) (q n j : Nat) : SS := sI (sI S 10 (upd (S.1 10) (1200 * q + 600 * (1 - q) + n) (bt3 (S.2.2.1 24) j))) 12 (upd (S.1 12) (2 * q + (1 - q)) (nI (n + 1)))
def mLr (S : SS) (q : Nat) : Nat → Nat → Nat → SS
  | 0, _, _ => S
  | c + 1, n, j => mLr (mLr1 S q n j) q c (n + 1) (j + 1)
/-- how many inputs are learnt -/
def lrN (J mo : Int) (n a : Nat) : Nat := if 0 ≤ J then min (mo - J).toNat (a + 20 - n) else 0
def mo24 (S : SS) : Int32 := if S.1 24 24 ≤ nI 16 then S.1 24 24 else nI 16
theorem mo24_le (S : SS) : (mo24 S).toInt ≤ 16 := by
  unfold mo24
  split
  · rename_i h
    rw [Int32.le_iff_toInt_le] at h
    exact h
  · decide
def lrC (S : SS) (n a : Nat) : Nat := lrN ((n : Int) - (S.1 23 24).toInt) (mo24 S).toInt n a
def mLrn (S : SS) (q n a : Nat) : SS := mLr S q (lrC S n a) n ((n : Int) - (S.1 23 24).toInt).toNat
def rDl (S : SS) (q a n : Nat) : Int32 := if lrC S n a = 0 then nI 0 else rRep (mLrn S q n a) q a n (n + lrC S n a)
def mDl (S : SS) (q a n : Nat) : SS := if lrC S n a = 0 then mLrn S q n a else mRep (mLrn S q n a) q a n (n + lrC S n a)
def mAcc (S : SS) (q : Nat) : SS := mTold (mTk1 S q) q
def rDel2 (S : SS) (q : Nat) : Int32 := if dropP S q then -2 else rDl (mAcc S q) q (tn (S.1 2 q)) (tn (S.1 12 (2 * q + (1 - q))))
def mDel2 (S : SS) (q : Nat) : SS := if dropP S q then S else mDl (mAcc S q) q (tn (S.1 2 q)) (tn (S.1 12 (2 * q + (1 - q))))
def rDel (S : SS) (q : Nat) : Int32 := if S.1 19 q = 0 then -1 else rDel2 (mTake S q) q
def mDel (S : SS) (q : Nat) : SS := if S.1 19 q = 0 then S else mDel2 (mTake S q) q
theorem mTold_k {S : SS} {q j : Nat} (h : j ≠ 5) : (mTold S q).1 j = S.1 j := by
  unfold mTold
  split
  · exact va_up_ne _ _ h
  · rfl
theorem mTold_2 (S : SS) (q : Nat) : (mTold S q).2 = S.2 := by
  unfold mTold
  split <;> rfl
theorem mTk1_k {S : SS} {q j : Nat} (h : j ≠ 6 ∧ j ≠ 7 ∧ j ≠ 3) : (mTk1 S q).1 j = S.1 j := by
  simp [mTk1, sI, sF, va_up, h]
theorem mAcc_k {S : SS} {q j : Nat} (h : j ≠ 3 ∧ j ≠ 5 ∧ j ≠ 6 ∧ j ≠ 7) : (mAcc S q).1 j = S.1 j := by
  unfold mAcc
  rw [mTold_k h.2.1, mTk1_k (by omega)]
theorem mAcc_Bd {S : SS} {q x f : Nat} (h : BdAt S x f) : BdAt (mAcc S q) x f := by
  have e := mTold_2 (mTk1 S q) q
  have h2 : BdAt (mTk1 S q) x f := h
  exact BdAt_of e h2
theorem mLr_k {q : Nat} (hq : q < 2) : ∀ (c : Nat) (S : SS) (n j : Nat), S.1 12 (2 * q + (1 - q)) = nI n → (mLr S q c n j).1 12 (2 * q + (1 - q)) = nI (n + c) ∧ (∀ k, k ≠ 10 → k ≠ 12 → (mLr S q c n j).1 k = S.1 k) ∧ (mLr S q c n j).1 12 (2 * q + q) = S.1 12 (2 * q + q) ∧ (mLr S q c n j).2 = S.2
  | 0, S, n, j, h => ⟨h, fun _ _ _ => rfl, rfl, rfl⟩
  | c + 1, S, n, j, h => by
    have ih := mLr_k hq c (mLr1 S q n j) (n + 1) (j + 1) (if_pos rfl)
    show (mLr (mLr1 S q n j) q c (n + 1) (j + 1)).1 12 (2 * q + (1 - q)) = nI (n + (c + 1)) ∧ (∀ k, k ≠ 10 → k ≠ 12 → (mLr (mLr1 S q n j) q c (n + 1) (j + 1)).1 k = S.1 k) ∧ (mLr (mLr1 S q n j) q c (n + 1) (j + 1)).1 12 (2 * q + q) = S.1 12 (2 * q + q) ∧ (mLr (mLr1 S q n j) q c (n + 1) (j + 1)).2 = S.2
    obtain ⟨a1, a2, a3, a4⟩ := ih
    refine ⟨by rw [a1]; congr 1; omega, fun k h1 h2 => ?_, ?_, by rw [a4]; rfl⟩
    · rw [a2 k h1 h2]
      simp [mLr1, sI, va_up, h1, h2]
    · rw [a3]
      show upd (S.1 12) (2 * q + (1 - q)) _ (2 * q + q) = _
      exact if_neg (by omega)
theorem lv_sub64 {n : Nat} (hn : n ≤ 1000) (x : Int32) : ((nI n).toInt64 - x.toInt64).toInt = (n : Int) - x.toInt := by
  have h1 := x.toInt_lt
  have h2 := x.le_toInt
  rw [FP.Core.int64_sub] <;> rw [Int32.toInt_toInt64, Int32.toInt_toInt64, nI_toInt (by omega)] <;> omega
set_option maxHeartbeats 4000000 in
set_option maxRecDepth 100000 in
/-- deliver: no such peer -/
theorem c_deliver_no (l : Launch) (D : va_G) (cs : Nat → ClassId) (ad : Nat → Nat) (hJ : Inj ad 26) (d w : Int32) (S : SS) (np ns : UInt32) (pe : Int32) (hno : ¬ (pe = 0 ∨ pe = 1)) : CTi l yX7_deliver wsX7_deliver ({ frames := 1, cells := 0, slots := 0, locals := 20 }) D cs ad 26 (mm ad cs d w S np ns) [.ref (ad 0), .int pe] (fun r M2 => M2 = (mm ad cs d w S np ns) ∧ r = -1) := by
  refine Met.ofW (cc := cX7_deliver) (maxL := 8) (ret := (some .int)) (by decide) rfl ?_
  intro p e s m args below meth c s₁ B hml hv
  obtain ⟨rfl, hP, hK⟩ := hv
  have hx := B.exec
  have hb := B.bytes
  have hr := B.returns
  have hts := atoms_spec (ws := wsX7_deliver) B.pre
  have hown : s.vm.findClass RX7 = some m.cls := findClass_of_methodNamed B.named
  have hlocks := B.notSynchronized
  have hS : va_S (Ad ad 26) s.heap s.heap [] := va_S.rf
  have hl := lv_entry ([.ref (ad 0), .int pe]) (n := 8) (Nat.le_of_ble_eq_true rfl)
  rw [lg_entry_eq]
  generalize (lg_sl ([.ref (ad 0), .int pe]) ++ List.replicate (8 - (lg_sl ([.ref (ad 0), .int pe])).length) Slot.unset).toArray = ls at hl ⊢
  have hl : lv_has ls 8 [(0, .ref (ad 0)), (1, .int pe)] := hl
  have inX7 : ∀ w ∈ u_ws RX7 TX7 29, w ∈ wsX7_deliver := fun w h => List.mem_cons_of_mem _ (List.mem_append_right _ h)
  refine lv_iload_n hx hb dX7_deliver_0 rfl (lv_at hl 1 rfl) ?_
  refine k_Si (As := [.int pe]) (rest := []) ⟨hx, hb, hml, hown, hts⟩ hK hP hS Ad_le (c_isTwo l D cs ad 26 (mm ad cs d w S np ns) pe) (va_cwS 1 hts gX7_deliver_X7_isTwo rfl rfl rfl (by decide +kernel) ⟨Nat.le_of_ble_eq_true rfl, Nat.le_of_ble_eq_true rfl⟩) rfl rfl hl.1 (Nat.le_of_ble_eq_true rfl) dX7_deliver_1 ⟨Nat.le_of_ble_eq_true rfl, Nat.le_of_ble_eq_true rfl⟩ (fun r_1 M1 H locs hpo hP hS _ _ => ?_)
  obtain ⟨rfl, rfl⟩ := hpo
  refine lv_if_eq (tgt := 16) hx hb dX7_deliver_4 (by decide) (fun c1 => ?_) (fun c1 => absurd (if_neg hno) c1)
  refine lv_iconst (v := (-1)) hx hb dX7_deliver_16 (by decide) ?_
  exact r_i hx hb hr hlocks hK hP hS dX7_deliver_17 ⟨rfl, rfl⟩
end
section
set_option maxHeartbeats 4000000 in
set_option maxRecDepth 100000 in
/-- deliver(q) -/
theorem c_deliver (l : Launch) (D : va_G) (cs : Nat → ClassId) (ad : Nat → Nat) (hJ : Inj ad 26) (d w : Int32) (S : SS) (np ns : UInt32) (q a n o r : Nat) (hq : q < 2) (hr0 : S.1 19 q = nI r) (hr2 : r ≤ 12) (hsh : ∀ i, sh (S.1 20 i)) (hat : S.1 2 q = nI a) (ha : a ≤ 560) (hn : S.1 12 (2 * q + (1 - q)) = nI n) (hn2 : n ≤ a + 20) (ho : S.1 12 (2 * q + q) = nI o) (ho2 : o ≤ 600) (hB : ∀ f, f ≤ a → BdAt S q f) (hav : Fb (S.2.1 9 q) (-(2 ^ 36 * e8)) (2 ^ 36 * e8)) : CTi l yX7_deliver wsX7_deliver ({ frames := 4, cells := 0, slots := 0, locals := 112 }) D cs ad 26 (mm ad cs d w S np ns) [.ref (ad 0), .int (nI q)] (fun r M2 => r = rDel S q ∧ ∃ np2 ns2, M2 = mm ad cs d w (mDel S q) np2 ns2) := by
  refine Met.ofW (cc := cX7_deliver) (maxL := 8) (ret := (some .int)) (by decide) rfl ?_
  intro p e s m args below meth c s₁ B hml hv
  obtain ⟨rfl, hP, hK⟩ := hv
  have hx := B.exec
  have hb := B.bytes
  have hr := B.returns
  have hts := atoms_spec (ws := wsX7_deliver) B.pre
  have hown : s.vm.findClass RX7 = some m.cls := findClass_of_methodNamed B.named
  have hlocks := B.notSynchronized
  have hS : va_S (Ad ad 26) s.heap s.heap [] := va_S.rf
  have hl := lv_entry ([.ref (ad 0), .int (nI q)]) (n := 8) (Nat.le_of_ble_eq_true rfl)
  rw [lg_entry_eq]
  generalize (lg_sl ([.ref (ad 0), .int (nI q)]) ++ List.replicate (8 - (lg_sl ([.ref (ad 0), .int (nI q)])).length) Slot.unset).toArray = ls at hl ⊢
  have hl : lv_has ls 8 [(0, .ref (ad 0)), (1, .int (nI q))] := hl
  have inX7 : ∀ w ∈ u_ws RX7 TX7 29, w ∈ wsX7_deliver := fun w h => List.mem_cons_of_mem _ (List.mem_append_right _ h)
-- walk
  refine lv_iload_n hx hb dX7_deliver_0 rfl (lv_at hl 1 rfl) ?_
  refine k_Si (As := [.int (nI q)]) (rest := []) ⟨hx, hb, hml, hown, hts⟩ hK hP hS Ad_le (c_isTwo l D cs ad 26 (mm ad cs d w S np ns) (nI q)) (va_cwS 1 hts gX7_deliver_X7_isTwo rfl rfl rfl (by decide +kernel) ⟨Nat.le_of_ble_eq_true rfl, Nat.le_of_ble_eq_true rfl⟩) rfl rfl hl.1 (Nat.le_of_ble_eq_true rfl) dX7_deliver_1 ⟨Nat.le_of_ble_eq_true rfl, Nat.le_of_ble_eq_true rfl⟩ (fun r_1 M1 H locs hpo hP hS _ _ => ?_)
  obtain ⟨rfl, rfl⟩ := hpo
  refine n_val (two_ok hq) ?_
  refine n_if_eq (tgt := 16) hx hb dX7_deliver_4 (by decide) (by omega) (fun c_2 => absurd c_2 (by decide)) (fun c_2 => ?_)
  refine lv_aload_n hx hb dX7_deliver_7 rfl (lv_at hl 0 rfl) ?_
  refine m_get hx hb hts inX7 hown hK hP (ci := 7) rfl (k := 0) (by decide) rfl 19 (by decide) (hts (.fieldLink RX7 65 "RollbackPairModel" "rows" "[I") (by decide +kernel)) rfl dX7_deliver_8 ?_
  refine lv_iload_n hx hb dX7_deliver_11 rfl (lv_at hl 1 rfl) ?_
  refine m_iald hx hb hK hP (k := 18) (by decide) (f := (S.1 19)) rfl (i := q) (by omega) (by decide) dX7_deliver_12 ?_
  refine n_val hr0 ?_
  refine n_if_ne (tgt := 18) hx hb dX7_deliver_13 (by decide) (by omega) (fun c1 => ?_) (fun c1 => ?_)
  · refine lv_aload_n hx hb dX7_deliver_18 rfl (lv_at hl 0 rfl) ?_
    refine lv_iload_n hx hb dX7_deliver_19 rfl (lv_at hl 1 rfl) ?_
    refine k_Vv (As := [.int (nI q)]) (rest := []) (k := 0) (ci := 7) ⟨hx, hb, hml, hown, hts⟩ hK hP hS Ad_le (c_take l D cs ad hJ d w S np ns q r hq hr0 (by omega) hr2 hsh) (cwV 1 hts gX7_deliver_X7_take rfl rfl rfl (by decide +kernel) ⟨Nat.le_of_ble_eq_true rfl, Nat.le_of_ble_eq_true rfl⟩) (by decide) rfl rfl rfl rfl hl.1 (Nat.le_of_ble_eq_true rfl) dX7_deliver_20 ⟨Nat.le_of_ble_eq_true rfl, Nat.le_of_ble_eq_true rfl⟩ (fun M1 H locs hpo hP hS _ _ => ?_)
    subst hpo
    have hz : ¬ S.1 19 q = 0 := by rw [hr0]; exact nI_ne0 (by omega) (by omega)
    unfold rDel mDel
    rw [if_neg hz, if_neg hz]
    have g1 := mTake_sh (q := q) hsh
    have g2 : (mTake S q).1 2 q = nI a := by rw [mTake_k (by omega)]; exact hat
    have g3 : (mTake S q).1 12 (2 * q + (1 - q)) = nI n := by rw [mTake_k (by omega)]; exact hn
    have g4 : (mTake S q).1 12 (2 * q + q) = nI o := by rw [mTake_k (by omega)]; exact ho
    have g5 : ∀ f, f ≤ a → BdAt (mTake S q) q f := fun f hf => BdAt_F (mTake_F S q) (hB f hf)
    have g6 : Fb ((mTake S q).2.1 9 q) (-(2 ^ 36 * e8)) (2 ^ 36 * e8) := by rw [(mTake_F S q).1]; exact hav
    clear hav hB ho hn hat hsh hr0
    generalize mTake S q = U at hP g1 g2 g3 g4 g5 g6 ⊢
    refine jnH (fun (_ : Unit) ls H locs => ¬ dropP U q ∧ lv_has ls 8 [(0, .ref (ad 0)), (1, .int (nI q))] ∧ va_P D vwCl (sg ad 26 (mm ad cs d w (mAcc U q) np ns)) H ∧ va_S (Ad ad 26) s.heap H locs) 190 (fun _ => []) (fun _ ls H locs hC => ?_) (fun J => ?_)
    · obtain ⟨hnd, hl, hP, hS⟩ := hC
      have hR : rDel2 U q = rDl (mAcc U q) q a n := by unfold rDel2; rw [if_neg hnd, g2, g3, tn_nI (by omega), tn_nI (by omega)]
      have hM2 : mDel2 U q = mDl (mAcc U q) q a n := by unfold mDel2; rw [if_neg hnd, g2, g3, tn_nI (by omega), tn_nI (by omega)]
      rw [hR, hM2]
      have k2 : (mAcc U q).1 2 q = nI a := by rw [mAcc_k (by omega)]; exact g2
      have k3 : (mAcc U q).1 12 (2 * q + (1 - q)) = nI n := by rw [mAcc_k (by omega)]; exact g3
      have k4 : (mAcc U q).1 12 (2 * q + q) = nI o := by rw [mAcc_k (by omega)]; exact g4
      have k5 : ∀ f, f ≤ a → BdAt (mAcc U q) q f := fun f hf => mAcc_Bd (g5 f hf)
      clear hR hM2
      generalize mAcc U q = Y at hP k2 k3 k4 k5 ⊢
      refine lv_iconst (v := nI 1) hx hb dX7_deliver_190 (by decide) ?_
      refine lv_iload_n hx hb dX7_deliver_191 rfl (lv_at hl 1 rfl) ?_
      refine n_sub hx hb (by omega) dX7_deliver_192 ?_
      refine lv_istore_n (lv' := [(3, .int (nI (1 - q))), (0, .ref (ad 0)), (1, .int (nI q))]) hx hb dX7_deliver_193 rfl hl (by decide) rfl (fun ls hl => ?_)
      refine lv_aload_n hx hb dX7_deliver_194 rfl (lv_at hl 1 rfl) ?_
      refine m_get hx hb hts inX7 hown hK hP (ci := 7) rfl (k := 0) (by decide) rfl 12 (by decide) (hts (.fieldLink RX7 43 "RollbackPairModel" "known" "[I") (by decide +kernel)) rfl dX7_deliver_195 ?_
      refine lv_iconst (v := nI 2) hx hb dX7_deliver_198 (by decide) ?_
      refine lv_iload_n hx hb dX7_deliver_199 rfl (lv_at hl 2 rfl) ?_
      refine n_mul hx hb dX7_deliver_200 ?_
      refine lv_iload_n hx hb dX7_deliver_201 rfl (lv_at hl 0 rfl) ?_
      refine n_add hx hb dX7_deliver_202 ?_
      refine m_iald hx hb hK hP (k := 11) (by decide) (f := (Y.1 12)) rfl (i := 2 * q + (1 - q)) (by omega) (by decide) dX7_deliver_203 ?_
      refine n_val k3 ?_
      refine lv_istore (lv' := [(4, .int (nI n)), (3, .int (nI (1 - q))), (0, .ref (ad 0)), (1, .int (nI q))]) hx hb dX7_deliver_204 hl (by decide) rfl (fun ls hl => ?_)
      refine lv_aload_n hx hb dX7_deliver_206 rfl (lv_at hl 2 rfl) ?_
      refine m_get hx hb hts inX7 hown hK hP (ci := 7) rfl (k := 0) (by decide) rfl 24 (by decide) (hts (.fieldLink RX7 80 "RollbackPairModel" "pCount" "[I") (by decide +kernel)) rfl dX7_deliver_207 ?_
      refine lv_bipush (v := nI 24) hx hb dX7_deliver_210 (by decide) ?_
      refine m_iald hx hb hK hP (k := 23) (by decide) (f := (Y.1 24)) rfl (i := 24) (by omega) (by decide) dX7_deliver_212 ?_
      refine lv_bipush (v := nI 16) hx hb dX7_deliver_213 (by decide) ?_
      refine jn (fun (_ : Unit) ls => lv_has ls 8 [(3, .int (nI (1 - q))), (4, .int (nI n)), (0, .ref (ad 0)), (1, .int (nI q))]) 230 (fun _ => [.int (mo24 Y)]) (fun _ ls hl => ?_) (fun J => ?_)
      · refine lv_istore (lv' := [(5, .int (mo24 Y)), (3, .int (nI (1 - q))), (4, .int (nI n)), (0, .ref (ad 0)), (1, .int (nI q))]) hx hb dX7_deliver_230 hl (by decide) rfl (fun ls hl => ?_)
        refine lv_iload hx hb dX7_deliver_232 (lv_at hl 2 rfl) ?_
        refine lv_i2l hx hb dX7_deliver_234 rfl ?_
        refine lv_aload_n hx hb dX7_deliver_235 rfl (lv_at hl 3 rfl) ?_
        refine m_get hx hb hts inX7 hown hK hP (ci := 7) rfl (k := 0) (by decide) rfl 23 (by decide) (hts (.fieldLink RX7 77 "RollbackPairModel" "pFirst" "[I") (by decide +kernel)) rfl dX7_deliver_236 ?_
        refine lv_bipush (v := nI 24) hx hb dX7_deliver_239 (by decide) ?_
        refine m_iald hx hb hK hP (k := 22) (by decide) (f := (Y.1 23)) rfl (i := 24) (by omega) (by decide) dX7_deliver_241 ?_
        refine lv_i2l hx hb dX7_deliver_242 rfl ?_
        refine lv_lsub hx hb dX7_deliver_243 ?_
        refine lv_lstore (lv' := [(6, .long (((nI n).toInt64) - (((Y.1 23) 24).toInt64))), (5, .int (mo24 Y)), (3, .int (nI (1 - q))), (4, .int (nI n)), (0, .ref (ad 0)), (1, .int (nI q))]) hx hb dX7_deliver_244 hl (by decide) rfl (fun ls hl => ?_)
        have hmo := mo24_le Y
        have hj0 := lv_sub64 (n := n) (by omega) (Y.1 23 24)
        obtain ⟨L, hL⟩ : ∃ L, L = lrC Y n a := ⟨_, rfl⟩
        have hLe : L ≤ a + 20 - n := by rw [hL]; unfold lrC lrN; split <;> omega
        refine jnH (fun (_ : Unit) ls H locs => lv_has ls 8 [(5, .int (mo24 Y)), (4, .int (nI n)), (3, .int (nI (1 - q))), (0, .ref (ad 0)), (1, .int (nI q))] ∧ va_P D vwCl (sg ad 26 (mm ad cs d w (mLrn Y q n a) np ns)) H ∧ va_S (Ad ad 26) s.heap H locs) 352 (fun _ => []) (fun _ ls H locs hC => ?_) (fun J => ?_)
        · obtain ⟨hl, hP, hS⟩ := hC
          have f0 := mLr_k (q := q) hq (lrC Y n a) Y n ((n : Int) - (Y.1 23 24).toInt).toNat k3
          rw [← hL] at f0
          have f3 : (mLrn Y q n a).1 12 (2 * q + (1 - q)) = nI (n + L) := by unfold mLrn; rw [← hL]; exact f0.1
          have f2 : (mLrn Y q n a).1 2 q = nI a := by unfold mLrn; rw [← hL, f0.2.1 2 (by omega) (by omega)]; exact k2
          have f4 : (mLrn Y q n a).1 12 (2 * q + q) = nI o := by unfold mLrn; rw [← hL, f0.2.2.1]; exact k4
          have f5 : ∀ f, f ≤ a → BdAt (mLrn Y q n a) q f := fun f hf => BdAt_of (show (mLrn Y q n a).2 = Y.2 from by unfold mLrn; rw [← hL]; exact f0.2.2.2) (k5 f hf)
          refine lv_aload_n hx hb dX7_deliver_352 rfl (lv_at hl 3 rfl) ?_
          refine m_get hx hb hts inX7 hown hK hP (ci := 7) rfl (k := 0) (by decide) rfl 12 (by decide) (hts (.fieldLink RX7 43 "RollbackPairModel" "known" "[I") (by decide +kernel)) rfl dX7_deliver_353 ?_
          refine lv_iconst (v := nI 2) hx hb dX7_deliver_356 (by decide) ?_
          refine lv_iload_n hx hb dX7_deliver_357 rfl (lv_at hl 4 rfl) ?_
          refine n_mul hx hb dX7_deliver_358 ?_
          refine lv_iload_n hx hb dX7_deliver_359 rfl (lv_at hl 2 rfl) ?_
          refine n_add hx hb dX7_deliver_360 ?_
          refine m_iald hx hb hK hP (k := 11) (by decide) (f := ((mLrn Y q n a).1 12)) rfl (i := 2 * q + (1 - q)) (by omega) (by decide) dX7_deliver_361 ?_
          refine n_val f3 ?_
          refine lv_iload hx hb dX7_deliver_362 (lv_at hl 1 rfl) ?_
          refine n_cmp_le (tgt := 377) hx hb dX7_deliver_364 (by decide) (by omega) (by omega) (fun c9 => ?_) (fun c9 => ?_)
          · refine lv_iconst (v := nI 0) hx hb dX7_deliver_377 (by decide) ?_
            exact r_i hx hb hr hlocks hK hP hS dX7_deliver_378 ⟨by unfold rDl; rw [if_pos (by omega)], np, ns, by unfold mDl; rw [if_pos (by omega)]⟩
          · refine lv_aload_n hx hb dX7_deliver_367 rfl (lv_at hl 3 rfl) ?_
            refine lv_iload_n hx hb dX7_deliver_368 rfl (lv_at hl 4 rfl) ?_
            refine lv_iload hx hb dX7_deliver_369 (lv_at hl 1 rfl) ?_
            refine k_Vi (As := [.int (nI q), .int (nI n)]) (rest := []) (k := 0) (ci := 7) ⟨hx, hb, hml, hown, hts⟩ hK hP hS Ad_le (c_replay l D cs ad hJ d w (mLrn Y q n a) np ns q n a (n + L) o hq f2 (by omega) f3 (by omega) f4 ho2 (by omega) f5) (cwV 2 hts gX7_deliver_X7_replay rfl rfl rfl (by decide +kernel) ⟨Nat.le_of_ble_eq_true rfl, Nat.le_of_ble_eq_true rfl⟩) (by decide) rfl rfl rfl rfl hl.1 (Nat.le_of_ble_eq_true rfl) dX7_deliver_371 ⟨Nat.le_of_ble_eq_true rfl, Nat.le_of_ble_eq_true rfl⟩ (fun r_4 M1 H locs hpo hP hS _ _ => ?_)
            obtain ⟨hr9, np3, ns3, rfl⟩ := hpo
            refine lv_goto (tgt := 378) hx hb dX7_deliver_374 (by decide) ?_
            exact r_i hx hb hr hlocks hK hP hS dX7_deliver_378 ⟨by unfold rDl; rw [if_neg (by omega), ← hL]; exact hr9, np3, ns3, by unfold mDl; rw [if_neg (by omega), ← hL]⟩
        · refine lpW (fun k (x : Nat × SS × Int64) ls H locs => n ≤ x.1 ∧ x.1 ≤ a + 20 ∧ k = lrN x.2.2.toInt (mo24 Y).toInt x.1 a ∧ mLr x.2.1 q k x.1 x.2.2.toInt.toNat = mLrn Y q n a ∧ x.2.1.1 12 (2 * q + (1 - q)) = nI x.1 ∧ x.2.1.1 2 q = nI a ∧ x.2.1.2.2.1 24 = Y.2.2.1 24 ∧ lv_has ls 8 [(6, .long x.2.2), (5, .int (mo24 Y)), (4, .int (nI n)), (3, .int (nI (1 - q))), (0, .ref (ad 0)), (1, .int (nI q))] ∧ va_P D vwCl (sg ad 26 (mm ad cs d w x.2.1 np ns)) H ∧ va_S (Ad ad 26) s.heap H locs) 246 (fun _ => []) (fun k x ls H locs hC ih => ?_) L (n, Y, ((nI n).toInt64) - (((Y.1 23) 24).toInt64)) ls _ _ ⟨Nat.le_refl _, hn2, by rw [hj0]; exact hL, by rw [hj0, hL]; rfl, k3, k2, rfl, lv_sub hl [0, 1, 3, 2, 4, 5] rfl, hP, hS⟩
          obtain ⟨m2, V, jv⟩ := x
          obtain ⟨i1, i2, i3, i4, i5, i6, i7, hl, hP, hS⟩ := hC
          dsimp only at i1 i2 i3 i4 i5 i6 i7 hl hP hS ih ⊢
          unfold lrN at i3
          refine lv_lload hx hb dX7_deliver_246 (lv_at hl 0 rfl) ?_
          refine lv_lconst (v := 0) hx hb dX7_deliver_248 (by decide) ?_
          refine W.lcmp hx hb dX7_deliver_249 ?_
          refine lv_if_lt (tgt := 352) hx hb dX7_deliver_250 (by decide) (fun d1 => ?_) (fun d1 => ?_)
          · have hk0 : k = 0 := by rw [i3, if_neg (show ¬ (0 : Int) ≤ jv.toInt from by have h9 := (lg_cmp_lt _ _).mp d1; rw [Int64.lt_iff_toInt_lt] at h9; simpa using h9)]
            subst hk0
            have i4 : V = mLrn Y q n a := i4
            rw [i4] at hP
            exact J () ls H locs ⟨lv_sub hl [1, 2, 3, 4, 5] rfl, hP, hS⟩
          · obtain ⟨jj, hjj, rfl⟩ := pk_lOf (x := jv) (fun z => d1 ((lg_cmp_lt _ _).mpr z))
            rw [pk_lT hjj] at i3
            rw [if_pos (by omega)] at i3
            refine lv_lload hx hb dX7_deliver_253 (lv_at hl 0 rfl) ?_
            refine lv_iload hx hb dX7_deliver_255 (lv_at hl 1 rfl) ?_
            refine lv_i2l hx hb dX7_deliver_257 rfl ?_
            refine W.lcmp hx hb dX7_deliver_258 ?_
            refine lv_if_ge (tgt := 352) hx hb dX7_deliver_259 (by decide) (fun d2 => ?_) (fun d2 => ?_)
            · have hk0 : k = 0 := by have h9 := (lg_cmp_ge _ _).mp d2; rw [Int64.le_iff_toInt_le, Int32.toInt_toInt64, pk_lT hjj] at h9; omega
              subst hk0
              have i4 : V = mLrn Y q n a := i4
              rw [i4] at hP
              exact J () ls H locs ⟨lv_sub hl [1, 2, 3, 4, 5] rfl, hP, hS⟩
            · have h9 : (jj : Int) < (mo24 Y).toInt := Int.lt_of_not_ge fun z => d2 ((lg_cmp_ge _ _).mpr (by rw [Int64.le_iff_toInt_le, Int32.toInt_toInt64, pk_lT hjj]; exact z))
              refine lv_aload_n hx hb dX7_deliver_262 rfl (lv_at hl 4 rfl) ?_
              refine m_get hx hb hts inX7 hown hK hP (ci := 7) rfl (k := 0) (by decide) rfl 12 (by decide) (hts (.fieldLink RX7 43 "RollbackPairModel" "known" "[I") (by decide +kernel)) rfl dX7_deliver_263 ?_
              refine lv_iconst (v := nI 2) hx hb dX7_deliver_266 (by decide) ?_
              refine lv_iload_n hx hb dX7_deliver_267 rfl (lv_at hl 5 rfl) ?_
              refine n_mul hx hb dX7_deliver_268 ?_
              refine lv_iload_n hx hb dX7_deliver_269 rfl (lv_at hl 3 rfl) ?_
              refine n_add hx hb dX7_deliver_270 ?_
              refine m_iald hx hb hK hP (k := 11) (by decide) (f := (V.1 12)) rfl (i := 2 * q + (1 - q)) (by omega) (by decide) dX7_deliver_271 ?_
              refine n_val i5 ?_
              refine lv_aload_n hx hb dX7_deliver_272 rfl (lv_at hl 4 rfl) ?_
              refine m_get hx hb hts inX7 hown hK hP (ci := 7) rfl (k := 0) (by decide) rfl 2 (by decide) (hts (.fieldLink RX7 7 "RollbackPairModel" "at" "[I") (by decide +kernel)) rfl dX7_deliver_273 ?_
              refine lv_iload_n hx hb dX7_deliver_276 rfl (lv_at hl 5 rfl) ?_
              refine m_iald hx hb hK hP (k := 1) (by decide) (f := (V.1 2)) rfl (i := q) (by omega) (by decide) dX7_deliver_277 ?_
              refine n_val i6 ?_
              refine lv_bipush (v := nI 20) hx hb dX7_deliver_278 (by decide) ?_
              refine n_add hx hb dX7_deliver_280 ?_
              refine n_cmp_ge (tgt := 352) hx hb dX7_deliver_281 (by decide) (by omega) (by omega) (fun d3 => ?_) (fun d3 => ?_)
              · have hk0 : k = 0 := by omega
                subst hk0
                have i4 : V = mLrn Y q n a := i4
                rw [i4] at hP
                exact J () ls H locs ⟨lv_sub hl [1, 2, 3, 4, 5] rfl, hP, hS⟩
              · refine lv_aload_n hx hb dX7_deliver_284 rfl (lv_at hl 4 rfl) ?_
                refine m_get hx hb hts inX7 hown hK hP (ci := 7) rfl (k := 0) (by decide) rfl 10 (by decide) (hts (.fieldLink RX7 37 "RollbackPairModel" "input" "[I") (by decide +kernel)) rfl dX7_deliver_285 ?_
                refine lv_sipush (v := nI 1200) hx hb dX7_deliver_288 (by decide) ?_
                refine lv_iload_n hx hb dX7_deliver_291 rfl (lv_at hl 5 rfl) ?_
                refine n_mul hx hb dX7_deliver_292 ?_
                refine lv_sipush (v := nI 600) hx hb dX7_deliver_293 (by decide) ?_
                refine lv_iload_n hx hb dX7_deliver_296 rfl (lv_at hl 3 rfl) ?_
                refine n_mul hx hb dX7_deliver_297 ?_
                refine n_add hx hb dX7_deliver_298 ?_
                refine lv_aload_n hx hb dX7_deliver_299 rfl (lv_at hl 4 rfl) ?_
                refine m_get hx hb hts inX7 hown hK hP (ci := 7) rfl (k := 0) (by decide) rfl 12 (by decide) (hts (.fieldLink RX7 43 "RollbackPairModel" "known" "[I") (by decide +kernel)) rfl dX7_deliver_300 ?_
                refine lv_iconst (v := nI 2) hx hb dX7_deliver_303 (by decide) ?_
                refine lv_iload_n hx hb dX7_deliver_304 rfl (lv_at hl 5 rfl) ?_
                refine n_mul hx hb dX7_deliver_305 ?_
                refine lv_iload_n hx hb dX7_deliver_306 rfl (lv_at hl 3 rfl) ?_
                refine n_add hx hb dX7_deliver_307 ?_
                refine m_iald hx hb hK hP (k := 11) (by decide) (f := (V.1 12)) rfl (i := 2 * q + (1 - q)) (by omega) (by decide) dX7_deliver_308 ?_
                refine n_val i5 ?_
                refine n_add hx hb dX7_deliver_309 ?_
                refine lv_aload_n hx hb dX7_deliver_310 rfl (lv_at hl 4 rfl) ?_
                refine m_get hx hb hts inX7 hown hK hP (ci := 7) rfl (k := 0) (by decide) rfl 25 (by decide) (hts (.fieldLink RX7 83 "RollbackPairModel" "pBits" "[J") (by decide +kernel)) rfl dX7_deliver_311 ?_
                refine lv_bipush (v := nI 24) hx hb dX7_deliver_314 (by decide) ?_
                refine m_lald hx hb hK hP (k := 24) (by decide) (f := V.2.2.1) rfl (i := 24) (by omega) (by decide) dX7_deliver_316 ?_
                refine lv_iconst (v := nI 3) hx hb dX7_deliver_317 (by decide) ?_
                refine lv_lload hx hb dX7_deliver_318 (lv_at hl 0 rfl) ?_
                refine lv_l2i (v := nI jj) hx hb dX7_deliver_320 (lN_i _) ?_
                refine n_mul hx hb dX7_deliver_321 ?_
                refine lv_lshr hx hb dX7_deliver_322 rfl ?_
                refine lv_ldc2 hx hb hown (hts (.constantLong RX7 148 (7)) (by decide +kernel)) dX7_deliver_323 ?_
                refine lv_land hx hb dX7_deliver_326 ?_
                refine lv_l2i hx hb dX7_deliver_327 rfl ?_
                refine m_iast hx hb hK hP hJ hS (k := 9) (by decide) (f := (V.1 10)) rfl (i := 1200 * q + (600 * (1 - q)) + m2) (by omega) (by decide) dX7_deliver_328 (fun H locs hP hS => ?_)
                rw [mm_up10] at hP
                refine lv_aload_n hx hb dX7_deliver_329 rfl (lv_at hl 4 rfl) ?_
                refine m_get hx hb hts inX7 hown hK hP (ci := 7) rfl (k := 0) (by decide) rfl 12 (by decide) (hts (.fieldLink RX7 43 "RollbackPairModel" "known" "[I") (by decide +kernel)) rfl dX7_deliver_330 ?_
                refine lv_iconst (v := nI 2) hx hb dX7_deliver_333 (by decide) ?_
                refine lv_iload_n hx hb dX7_deliver_334 rfl (lv_at hl 5 rfl) ?_
                refine n_mul hx hb dX7_deliver_335 ?_
                refine lv_iload_n hx hb dX7_deliver_336 rfl (lv_at hl 3 rfl) ?_
                refine n_add hx hb dX7_deliver_337 ?_
                refine lv_dup2_11 hx hb dX7_deliver_338 rfl rfl ?_
                refine m_iald hx hb hK hP (k := 11) (by decide) (f := (V.1 12)) rfl (i := 2 * q + (1 - q)) (by omega) (by decide) dX7_deliver_339 ?_
                refine n_val i5 ?_
                refine lv_iconst (v := nI 1) hx hb dX7_deliver_340 (by decide) ?_
                refine n_add hx hb dX7_deliver_341 ?_
                refine m_iast hx hb hK hP hJ hS (k := 11) (by decide) (f := (V.1 12)) rfl (i := 2 * q + (1 - q)) (by omega) (by decide) dX7_deliver_342 (fun H locs hP hS => ?_)
                rw [mm_up12] at hP
                refine lv_lload hx hb dX7_deliver_343 (lv_at hl 0 rfl) ?_
                refine lv_lconst (v := 1) hx hb dX7_deliver_345 (by decide) ?_
                refine lv_ladd hx hb dX7_deliver_346 ?_
                refine lv_lstore (lv' := [(6, .long ((lN jj) + (1 : Int64))), (5, .int (mo24 Y)), (4, .int (nI n)), (3, .int (nI (1 - q))), (0, .ref (ad 0)), (1, .int (nI q))]) hx hb dX7_deliver_347 hl (by decide) rfl (fun ls hl => ?_)
                refine lv_goto (tgt := 246) hx hb dX7_deliver_349 (by decide) ?_
                have hjp : (lN jj + (1 : Int64)).toInt = (jj : Int) + 1 := by rw [FP.Core.int64_add] <;> rw [pk_lT (by omega)] <;> (first | rfl | (show _ ; simp; omega))
                exact ih (lrN ((jj : Int) + 1) (mo24 Y).toInt (m2 + 1) a) (by unfold lrN; rw [if_pos (by omega)]; omega) (m2 + 1, mLr1 V q m2 jj, lN jj + 1) ls H locs ⟨by omega, by omega, by rw [hjp], by rw [hjp, ← i4, show k = lrN ((jj : Int) + 1) (mo24 Y).toInt (m2 + 1) a + 1 by unfold lrN; rw [if_pos (by omega)]; omega, show ((jj : Int) + 1).toNat = jj + 1 by omega, show (lN jj).toInt.toNat = jj by rw [pk_lT (by omega)]; omega]; rfl, if_pos rfl, i6, i7, lv_sub hl [0, 1, 2, 3, 4, 5] rfl, hP, hS⟩
      · refine lv_icmp_le (tgt := 223) hx hb dX7_deliver_215 (by decide) (fun c8 => ?_) (fun c8 => ?_)
        · refine lv_aload_n hx hb dX7_deliver_223 rfl (lv_at hl 2 rfl) ?_
          refine m_get hx hb hts inX7 hown hK hP (ci := 7) rfl (k := 0) (by decide) rfl 24 (by decide) (hts (.fieldLink RX7 80 "RollbackPairModel" "pCount" "[I") (by decide +kernel)) rfl dX7_deliver_224 ?_
          refine lv_bipush (v := nI 24) hx hb dX7_deliver_227 (by decide) ?_
          refine m_iald hx hb hK hP (k := 23) (by decide) (f := (Y.1 24)) rfl (i := 24) (by omega) (by decide) dX7_deliver_229 ?_
          refine n_val (show (Y.1 24) 24 = mo24 Y from (if_pos c8).symm) ?_
          exact J () ls (lv_sub hl [1, 0, 2, 3] rfl)
        · refine lv_bipush (v := nI 16) hx hb dX7_deliver_218 (by decide) ?_
          refine lv_goto (tgt := 230) hx hb dX7_deliver_220 (by decide) ?_
          refine n_val (show nI 16 = mo24 Y from (if_neg c8).symm) ?_
          exact J () ls (lv_sub hl [1, 0, 2, 3] rfl)
    · refine lv_aload_n hx hb dX7_deliver_23 rfl (lv_at hl 0 rfl) ?_
      refine m_get hx hb hts inX7 hown hK hP (ci := 7) rfl (k := 0) (by decide) rfl 20 (by decide) (hts (.fieldLink RX7 68 "RollbackPairModel" "pNumber" "[S") (by decide +kernel)) rfl dX7_deliver_24 ?_
      refine lv_bipush (v := nI 24) hx hb dX7_deliver_27 (by decide) ?_
      refine m_sald hx hb hK hP (k := 19) (by decide) (f := (U.1 20)) rfl (i := 24) (by omega) (by decide) dX7_deliver_29 ?_
      refine lv_aload_n hx hb dX7_deliver_30 rfl (lv_at hl 0 rfl) ?_
      refine m_get hx hb hts inX7 hown hK hP (ci := 7) rfl (k := 0) (by decide) rfl 7 (by decide) (hts (.fieldLink RX7 26 "RollbackPairModel" "latest" "[S") (by decide +kernel)) rfl dX7_deliver_31 ?_
      refine lv_iload_n hx hb dX7_deliver_34 rfl (lv_at hl 1 rfl) ?_
      refine m_sald hx hb hK hP (k := 6) (by decide) (f := (U.1 7)) rfl (i := q) (by omega) (by decide) dX7_deliver_35 ?_
      refine lv_isub hx hb dX7_deliver_36 ?_
      refine lv_i2s hx hb dX7_deliver_37 rfl ?_
      refine lv_istore_n (lv' := [(2, .int ((((U.1 20) 24) - ((U.1 7) q)).toInt16.toInt32)), (0, .ref (ad 0)), (1, .int (nI q))]) hx hb dX7_deliver_38 rfl hl (by decide) rfl (fun ls hl => ?_)
      refine lv_aload_n hx hb dX7_deliver_39 rfl (lv_at hl 1 rfl) ?_
      refine m_get hx hb hts inX7 hown hK hP (ci := 7) rfl (k := 0) (by decide) rfl 26 (by decide) (hts (.fieldLink RX7 87 "RollbackPairModel" "pCheck" "[I") (by decide +kernel)) rfl dX7_deliver_40 ?_
      refine lv_bipush (v := nI 24) hx hb dX7_deliver_43 (by decide) ?_
      refine m_iald hx hb hK hP (k := 25) (by decide) (f := (U.1 26)) rfl (i := 24) (by omega) (by decide) dX7_deliver_45 ?_
      refine lv_aload_n hx hb dX7_deliver_46 rfl (lv_at hl 1 rfl) ?_
      refine lv_bipush (v := nI 24) hx hb dX7_deliver_47 (by decide) ?_
      refine k_Vi (As := [.int (nI 24)]) (rest := [.int ((U.1 26) 24)]) (k := 0) (ci := 7) ⟨hx, hb, hml, hown, hts⟩ hK hP hS Ad_le (c_check l D cs ad hJ d w U np ns 24 (by decide)) (cwV 1 hts gX7_deliver_X7_check rfl rfl rfl (by decide +kernel) ⟨Nat.le_of_ble_eq_true rfl, Nat.le_of_ble_eq_true rfl⟩) (by decide) rfl rfl rfl rfl hl.1 (Nat.le_of_ble_eq_true rfl) dX7_deliver_49 ⟨Nat.le_of_ble_eq_true rfl, Nat.le_of_ble_eq_true rfl⟩ (fun r_5 M1 H locs hpo hP hS _ _ => ?_)
      obtain ⟨rfl, rfl⟩ := hpo
      refine lv_icmp_ne (tgt := 77) hx hb dX7_deliver_52 (by decide) (fun c2 => ?_) (fun c2 => ?_)
      · have hdr : dropP U q := Or.inl c2
        refine lv_bipush (v := (-2)) hx hb dX7_deliver_77 (by decide) ?_
        exact r_i hx hb hr hlocks hK hP hS dX7_deliver_79 ⟨by unfold rDel2; rw [if_pos hdr], np, ns, by unfold mDel2; rw [if_pos hdr]⟩
      · have c2n : ¬ ¬ U.1 26 24 = mChk U 24 := fun z => z c2
        refine lv_aload_n hx hb dX7_deliver_55 rfl (lv_at hl 1 rfl) ?_
        refine m_get hx hb hts inX7 hown hK hP (ci := 7) rfl (k := 0) (by decide) rfl 4 (by decide) (hts (.fieldLink RX7 16 "RollbackPairModel" "cut" "[I") (by decide +kernel)) rfl dX7_deliver_56 ?_
        refine lv_iload_n hx hb dX7_deliver_59 rfl (lv_at hl 2 rfl) ?_
        refine m_iald hx hb hK hP (k := 3) (by decide) (f := (U.1 4)) rfl (i := q) (by omega) (by decide) dX7_deliver_60 ?_
        refine lv_if_ge (tgt := 77) hx hb dX7_deliver_61 (by decide) (fun c3 => ?_) (fun c3 => ?_)
        · have hdr : dropP U q := Or.inr (Or.inl c3)
          refine lv_bipush (v := (-2)) hx hb dX7_deliver_77 (by decide) ?_
          exact r_i hx hb hr hlocks hK hP hS dX7_deliver_79 ⟨by unfold rDel2; rw [if_pos hdr], np, ns, by unfold mDel2; rw [if_pos hdr]⟩
        · refine lv_aload_n hx hb dX7_deliver_64 rfl (lv_at hl 1 rfl) ?_
          refine m_get hx hb hts inX7 hown hK hP (ci := 7) rfl (k := 0) (by decide) rfl 6 (by decide) (hts (.fieldLink RX7 22 "RollbackPairModel" "took" "[Z") (by decide +kernel)) rfl dX7_deliver_65 ?_
          refine lv_iload_n hx hb dX7_deliver_68 rfl (lv_at hl 2 rfl) ?_
          refine m_zald hx hb hK hP (k := 5) (by decide) (f := (U.1 6)) rfl (i := q) (by omega) (by decide) dX7_deliver_69 ?_
          refine lv_if_eq (tgt := 80) hx hb dX7_deliver_70 (by decide) (fun c4 => ?_) (fun c4 => ?_)
          · refine lv_aload_n hx hb dX7_deliver_80 rfl (lv_at hl 1 rfl) ?_
            refine m_get hx hb hts inX7 hown hK hP (ci := 7) rfl (k := 0) (by decide) rfl 6 (by decide) (hts (.fieldLink RX7 22 "RollbackPairModel" "took" "[Z") (by decide +kernel)) rfl dX7_deliver_81 ?_
            refine lv_iload_n hx hb dX7_deliver_84 rfl (lv_at hl 2 rfl) ?_
            refine lv_iconst (v := nI 1) hx hb dX7_deliver_85 (by decide) ?_
            refine m_zast hx hb hK hP hJ hS (k := 5) (by decide) (f := (U.1 6)) rfl (i := q) (y := nI 1) (by omega) (by decide) rfl dX7_deliver_86 (fun H locs hP hS => ?_)
            rw [mm_up6] at hP
            refine lv_aload_n hx hb dX7_deliver_87 rfl (lv_at hl 1 rfl) ?_
            refine m_get hx hb hts inX7 hown hK hP (ci := 7) rfl (k := 0) (by decide) rfl 7 (by decide) (hts (.fieldLink RX7 26 "RollbackPairModel" "latest" "[S") (by decide +kernel)) rfl dX7_deliver_88 ?_
            refine lv_iload_n hx hb dX7_deliver_91 rfl (lv_at hl 2 rfl) ?_
            refine lv_aload_n hx hb dX7_deliver_92 rfl (lv_at hl 1 rfl) ?_
            refine m_get hx hb hts inX7 hown hK hP (ci := 7) rfl (k := 0) (by decide) rfl 20 (by decide) (hts (.fieldLink RX7 68 "RollbackPairModel" "pNumber" "[S") (by decide +kernel)) rfl dX7_deliver_93 ?_
            refine lv_bipush (v := nI 24) hx hb dX7_deliver_96 (by decide) ?_
            refine m_sald hx hb hK hP (k := 19) (by decide) (f := (U.1 20)) rfl (i := 24) (by omega) (by decide) dX7_deliver_98 ?_
            refine m_sast hx hb hK hP hJ hS (k := 6) (by decide) (f := (U.1 7)) rfl (i := q) (y := U.1 20 24) (by omega) (by decide) (g1 24) dX7_deliver_99 (fun H locs hP hS => ?_)
            rw [mm_up7] at hP
            refine lv_aload_n hx hb dX7_deliver_100 rfl (lv_at hl 1 rfl) ?_
            refine m_get hx hb hts inX7 hown hK hP (ci := 7) rfl (k := 0) (by decide) rfl 3 (by decide) (hts (.fieldLink RX7 13 "RollbackPairModel" "stalls" "[I") (by decide +kernel)) rfl dX7_deliver_101 ?_
            refine lv_iload_n hx hb dX7_deliver_104 rfl (lv_at hl 2 rfl) ?_
            refine lv_iconst (v := nI 0) hx hb dX7_deliver_105 (by decide) ?_
            refine m_iast hx hb hK hP hJ hS (k := 2) (by decide) (f := (U.1 3)) rfl (i := q) (by omega) (by decide) dX7_deliver_106 (fun H locs hP hS => ?_)
            rw [mm_up3] at hP
            refine lv_aload_n hx hb dX7_deliver_107 rfl (lv_at hl 1 rfl) ?_
            refine m_get hx hb hts inX7 hown hK hP (ci := 7) rfl (k := 0) (by decide) rfl 9 (by decide) (hts (.fieldLink RX7 33 "RollbackPairModel" "advice" "[F") (by decide +kernel)) rfl dX7_deliver_108 ?_
            refine lv_iload_n hx hb dX7_deliver_111 rfl (lv_at hl 2 rfl) ?_
            refine lv_aload_n hx hb dX7_deliver_112 rfl (lv_at hl 1 rfl) ?_
            refine m_get hx hb hts inX7 hown hK hP (ci := 7) rfl (k := 0) (by decide) rfl 9 (by decide) (hts (.fieldLink RX7 33 "RollbackPairModel" "advice" "[F") (by decide +kernel)) rfl dX7_deliver_113 ?_
            refine lv_iload_n hx hb dX7_deliver_116 rfl (lv_at hl 2 rfl) ?_
            refine m_fald hx hb hK hP (k := 8) (by decide) (f := (U.2.1 9)) rfl (i := q) (by omega) (by decide) dX7_deliver_117 ?_
            refine lv_ldcf hx hb hown (hts (.constantFloat RX7 146 (1061158912)) (by decide +kernel)) dX7_deliver_118 ?_
            refine lv_fmul hx hb dX7_deliver_120 (av_1 g6).n ?_
            refine lv_ldcf hx hb hown (hts (.constantFloat RX7 147 (1048576000)) (by decide +kernel)) dX7_deliver_121 ?_
            refine lv_aload_n hx hb dX7_deliver_123 rfl (lv_at hl 1 rfl) ?_
            refine m_get hx hb hts inX7 hown hK hP (ci := 7) rfl (k := 0) (by decide) rfl 2 (by decide) (hts (.fieldLink RX7 7 "RollbackPairModel" "at" "[I") (by decide +kernel)) rfl dX7_deliver_124 ?_
            refine lv_iload_n hx hb dX7_deliver_127 rfl (lv_at hl 2 rfl) ?_
            refine m_iald hx hb hK hP (k := 1) (by decide) (f := (U.1 2)) rfl (i := q) (by omega) (by decide) dX7_deliver_128 ?_
            refine lv_aload_n hx hb dX7_deliver_129 rfl (lv_at hl 1 rfl) ?_
            refine m_get hx hb hts inX7 hown hK hP (ci := 7) rfl (k := 0) (by decide) rfl 21 (by decide) (hts (.fieldLink RX7 71 "RollbackPairModel" "pFrame" "[I") (by decide +kernel)) rfl dX7_deliver_130 ?_
            refine lv_bipush (v := nI 24) hx hb dX7_deliver_133 (by decide) ?_
            refine m_iald hx hb hK hP (k := 20) (by decide) (f := (U.1 21)) rfl (i := 24) (by omega) (by decide) dX7_deliver_135 ?_
            refine lv_isub hx hb dX7_deliver_136 ?_
            refine lv_i2f hx hb dX7_deliver_137 ?_
            refine lv_fmul hx hb dX7_deliver_138 (av_2 (i2f_b _)).n ?_
            refine lv_fadd hx hb dX7_deliver_139 (av_3 g6 (i2f_b _)).n ?_
            refine m_fast hx hb hK hP hJ hS (k := 8) (by decide) (f := (U.2.1 9)) rfl (i := q) (by omega) (by decide) dX7_deliver_140 (fun H locs hP hS => ?_)
            rw [mm_up9] at hP
            refine lv_aload_n hx hb dX7_deliver_141 rfl (lv_at hl 1 rfl) ?_
            refine m_get hx hb hts inX7 hown hK hP (ci := 7) rfl (k := 0) (by decide) rfl 22 (by decide) (hts (.fieldLink RX7 74 "RollbackPairModel" "pAck" "[I") (by decide +kernel)) rfl dX7_deliver_142 ?_
            refine lv_bipush (v := nI 24) hx hb dX7_deliver_145 (by decide) ?_
            refine m_iald hx hb hK hP (k := 21) (by decide) (f := (U.1 22)) rfl (i := 24) (by omega) (by decide) dX7_deliver_147 ?_
            refine lv_aload_n hx hb dX7_deliver_148 rfl (lv_at hl 1 rfl) ?_
            refine m_get hx hb hts inX7 hown hK hP (ci := 7) rfl (k := 0) (by decide) rfl 5 (by decide) (hts (.fieldLink RX7 19 "RollbackPairModel" "told" "[I") (by decide +kernel)) rfl dX7_deliver_149 ?_
            refine lv_iload_n hx hb dX7_deliver_152 rfl (lv_at hl 2 rfl) ?_
            refine m_iald hx hb hK hP (k := 4) (by decide) (f := (U.1 5)) rfl (i := q) (by omega) (by decide) dX7_deliver_153 ?_
            refine lv_icmp_le (tgt := 190) hx hb dX7_deliver_154 (by decide) (fun c6 => ?_) (fun c6 => ?_)
            · have hnd : ¬ dropP U q := fun z => z.elim c2n (fun z => z.elim c3 (fun z => z.1 c4))
              have hE : mAcc U q = mTk1 U q := if_neg (fun z => z.1 c6)
              exact J () ls H locs ⟨hnd, lv_sub hl [1, 2] rfl, by rw [hE]; exact hP, hS⟩
            · refine lv_aload_n hx hb dX7_deliver_157 rfl (lv_at hl 1 rfl) ?_
              refine m_get hx hb hts inX7 hown hK hP (ci := 7) rfl (k := 0) (by decide) rfl 22 (by decide) (hts (.fieldLink RX7 74 "RollbackPairModel" "pAck" "[I") (by decide +kernel)) rfl dX7_deliver_158 ?_
              refine lv_bipush (v := nI 24) hx hb dX7_deliver_161 (by decide) ?_
              refine m_iald hx hb hK hP (k := 21) (by decide) (f := (U.1 22)) rfl (i := 24) (by omega) (by decide) dX7_deliver_163 ?_
              refine lv_aload_n hx hb dX7_deliver_164 rfl (lv_at hl 1 rfl) ?_
              refine m_get hx hb hts inX7 hown hK hP (ci := 7) rfl (k := 0) (by decide) rfl 12 (by decide) (hts (.fieldLink RX7 43 "RollbackPairModel" "known" "[I") (by decide +kernel)) rfl dX7_deliver_165 ?_
              refine lv_iconst (v := nI 2) hx hb dX7_deliver_168 (by decide) ?_
              refine lv_iload_n hx hb dX7_deliver_169 rfl (lv_at hl 2 rfl) ?_
              refine n_mul hx hb dX7_deliver_170 ?_
              refine lv_iload_n hx hb dX7_deliver_171 rfl (lv_at hl 2 rfl) ?_
              refine n_add hx hb dX7_deliver_172 ?_
              refine m_iald hx hb hK hP (k := 11) (by decide) (f := (U.1 12)) rfl (i := 2 * q + q) (by omega) (by decide) dX7_deliver_173 ?_
              refine lv_icmp_gt (tgt := 190) hx hb dX7_deliver_174 (by decide) (fun c7 => ?_) (fun c7 => ?_)
              · have hnd : ¬ dropP U q := fun z => z.elim c2n (fun z => z.elim c3 (fun z => z.1 c4))
                have hE : mAcc U q = mTk1 U q := if_neg (fun z => z.2 c7)
                exact J () ls H locs ⟨hnd, lv_sub hl [1, 2] rfl, by rw [hE]; exact hP, hS⟩
              · refine lv_aload_n hx hb dX7_deliver_177 rfl (lv_at hl 1 rfl) ?_
                refine m_get hx hb hts inX7 hown hK hP (ci := 7) rfl (k := 0) (by decide) rfl 5 (by decide) (hts (.fieldLink RX7 19 "RollbackPairModel" "told" "[I") (by decide +kernel)) rfl dX7_deliver_178 ?_
                refine lv_iload_n hx hb dX7_deliver_181 rfl (lv_at hl 2 rfl) ?_
                refine lv_aload_n hx hb dX7_deliver_182 rfl (lv_at hl 1 rfl) ?_
                refine m_get hx hb hts inX7 hown hK hP (ci := 7) rfl (k := 0) (by decide) rfl 22 (by decide) (hts (.fieldLink RX7 74 "RollbackPairModel" "pAck" "[I") (by decide +kernel)) rfl dX7_deliver_183 ?_
                refine lv_bipush (v := nI 24) hx hb dX7_deliver_186 (by decide) ?_
                refine m_iald hx hb hK hP (k := 21) (by decide) (f := (U.1 22)) rfl (i := 24) (by omega) (by decide) dX7_deliver_188 ?_
                refine m_iast hx hb hK hP hJ hS (k := 4) (by decide) (f := (U.1 5)) rfl (i := q) (by omega) (by decide) dX7_deliver_189 (fun H locs hP hS => ?_)
                rw [mm_up5] at hP
                have hnd : ¬ dropP U q := fun z => z.elim c2n (fun z => z.elim c3 (fun z => z.1 c4))
                have hE : mAcc U q = sI (mTk1 U q) 5 (upd (U.1 5) q (U.1 22 24)) := if_pos ⟨c6, c7⟩
                exact J () ls H locs ⟨hnd, lv_sub hl [1, 2] rfl, by rw [hE]; exact hP, hS⟩
          · refine lv_iload_n hx hb dX7_deliver_73 rfl (lv_at hl 0 rfl) ?_
            refine lv_if_gt (tgt := 80) hx hb dX7_deliver_74 (by decide) (fun c5 => ?_) (fun c5 => ?_)
            · refine lv_aload_n hx hb dX7_deliver_80 rfl (lv_at hl 1 rfl) ?_
              refine m_get hx hb hts inX7 hown hK hP (ci := 7) rfl (k := 0) (by decide) rfl 6 (by decide) (hts (.fieldLink RX7 22 "RollbackPairModel" "took" "[Z") (by decide +kernel)) rfl dX7_deliver_81 ?_
              refine lv_iload_n hx hb dX7_deliver_84 rfl (lv_at hl 2 rfl) ?_
              refine lv_iconst (v := nI 1) hx hb dX7_deliver_85 (by decide) ?_
              refine m_zast hx hb hK hP hJ hS (k := 5) (by decide) (f := (U.1 6)) rfl (i := q) (y := nI 1) (by omega) (by decide) rfl dX7_deliver_86 (fun H locs hP hS => ?_)
              rw [mm_up6] at hP
              refine lv_aload_n hx hb dX7_deliver_87 rfl (lv_at hl 1 rfl) ?_
              refine m_get hx hb hts inX7 hown hK hP (ci := 7) rfl (k := 0) (by decide) rfl 7 (by decide) (hts (.fieldLink RX7 26 "RollbackPairModel" "latest" "[S") (by decide +kernel)) rfl dX7_deliver_88 ?_
              refine lv_iload_n hx hb dX7_deliver_91 rfl (lv_at hl 2 rfl) ?_
              refine lv_aload_n hx hb dX7_deliver_92 rfl (lv_at hl 1 rfl) ?_
              refine m_get hx hb hts inX7 hown hK hP (ci := 7) rfl (k := 0) (by decide) rfl 20 (by decide) (hts (.fieldLink RX7 68 "RollbackPairModel" "pNumber" "[S") (by decide +kernel)) rfl dX7_deliver_93 ?_
              refine lv_bipush (v := nI 24) hx hb dX7_deliver_96 (by decide) ?_
              refine m_sald hx hb hK hP (k := 19) (by decide) (f := (U.1 20)) rfl (i := 24) (by omega) (by decide) dX7_deliver_98 ?_
              refine m_sast hx hb hK hP hJ hS (k := 6) (by decide) (f := (U.1 7)) rfl (i := q) (y := U.1 20 24) (by omega) (by decide) (g1 24) dX7_deliver_99 (fun H locs hP hS => ?_)
              rw [mm_up7] at hP
              refine lv_aload_n hx hb dX7_deliver_100 rfl (lv_at hl 1 rfl) ?_
              refine m_get hx hb hts inX7 hown hK hP (ci := 7) rfl (k := 0) (by decide) rfl 3 (by decide) (hts (.fieldLink RX7 13 "RollbackPairModel" "stalls" "[I") (by decide +kernel)) rfl dX7_deliver_101 ?_
              refine lv_iload_n hx hb dX7_deliver_104 rfl (lv_at hl 2 rfl) ?_
              refine lv_iconst (v := nI 0) hx hb dX7_deliver_105 (by decide) ?_
              refine m_iast hx hb hK hP hJ hS (k := 2) (by decide) (f := (U.1 3)) rfl (i := q) (by omega) (by decide) dX7_deliver_106 (fun H locs hP hS => ?_)
              rw [mm_up3] at hP
              refine lv_aload_n hx hb dX7_deliver_107 rfl (lv_at hl 1 rfl) ?_
              refine m_get hx hb hts inX7 hown hK hP (ci := 7) rfl (k := 0) (by decide) rfl 9 (by decide) (hts (.fieldLink RX7 33 "RollbackPairModel" "advice" "[F") (by decide +kernel)) rfl dX7_deliver_108 ?_
              refine lv_iload_n hx hb dX7_deliver_111 rfl (lv_at hl 2 rfl) ?_
              refine lv_aload_n hx hb dX7_deliver_112 rfl (lv_at hl 1 rfl) ?_
              refine m_get hx hb hts inX7 hown hK hP (ci := 7) rfl (k := 0) (by decide) rfl 9 (by decide) (hts (.fieldLink RX7 33 "RollbackPairModel" "advice" "[F") (by decide +kernel)) rfl dX7_deliver_113 ?_
              refine lv_iload_n hx hb dX7_deliver_116 rfl (lv_at hl 2 rfl) ?_
              refine m_fald hx hb hK hP (k := 8) (by decide) (f := (U.2.1 9)) rfl (i := q) (by omega) (by decide) dX7_deliver_117 ?_
              refine lv_ldcf hx hb hown (hts (.constantFloat RX7 146 (1061158912)) (by decide +kernel)) dX7_deliver_118 ?_
              refine lv_fmul hx hb dX7_deliver_120 (av_1 g6).n ?_
              refine lv_ldcf hx hb hown (hts (.constantFloat RX7 147 (1048576000)) (by decide +kernel)) dX7_deliver_121 ?_
              refine lv_aload_n hx hb dX7_deliver_123 rfl (lv_at hl 1 rfl) ?_
              refine m_get hx hb hts inX7 hown hK hP (ci := 7) rfl (k := 0) (by decide) rfl 2 (by decide) (hts (.fieldLink RX7 7 "RollbackPairModel" "at" "[I") (by decide +kernel)) rfl dX7_deliver_124 ?_
              refine lv_iload_n hx hb dX7_deliver_127 rfl (lv_at hl 2 rfl) ?_
              refine m_iald hx hb hK hP (k := 1) (by decide) (f := (U.1 2)) rfl (i := q) (by omega) (by decide) dX7_deliver_128 ?_
              refine lv_aload_n hx hb dX7_deliver_129 rfl (lv_at hl 1 rfl) ?_
              refine m_get hx hb hts inX7 hown hK hP (ci := 7) rfl (k := 0) (by decide) rfl 21 (by decide) (hts (.fieldLink RX7 71 "RollbackPairModel" "pFrame" "[I") (by decide +kernel)) rfl dX7_deliver_130 ?_
              refine lv_bipush (v := nI 24) hx hb dX7_deliver_133 (by decide) ?_
              refine m_iald hx hb hK hP (k := 20) (by decide) (f := (U.1 21)) rfl (i := 24) (by omega) (by decide) dX7_deliver_135 ?_
              refine lv_isub hx hb dX7_deliver_136 ?_
              refine lv_i2f hx hb dX7_deliver_137 ?_
              refine lv_fmul hx hb dX7_deliver_138 (av_2 (i2f_b _)).n ?_
              refine lv_fadd hx hb dX7_deliver_139 (av_3 g6 (i2f_b _)).n ?_
              refine m_fast hx hb hK hP hJ hS (k := 8) (by decide) (f := (U.2.1 9)) rfl (i := q) (by omega) (by decide) dX7_deliver_140 (fun H locs hP hS => ?_)
              rw [mm_up9] at hP
              refine lv_aload_n hx hb dX7_deliver_141 rfl (lv_at hl 1 rfl) ?_
              refine m_get hx hb hts inX7 hown hK hP (ci := 7) rfl (k := 0) (by decide) rfl 22 (by decide) (hts (.fieldLink RX7 74 "RollbackPairModel" "pAck" "[I") (by decide +kernel)) rfl dX7_deliver_142 ?_
              refine lv_bipush (v := nI 24) hx hb dX7_deliver_145 (by decide) ?_
              refine m_iald hx hb hK hP (k := 21) (by decide) (f := (U.1 22)) rfl (i := 24) (by omega) (by decide) dX7_deliver_147 ?_
              refine lv_aload_n hx hb dX7_deliver_148 rfl (lv_at hl 1 rfl) ?_
              refine m_get hx hb hts inX7 hown hK hP (ci := 7) rfl (k := 0) (by decide) rfl 5 (by decide) (hts (.fieldLink RX7 19 "RollbackPairModel" "told" "[I") (by decide +kernel)) rfl dX7_deliver_149 ?_
              refine lv_iload_n hx hb dX7_deliver_152 rfl (lv_at hl 2 rfl) ?_
              refine m_iald hx hb hK hP (k := 4) (by decide) (f := (U.1 5)) rfl (i := q) (by omega) (by decide) dX7_deliver_153 ?_
              refine lv_icmp_le (tgt := 190) hx hb dX7_deliver_154 (by decide) (fun c6 => ?_) (fun c6 => ?_)
              · have hnd : ¬ dropP U q := fun z => z.elim c2n (fun z => z.elim c3 (fun z => z.2 c5))
                have hE : mAcc U q = mTk1 U q := if_neg (fun z => z.1 c6)
                exact J () ls H locs ⟨hnd, lv_sub hl [1, 2] rfl, by rw [hE]; exact hP, hS⟩
              · refine lv_aload_n hx hb dX7_deliver_157 rfl (lv_at hl 1 rfl) ?_
                refine m_get hx hb hts inX7 hown hK hP (ci := 7) rfl (k := 0) (by decide) rfl 22 (by decide) (hts (.fieldLink RX7 74 "RollbackPairModel" "pAck" "[I") (by decide +kernel)) rfl dX7_deliver_158 ?_
                refine lv_bipush (v := nI 24) hx hb dX7_deliver_161 (by decide) ?_
                refine m_iald hx hb hK hP (k := 21) (by decide) (f := (U.1 22)) rfl (i := 24) (by omega) (by decide) dX7_deliver_163 ?_
                refine lv_aload_n hx hb dX7_deliver_164 rfl (lv_at hl 1 rfl) ?_
                refine m_get hx hb hts inX7 hown hK hP (ci := 7) rfl (k := 0) (by decide) rfl 12 (by decide) (hts (.fieldLink RX7 43 "RollbackPairModel" "known" "[I") (by decide +kernel)) rfl dX7_deliver_165 ?_
                refine lv_iconst (v := nI 2) hx hb dX7_deliver_168 (by decide) ?_
                refine lv_iload_n hx hb dX7_deliver_169 rfl (lv_at hl 2 rfl) ?_
                refine n_mul hx hb dX7_deliver_170 ?_
                refine lv_iload_n hx hb dX7_deliver_171 rfl (lv_at hl 2 rfl) ?_
                refine n_add hx hb dX7_deliver_172 ?_
                refine m_iald hx hb hK hP (k := 11) (by decide) (f := (U.1 12)) rfl (i := 2 * q + q) (by omega) (by decide) dX7_deliver_173 ?_
                refine lv_icmp_gt (tgt := 190) hx hb dX7_deliver_174 (by decide) (fun c7 => ?_) (fun c7 => ?_)
                · have hnd : ¬ dropP U q := fun z => z.elim c2n (fun z => z.elim c3 (fun z => z.2 c5))
                  have hE : mAcc U q = mTk1 U q := if_neg (fun z => z.2 c7)
                  exact J () ls H locs ⟨hnd, lv_sub hl [1, 2] rfl, by rw [hE]; exact hP, hS⟩
                · refine lv_aload_n hx hb dX7_deliver_177 rfl (lv_at hl 1 rfl) ?_
                  refine m_get hx hb hts inX7 hown hK hP (ci := 7) rfl (k := 0) (by decide) rfl 5 (by decide) (hts (.fieldLink RX7 19 "RollbackPairModel" "told" "[I") (by decide +kernel)) rfl dX7_deliver_178 ?_
                  refine lv_iload_n hx hb dX7_deliver_181 rfl (lv_at hl 2 rfl) ?_
                  refine lv_aload_n hx hb dX7_deliver_182 rfl (lv_at hl 1 rfl) ?_
                  refine m_get hx hb hts inX7 hown hK hP (ci := 7) rfl (k := 0) (by decide) rfl 22 (by decide) (hts (.fieldLink RX7 74 "RollbackPairModel" "pAck" "[I") (by decide +kernel)) rfl dX7_deliver_183 ?_
                  refine lv_bipush (v := nI 24) hx hb dX7_deliver_186 (by decide) ?_
                  refine m_iald hx hb hK hP (k := 21) (by decide) (f := (U.1 22)) rfl (i := 24) (by omega) (by decide) dX7_deliver_188 ?_
                  refine m_iast hx hb hK hP hJ hS (k := 4) (by decide) (f := (U.1 5)) rfl (i := q) (by omega) (by decide) dX7_deliver_189 (fun H locs hP hS => ?_)
                  rw [mm_up5] at hP
                  have hnd : ¬ dropP U q := fun z => z.elim c2n (fun z => z.elim c3 (fun z => z.2 c5))
                  have hE : mAcc U q = sI (mTk1 U q) 5 (upd (U.1 5) q (U.1 22 24)) := if_pos ⟨c6, c7⟩
                  exact J () ls H locs ⟨hnd, lv_sub hl [1, 2] rfl, by rw [hE]; exact hP, hS⟩
            · have hdr : dropP U q := Or.inr (Or.inr ⟨c4, c5⟩)
              refine lv_bipush (v := (-2)) hx hb dX7_deliver_77 (by decide) ?_
              exact r_i hx hb hr hlocks hK hP hS dX7_deliver_79 ⟨by unfold rDel2; rw [if_pos hdr], np, ns, by unfold mDel2; rw [if_pos hdr]⟩
  · refine lv_iconst (v := (-1)) hx hb dX7_deliver_16 (by decide) ?_
    have hz : S.1 19 q = 0 := by rw [hr0, c1]; exact nI_0
    exact r_i hx hb hr hlocks hK hP hS dX7_deliver_17 ⟨by unfold rDel; rw [if_pos hz], np, ns, by unfold mDel; rw [if_pos hz]⟩
end
section
set_option maxRecDepth 20000 in
theorem ggX7_alter_X7_isTwo : GoodIn wsX7_alter wsX7_isTwo := goodIn_r _ [5] (by decide +kernel) (by decide +kernel)
set_option maxRecDepth 20000 in
theorem gX7_alter_X7_isTwo : GoodIn wsX7_alter (va_wsS RX7 131 yX7_isTwo wsX7_isTwo) := goodIn_app (goodIn_of _ (by decide +kernel)) ggX7_alter_X7_isTwo
set_option maxRecDepth 20000 in
theorem ggX7_alter_X7_copy : GoodIn wsX7_alter wsX7_copy := goodIn_r _ [9, 10, 11, 12, 13, 14, 15, 16, 21, 22, 23, 24, 25, 26, 27, 28, 29, 30, 31, 32, 33, 34, 35, 36, 37, 38, 39, 40, 41, 42, 43, 44, 45, 46, 47, 48, 49] (by decide +kernel) (by decide +kernel)
set_option maxRecDepth 20000 in
theorem gX7_alter_X7_copy : GoodIn wsX7_alter (wsV RX7 128 RX7 yX7_copy wsX7_copy) := goodIn_app (goodIn_of _ (by decide +kernel)) ggX7_alter_X7_copy
set_option maxRecDepth 20000 in
theorem ggX7_alter_X7_take : GoodIn wsX7_alter wsX7_take := goodIn_r _ [20, 1, 6, 7, 8, 4, 9, 10, 11, 12, 13, 14, 15, 16, 21, 22, 23, 24, 25, 26, 27, 28, 29, 30, 31, 32, 33, 34, 35, 36, 37, 38, 39, 40, 41, 42, 43, 44, 45, 46, 47, 48, 49] (by decide +kernel) (by decide +kernel)
set_option maxRecDepth 20000 in
theorem gX7_alter_X7_take : GoodIn wsX7_alter (wsV RX7 143 RX7 yX7_take wsX7_take) := goodIn_app (goodIn_of _ (by decide +kernel)) ggX7_alter_X7_take
theorem dX7_alter_0 : decode cX7_alter 0 = .ok (.iload_n 1, 1) := by decide +kernel
theorem dX7_alter_1 : decode cX7_alter 1 = .ok (.invokestatic 131, 3) := by decide +kernel
theorem dX7_alter_4 : decode cX7_alter 4 = .ok (.ifCond .eq 37, 3) := by decide +kernel
theorem dX7_alter_7 : decode cX7_alter 7 = .ok (.iload_n 2, 1) := by decide +kernel
theorem dX7_alter_8 : decode cX7_alter 8 = .ok (.ifCond .lt 33, 3) := by decide +kernel
theorem dX7_alter_11 : decode cX7_alter 11 = .ok (.iload_n 2, 1) := by decide +kernel
theorem dX7_alter_12 : decode cX7_alter 12 = .ok (.iconst 2, 1) := by decide +kernel
theorem dX7_alter_13 : decode cX7_alter 13 = .ok (.if_icmp .gt 28, 3) := by decide +kernel
theorem dX7_alter_16 : decode cX7_alter 16 = .ok (.aload_n 0, 1) := by decide +kernel
theorem dX7_alter_17 : decode cX7_alter 17 = .ok (.getfield 65, 3) := by decide +kernel
theorem dX7_alter_20 : decode cX7_alter 20 = .ok (.iload_n 1, 1) := by decide +kernel
theorem dX7_alter_21 : decode cX7_alter 21 = .ok (.iaload, 1) := by decide +kernel
theorem dX7_alter_22 : decode cX7_alter 22 = .ok (.ifCond .eq 19, 3) := by decide +kernel
theorem dX7_alter_25 : decode cX7_alter 25 = .ok (.iload_n 2, 1) := by decide +kernel
theorem dX7_alter_26 : decode cX7_alter 26 = .ok (.iconst 1, 1) := by decide +kernel
theorem dX7_alter_27 : decode cX7_alter 27 = .ok (.if_icmp .ne 16, 3) := by decide +kernel
theorem dX7_alter_30 : decode cX7_alter 30 = .ok (.aload_n 0, 1) := by decide +kernel
theorem dX7_alter_31 : decode cX7_alter 31 = .ok (.getfield 65, 3) := by decide +kernel
theorem dX7_alter_34 : decode cX7_alter 34 = .ok (.iload_n 1, 1) := by decide +kernel
theorem dX7_alter_35 : decode cX7_alter 35 = .ok (.iaload, 1) := by decide +kernel
theorem dX7_alter_36 : decode cX7_alter 36 = .ok (.bipush 12, 2) := by decide +kernel
theorem dX7_alter_38 : decode cX7_alter 38 = .ok (.if_icmp .ne 5, 3) := by decide +kernel
theorem dX7_alter_41 : decode cX7_alter 41 = .ok (.iconst 0, 1) := by decide +kernel
theorem dX7_alter_42 : decode cX7_alter 42 = .ok (.ireturn, 1) := by decide +kernel
theorem dX7_alter_43 : decode cX7_alter 43 = .ok (.iload_n 2, 1) := by decide +kernel
theorem dX7_alter_44 : decode cX7_alter 44 = .ok (.iconst 1, 1) := by decide +kernel
theorem dX7_alter_45 : decode cX7_alter 45 = .ok (.if_icmp .ne 34, 3) := by decide +kernel
theorem dX7_alter_48 : decode cX7_alter 48 = .ok (.aload_n 0, 1) := by decide +kernel
theorem dX7_alter_49 : decode cX7_alter 49 = .ok (.bipush 12, 2) := by decide +kernel
theorem dX7_alter_51 : decode cX7_alter 51 = .ok (.iload_n 1, 1) := by decide +kernel
theorem dX7_alter_52 : decode cX7_alter 52 = .ok (.imul, 1) := by decide +kernel
theorem dX7_alter_53 : decode cX7_alter 53 = .ok (.bipush 12, 2) := by decide +kernel
theorem dX7_alter_55 : decode cX7_alter 55 = .ok (.iload_n 1, 1) := by decide +kernel
theorem dX7_alter_56 : decode cX7_alter 56 = .ok (.imul, 1) := by decide +kernel
theorem dX7_alter_57 : decode cX7_alter 57 = .ok (.aload_n 0, 1) := by decide +kernel
theorem dX7_alter_58 : decode cX7_alter 58 = .ok (.getfield 65, 3) := by decide +kernel
theorem dX7_alter_61 : decode cX7_alter 61 = .ok (.iload_n 1, 1) := by decide +kernel
theorem dX7_alter_62 : decode cX7_alter 62 = .ok (.iaload, 1) := by decide +kernel
theorem dX7_alter_63 : decode cX7_alter 63 = .ok (.iadd, 1) := by decide +kernel
theorem dX7_alter_64 : decode cX7_alter 64 = .ok (.invokevirtual 128, 3) := by decide +kernel
theorem dX7_alter_67 : decode cX7_alter 67 = .ok (.aload_n 0, 1) := by decide +kernel
theorem dX7_alter_68 : decode cX7_alter 68 = .ok (.getfield 65, 3) := by decide +kernel
theorem dX7_alter_71 : decode cX7_alter 71 = .ok (.iload_n 1, 1) := by decide +kernel
theorem dX7_alter_72 : decode cX7_alter 72 = .ok (.dup2, 1) := by decide +kernel
theorem dX7_alter_73 : decode cX7_alter 73 = .ok (.iaload, 1) := by decide +kernel
theorem dX7_alter_74 : decode cX7_alter 74 = .ok (.iconst 1, 1) := by decide +kernel
theorem dX7_alter_75 : decode cX7_alter 75 = .ok (.iadd, 1) := by decide +kernel
theorem dX7_alter_76 : decode cX7_alter 76 = .ok (.iastore, 1) := by decide +kernel
theorem dX7_alter_77 : decode cX7_alter 77 = .ok (.iconst 1, 1) := by decide +kernel
theorem dX7_alter_78 : decode cX7_alter 78 = .ok (.ireturn, 1) := by decide +kernel
theorem dX7_alter_79 : decode cX7_alter 79 = .ok (.aload_n 0, 1) := by decide +kernel
theorem dX7_alter_80 : decode cX7_alter 80 = .ok (.iload_n 1, 1) := by decide +kernel
theorem dX7_alter_81 : decode cX7_alter 81 = .ok (.invokevirtual 143, 3) := by decide +kernel
theorem dX7_alter_84 : decode cX7_alter 84 = .ok (.iload_n 2, 1) := by decide +kernel
theorem dX7_alter_85 : decode cX7_alter 85 = .ok (.iconst 2, 1) := by decide +kernel
theorem dX7_alter_86 : decode cX7_alter 86 = .ok (.if_icmp .ne 30, 3) := by decide +kernel
theorem dX7_alter_89 : decode cX7_alter 89 = .ok (.aload_n 0, 1) := by decide +kernel
theorem dX7_alter_90 : decode cX7_alter 90 = .ok (.bipush 24, 2) := by decide +kernel
theorem dX7_alter_92 : decode cX7_alter 92 = .ok (.bipush 12, 2) := by decide +kernel
theorem dX7_alter_94 : decode cX7_alter 94 = .ok (.iload_n 1, 1) := by decide +kernel
theorem dX7_alter_95 : decode cX7_alter 95 = .ok (.imul, 1) := by decide +kernel
theorem dX7_alter_96 : decode cX7_alter 96 = .ok (.aload_n 0, 1) := by decide +kernel
theorem dX7_alter_97 : decode cX7_alter 97 = .ok (.getfield 65, 3) := by decide +kernel
theorem dX7_alter_100 : decode cX7_alter 100 = .ok (.iload_n 1, 1) := by decide +kernel
theorem dX7_alter_101 : decode cX7_alter 101 = .ok (.iaload, 1) := by decide +kernel
theorem dX7_alter_102 : decode cX7_alter 102 = .ok (.iadd, 1) := by decide +kernel
theorem dX7_alter_103 : decode cX7_alter 103 = .ok (.invokevirtual 128, 3) := by decide +kernel
theorem dX7_alter_106 : decode cX7_alter 106 = .ok (.aload_n 0, 1) := by decide +kernel
theorem dX7_alter_107 : decode cX7_alter 107 = .ok (.getfield 65, 3) := by decide +kernel
theorem dX7_alter_110 : decode cX7_alter 110 = .ok (.iload_n 1, 1) := by decide +kernel
theorem dX7_alter_111 : decode cX7_alter 111 = .ok (.dup2, 1) := by decide +kernel
theorem dX7_alter_112 : decode cX7_alter 112 = .ok (.iaload, 1) := by decide +kernel
theorem dX7_alter_113 : decode cX7_alter 113 = .ok (.iconst 1, 1) := by decide +kernel
theorem dX7_alter_114 : decode cX7_alter 114 = .ok (.iadd, 1) := by decide +kernel
theorem dX7_alter_115 : decode cX7_alter 115 = .ok (.iastore, 1) := by decide +kernel
theorem dX7_alter_116 : decode cX7_alter 116 = .ok (.iconst 1, 1) := by decide +kernel
theorem dX7_alter_117 : decode cX7_alter 117 = .ok (.ireturn, 1) := by decide +kernel
set_option maxRecDepth 20000 in
theorem ggX7_spoil_X7_isTwo : GoodIn wsX7_spoil wsX7_isTwo := goodIn_r _ [13] (by decide +kernel) (by decide +kernel)
set_option maxRecDepth 20000 in
theorem gX7_spoil_X7_isTwo : GoodIn wsX7_spoil (va_wsS RX7 131 yX7_isTwo wsX7_isTwo) := goodIn_app (goodIn_of _ (by decide +kernel)) ggX7_spoil_X7_isTwo
theorem dX7_spoil_0 : decode cX7_spoil 0 = .ok (.iload_n 1, 1) := by decide +kernel
theorem dX7_spoil_1 : decode cX7_spoil 1 = .ok (.invokestatic 131, 3) := by decide +kernel
theorem dX7_spoil_4 : decode cX7_spoil 4 = .ok (.ifCond .eq 22, 3) := by decide +kernel
theorem dX7_spoil_7 : decode cX7_spoil 7 = .ok (.iload_n 2, 1) := by decide +kernel
theorem dX7_spoil_8 : decode cX7_spoil 8 = .ok (.ifCond .lt 18, 3) := by decide +kernel
theorem dX7_spoil_11 : decode cX7_spoil 11 = .ok (.iload_n 2, 1) := by decide +kernel
theorem dX7_spoil_12 : decode cX7_spoil 12 = .ok (.bipush 6, 2) := by decide +kernel
theorem dX7_spoil_14 : decode cX7_spoil 14 = .ok (.if_icmp .gt 12, 3) := by decide +kernel
theorem dX7_spoil_17 : decode cX7_spoil 17 = .ok (.aload_n 0, 1) := by decide +kernel
theorem dX7_spoil_18 : decode cX7_spoil 18 = .ok (.getfield 65, 3) := by decide +kernel
theorem dX7_spoil_21 : decode cX7_spoil 21 = .ok (.iload_n 1, 1) := by decide +kernel
theorem dX7_spoil_22 : decode cX7_spoil 22 = .ok (.iaload, 1) := by decide +kernel
theorem dX7_spoil_23 : decode cX7_spoil 23 = .ok (.ifCond .ne 5, 3) := by decide +kernel
theorem dX7_spoil_26 : decode cX7_spoil 26 = .ok (.iconst 0, 1) := by decide +kernel
theorem dX7_spoil_27 : decode cX7_spoil 27 = .ok (.ireturn, 1) := by decide +kernel
theorem dX7_spoil_28 : decode cX7_spoil 28 = .ok (.bipush 12, 2) := by decide +kernel
theorem dX7_spoil_30 : decode cX7_spoil 30 = .ok (.iload_n 1, 1) := by decide +kernel
theorem dX7_spoil_31 : decode cX7_spoil 31 = .ok (.imul, 1) := by decide +kernel
theorem dX7_spoil_32 : decode cX7_spoil 32 = .ok (.istore 4, 2) := by decide +kernel
theorem dX7_spoil_34 : decode cX7_spoil 34 = .ok (.aload_n 0, 1) := by decide +kernel
theorem dX7_spoil_35 : decode cX7_spoil 35 = .ok (.getfield 68, 3) := by decide +kernel
theorem dX7_spoil_38 : decode cX7_spoil 38 = .ok (.iload 4, 2) := by decide +kernel
theorem dX7_spoil_40 : decode cX7_spoil 40 = .ok (.iload_n 2, 1) := by decide +kernel
theorem dX7_spoil_41 : decode cX7_spoil 41 = .ok (.ifCond .ne 16, 3) := by decide +kernel
theorem dX7_spoil_44 : decode cX7_spoil 44 = .ok (.aload_n 0, 1) := by decide +kernel
theorem dX7_spoil_45 : decode cX7_spoil 45 = .ok (.getfield 68, 3) := by decide +kernel
theorem dX7_spoil_48 : decode cX7_spoil 48 = .ok (.iload 4, 2) := by decide +kernel
theorem dX7_spoil_50 : decode cX7_spoil 50 = .ok (.saload, 1) := by decide +kernel
theorem dX7_spoil_51 : decode cX7_spoil 51 = .ok (.iload_n 3, 1) := by decide +kernel
theorem dX7_spoil_52 : decode cX7_spoil 52 = .ok (.ixor, 1) := by decide +kernel
theorem dX7_spoil_53 : decode cX7_spoil 53 = .ok (.i2s, 1) := by decide +kernel
theorem dX7_spoil_54 : decode cX7_spoil 54 = .ok (.goto 10, 3) := by decide +kernel
theorem dX7_spoil_57 : decode cX7_spoil 57 = .ok (.aload_n 0, 1) := by decide +kernel
theorem dX7_spoil_58 : decode cX7_spoil 58 = .ok (.getfield 68, 3) := by decide +kernel
theorem dX7_spoil_61 : decode cX7_spoil 61 = .ok (.iload 4, 2) := by decide +kernel
theorem dX7_spoil_63 : decode cX7_spoil 63 = .ok (.saload, 1) := by decide +kernel
theorem dX7_spoil_64 : decode cX7_spoil 64 = .ok (.sastore, 1) := by decide +kernel
theorem dX7_spoil_65 : decode cX7_spoil 65 = .ok (.aload_n 0, 1) := by decide +kernel
theorem dX7_spoil_66 : decode cX7_spoil 66 = .ok (.getfield 71, 3) := by decide +kernel
theorem dX7_spoil_69 : decode cX7_spoil 69 = .ok (.iload 4, 2) := by decide +kernel
theorem dX7_spoil_71 : decode cX7_spoil 71 = .ok (.iload_n 2, 1) := by decide +kernel
theorem dX7_spoil_72 : decode cX7_spoil 72 = .ok (.iconst 1, 1) := by decide +kernel
theorem dX7_spoil_73 : decode cX7_spoil 73 = .ok (.if_icmp .ne 15, 3) := by decide +kernel
theorem dX7_spoil_76 : decode cX7_spoil 76 = .ok (.aload_n 0, 1) := by decide +kernel
theorem dX7_spoil_77 : decode cX7_spoil 77 = .ok (.getfield 71, 3) := by decide +kernel
theorem dX7_spoil_80 : decode cX7_spoil 80 = .ok (.iload 4, 2) := by decide +kernel
theorem dX7_spoil_82 : decode cX7_spoil 82 = .ok (.iaload, 1) := by decide +kernel
theorem dX7_spoil_83 : decode cX7_spoil 83 = .ok (.iload_n 3, 1) := by decide +kernel
theorem dX7_spoil_84 : decode cX7_spoil 84 = .ok (.ixor, 1) := by decide +kernel
theorem dX7_spoil_85 : decode cX7_spoil 85 = .ok (.goto 10, 3) := by decide +kernel
theorem dX7_spoil_88 : decode cX7_spoil 88 = .ok (.aload_n 0, 1) := by decide +kernel
theorem dX7_spoil_89 : decode cX7_spoil 89 = .ok (.getfield 71, 3) := by decide +kernel
theorem dX7_spoil_92 : decode cX7_spoil 92 = .ok (.iload 4, 2) := by decide +kernel
theorem dX7_spoil_94 : decode cX7_spoil 94 = .ok (.iaload, 1) := by decide +kernel
theorem dX7_spoil_95 : decode cX7_spoil 95 = .ok (.iastore, 1) := by decide +kernel
theorem dX7_spoil_96 : decode cX7_spoil 96 = .ok (.aload_n 0, 1) := by decide +kernel
theorem dX7_spoil_97 : decode cX7_spoil 97 = .ok (.getfield 74, 3) := by decide +kernel
theorem dX7_spoil_100 : decode cX7_spoil 100 = .ok (.iload 4, 2) := by decide +kernel
theorem dX7_spoil_102 : decode cX7_spoil 102 = .ok (.iload_n 2, 1) := by decide +kernel
theorem dX7_spoil_103 : decode cX7_spoil 103 = .ok (.iconst 2, 1) := by decide +kernel
theorem dX7_spoil_104 : decode cX7_spoil 104 = .ok (.if_icmp .ne 15, 3) := by decide +kernel
theorem dX7_spoil_107 : decode cX7_spoil 107 = .ok (.aload_n 0, 1) := by decide +kernel
theorem dX7_spoil_108 : decode cX7_spoil 108 = .ok (.getfield 74, 3) := by decide +kernel
theorem dX7_spoil_111 : decode cX7_spoil 111 = .ok (.iload 4, 2) := by decide +kernel
theorem dX7_spoil_113 : decode cX7_spoil 113 = .ok (.iaload, 1) := by decide +kernel
theorem dX7_spoil_114 : decode cX7_spoil 114 = .ok (.iload_n 3, 1) := by decide +kernel
theorem dX7_spoil_115 : decode cX7_spoil 115 = .ok (.ixor, 1) := by decide +kernel
theorem dX7_spoil_116 : decode cX7_spoil 116 = .ok (.goto 10, 3) := by decide +kernel
theorem dX7_spoil_119 : decode cX7_spoil 119 = .ok (.aload_n 0, 1) := by decide +kernel
theorem dX7_spoil_120 : decode cX7_spoil 120 = .ok (.getfield 74, 3) := by decide +kernel
theorem dX7_spoil_123 : decode cX7_spoil 123 = .ok (.iload 4, 2) := by decide +kernel
theorem dX7_spoil_125 : decode cX7_spoil 125 = .ok (.iaload, 1) := by decide +kernel
theorem dX7_spoil_126 : decode cX7_spoil 126 = .ok (.iastore, 1) := by decide +kernel
theorem dX7_spoil_127 : decode cX7_spoil 127 = .ok (.aload_n 0, 1) := by decide +kernel
theorem dX7_spoil_128 : decode cX7_spoil 128 = .ok (.getfield 77, 3) := by decide +kernel
theorem dX7_spoil_131 : decode cX7_spoil 131 = .ok (.iload 4, 2) := by decide +kernel
theorem dX7_spoil_133 : decode cX7_spoil 133 = .ok (.iload_n 2, 1) := by decide +kernel
theorem dX7_spoil_134 : decode cX7_spoil 134 = .ok (.iconst 3, 1) := by decide +kernel
theorem dX7_spoil_135 : decode cX7_spoil 135 = .ok (.if_icmp .ne 15, 3) := by decide +kernel
theorem dX7_spoil_138 : decode cX7_spoil 138 = .ok (.aload_n 0, 1) := by decide +kernel
theorem dX7_spoil_139 : decode cX7_spoil 139 = .ok (.getfield 77, 3) := by decide +kernel
theorem dX7_spoil_142 : decode cX7_spoil 142 = .ok (.iload 4, 2) := by decide +kernel
theorem dX7_spoil_144 : decode cX7_spoil 144 = .ok (.iaload, 1) := by decide +kernel
theorem dX7_spoil_145 : decode cX7_spoil 145 = .ok (.iload_n 3, 1) := by decide +kernel
theorem dX7_spoil_146 : decode cX7_spoil 146 = .ok (.ixor, 1) := by decide +kernel
theorem dX7_spoil_147 : decode cX7_spoil 147 = .ok (.goto 10, 3) := by decide +kernel
theorem dX7_spoil_150 : decode cX7_spoil 150 = .ok (.aload_n 0, 1) := by decide +kernel
theorem dX7_spoil_151 : decode cX7_spoil 151 = .ok (.getfield 77, 3) := by decide +kernel
theorem dX7_spoil_154 : decode cX7_spoil 154 = .ok (.iload 4, 2) := by decide +kernel
theorem dX7_spoil_156 : decode cX7_spoil 156 = .ok (.iaload, 1) := by decide +kernel
theorem dX7_spoil_157 : decode cX7_spoil 157 = .ok (.iastore, 1) := by decide +kernel
theorem dX7_spoil_158 : decode cX7_spoil 158 = .ok (.aload_n 0, 1) := by decide +kernel
theorem dX7_spoil_159 : decode cX7_spoil 159 = .ok (.getfield 80, 3) := by decide +kernel
theorem dX7_spoil_162 : decode cX7_spoil 162 = .ok (.iload 4, 2) := by decide +kernel
theorem dX7_spoil_164 : decode cX7_spoil 164 = .ok (.iload_n 2, 1) := by decide +kernel
theorem dX7_spoil_165 : decode cX7_spoil 165 = .ok (.iconst 4, 1) := by decide +kernel
theorem dX7_spoil_166 : decode cX7_spoil 166 = .ok (.if_icmp .ne 15, 3) := by decide +kernel
theorem dX7_spoil_169 : decode cX7_spoil 169 = .ok (.aload_n 0, 1) := by decide +kernel
theorem dX7_spoil_170 : decode cX7_spoil 170 = .ok (.getfield 80, 3) := by decide +kernel
theorem dX7_spoil_173 : decode cX7_spoil 173 = .ok (.iload 4, 2) := by decide +kernel
theorem dX7_spoil_175 : decode cX7_spoil 175 = .ok (.iaload, 1) := by decide +kernel
theorem dX7_spoil_176 : decode cX7_spoil 176 = .ok (.iload_n 3, 1) := by decide +kernel
theorem dX7_spoil_177 : decode cX7_spoil 177 = .ok (.ixor, 1) := by decide +kernel
theorem dX7_spoil_178 : decode cX7_spoil 178 = .ok (.goto 10, 3) := by decide +kernel
theorem dX7_spoil_181 : decode cX7_spoil 181 = .ok (.aload_n 0, 1) := by decide +kernel
theorem dX7_spoil_182 : decode cX7_spoil 182 = .ok (.getfield 80, 3) := by decide +kernel
theorem dX7_spoil_185 : decode cX7_spoil 185 = .ok (.iload 4, 2) := by decide +kernel
theorem dX7_spoil_187 : decode cX7_spoil 187 = .ok (.iaload, 1) := by decide +kernel
theorem dX7_spoil_188 : decode cX7_spoil 188 = .ok (.iastore, 1) := by decide +kernel
theorem dX7_spoil_189 : decode cX7_spoil 189 = .ok (.aload_n 0, 1) := by decide +kernel
theorem dX7_spoil_190 : decode cX7_spoil 190 = .ok (.getfield 83, 3) := by decide +kernel
theorem dX7_spoil_193 : decode cX7_spoil 193 = .ok (.iload 4, 2) := by decide +kernel
theorem dX7_spoil_195 : decode cX7_spoil 195 = .ok (.iload_n 2, 1) := by decide +kernel
theorem dX7_spoil_196 : decode cX7_spoil 196 = .ok (.iconst 5, 1) := by decide +kernel
theorem dX7_spoil_197 : decode cX7_spoil 197 = .ok (.if_icmp .ne 20, 3) := by decide +kernel
theorem dX7_spoil_200 : decode cX7_spoil 200 = .ok (.aload_n 0, 1) := by decide +kernel
theorem dX7_spoil_201 : decode cX7_spoil 201 = .ok (.getfield 83, 3) := by decide +kernel
theorem dX7_spoil_204 : decode cX7_spoil 204 = .ok (.iload 4, 2) := by decide +kernel
theorem dX7_spoil_206 : decode cX7_spoil 206 = .ok (.laload, 1) := by decide +kernel
theorem dX7_spoil_207 : decode cX7_spoil 207 = .ok (.iload_n 3, 1) := by decide +kernel
theorem dX7_spoil_208 : decode cX7_spoil 208 = .ok (.i2l, 1) := by decide +kernel
theorem dX7_spoil_209 : decode cX7_spoil 209 = .ok (.ldc2_w 153, 3) := by decide +kernel
theorem dX7_spoil_212 : decode cX7_spoil 212 = .ok (.land, 1) := by decide +kernel
theorem dX7_spoil_213 : decode cX7_spoil 213 = .ok (.lxor, 1) := by decide +kernel
theorem dX7_spoil_214 : decode cX7_spoil 214 = .ok (.goto 10, 3) := by decide +kernel
theorem dX7_spoil_217 : decode cX7_spoil 217 = .ok (.aload_n 0, 1) := by decide +kernel
theorem dX7_spoil_218 : decode cX7_spoil 218 = .ok (.getfield 83, 3) := by decide +kernel
theorem dX7_spoil_221 : decode cX7_spoil 221 = .ok (.iload 4, 2) := by decide +kernel
theorem dX7_spoil_223 : decode cX7_spoil 223 = .ok (.laload, 1) := by decide +kernel
theorem dX7_spoil_224 : decode cX7_spoil 224 = .ok (.lastore, 1) := by decide +kernel
theorem dX7_spoil_225 : decode cX7_spoil 225 = .ok (.aload_n 0, 1) := by decide +kernel
theorem dX7_spoil_226 : decode cX7_spoil 226 = .ok (.getfield 87, 3) := by decide +kernel
theorem dX7_spoil_229 : decode cX7_spoil 229 = .ok (.iload 4, 2) := by decide +kernel
theorem dX7_spoil_231 : decode cX7_spoil 231 = .ok (.iload_n 2, 1) := by decide +kernel
theorem dX7_spoil_232 : decode cX7_spoil 232 = .ok (.bipush 6, 2) := by decide +kernel
theorem dX7_spoil_234 : decode cX7_spoil 234 = .ok (.if_icmp .ne 15, 3) := by decide +kernel
theorem dX7_spoil_237 : decode cX7_spoil 237 = .ok (.aload_n 0, 1) := by decide +kernel
theorem dX7_spoil_238 : decode cX7_spoil 238 = .ok (.getfield 87, 3) := by decide +kernel
theorem dX7_spoil_241 : decode cX7_spoil 241 = .ok (.iload 4, 2) := by decide +kernel
theorem dX7_spoil_243 : decode cX7_spoil 243 = .ok (.iaload, 1) := by decide +kernel
theorem dX7_spoil_244 : decode cX7_spoil 244 = .ok (.iload_n 3, 1) := by decide +kernel
theorem dX7_spoil_245 : decode cX7_spoil 245 = .ok (.ixor, 1) := by decide +kernel
theorem dX7_spoil_246 : decode cX7_spoil 246 = .ok (.goto 10, 3) := by decide +kernel
theorem dX7_spoil_249 : decode cX7_spoil 249 = .ok (.aload_n 0, 1) := by decide +kernel
theorem dX7_spoil_250 : decode cX7_spoil 250 = .ok (.getfield 87, 3) := by decide +kernel
theorem dX7_spoil_253 : decode cX7_spoil 253 = .ok (.iload 4, 2) := by decide +kernel
theorem dX7_spoil_255 : decode cX7_spoil 255 = .ok (.iaload, 1) := by decide +kernel
theorem dX7_spoil_256 : decode cX7_spoil 256 = .ok (.iastore, 1) := by decide +kernel
theorem dX7_spoil_257 : decode cX7_spoil 257 = .ok (.iconst 1, 1) := by decide +kernel
theorem dX7_spoil_258 : decode cX7_spoil 258 = .ok (.ireturn, 1) := by decide +kernel
set_option maxRecDepth 20000 in
theorem ggX7_about_X7_isTwo : GoodIn wsX7_about wsX7_isTwo := goodIn_r _ [10] (by decide +kernel) (by decide +kernel)
set_option maxRecDepth 20000 in
theorem gX7_about_X7_isTwo : GoodIn wsX7_about (va_wsS RX7 131 yX7_isTwo wsX7_isTwo) := goodIn_app (goodIn_of _ (by decide +kernel)) ggX7_about_X7_isTwo
theorem dX7_about_0 : decode cX7_about 0 = .ok (.iload_n 1, 1) := by decide +kernel
theorem dX7_about_1 : decode cX7_about 1 = .ok (.invokestatic 131, 3) := by decide +kernel
theorem dX7_about_4 : decode cX7_about 4 = .ok (.ifCond .eq 12, 3) := by decide +kernel
theorem dX7_about_7 : decode cX7_about 7 = .ok (.iload_n 2, 1) := by decide +kernel
theorem dX7_about_8 : decode cX7_about 8 = .ok (.ifCond .lt 8, 3) := by decide +kernel
theorem dX7_about_11 : decode cX7_about 11 = .ok (.iload_n 2, 1) := by decide +kernel
theorem dX7_about_12 : decode cX7_about 12 = .ok (.iconst 5, 1) := by decide +kernel
theorem dX7_about_13 : decode cX7_about 13 = .ok (.if_icmp .le 5, 3) := by decide +kernel
theorem dX7_about_16 : decode cX7_about 16 = .ok (.iconst (-1), 1) := by decide +kernel
theorem dX7_about_17 : decode cX7_about 17 = .ok (.ireturn, 1) := by decide +kernel
theorem dX7_about_18 : decode cX7_about 18 = .ok (.iload_n 2, 1) := by decide +kernel
theorem dX7_about_19 : decode cX7_about 19 = .ok (.iconst 1, 1) := by decide +kernel
theorem dX7_about_20 : decode cX7_about 20 = .ok (.if_icmp .ne 46, 3) := by decide +kernel
theorem dX7_about_23 : decode cX7_about 23 = .ok (.aload_n 0, 1) := by decide +kernel
theorem dX7_about_24 : decode cX7_about 24 = .ok (.getfield 43, 3) := by decide +kernel
theorem dX7_about_27 : decode cX7_about 27 = .ok (.iconst 2, 1) := by decide +kernel
theorem dX7_about_28 : decode cX7_about 28 = .ok (.iload_n 1, 1) := by decide +kernel
theorem dX7_about_29 : decode cX7_about 29 = .ok (.imul, 1) := by decide +kernel
theorem dX7_about_30 : decode cX7_about 30 = .ok (.iconst 1, 1) := by decide +kernel
theorem dX7_about_31 : decode cX7_about 31 = .ok (.iadd, 1) := by decide +kernel
theorem dX7_about_32 : decode cX7_about 32 = .ok (.iload_n 1, 1) := by decide +kernel
theorem dX7_about_33 : decode cX7_about 33 = .ok (.isub, 1) := by decide +kernel
theorem dX7_about_34 : decode cX7_about 34 = .ok (.iaload, 1) := by decide +kernel
theorem dX7_about_35 : decode cX7_about 35 = .ok (.istore_n 3, 1) := by decide +kernel
theorem dX7_about_36 : decode cX7_about 36 = .ok (.aload_n 0, 1) := by decide +kernel
theorem dX7_about_37 : decode cX7_about 37 = .ok (.getfield 16, 3) := by decide +kernel
theorem dX7_about_40 : decode cX7_about 40 = .ok (.iload_n 1, 1) := by decide +kernel
theorem dX7_about_41 : decode cX7_about 41 = .ok (.iaload, 1) := by decide +kernel
theorem dX7_about_42 : decode cX7_about 42 = .ok (.ifCond .ge 17, 3) := by decide +kernel
theorem dX7_about_45 : decode cX7_about 45 = .ok (.iload_n 3, 1) := by decide +kernel
theorem dX7_about_46 : decode cX7_about 46 = .ok (.aload_n 0, 1) := by decide +kernel
theorem dX7_about_47 : decode cX7_about 47 = .ok (.getfield 7, 3) := by decide +kernel
theorem dX7_about_50 : decode cX7_about 50 = .ok (.iload_n 1, 1) := by decide +kernel
theorem dX7_about_51 : decode cX7_about 51 = .ok (.iaload, 1) := by decide +kernel
theorem dX7_about_52 : decode cX7_about 52 = .ok (.if_icmp .ge 7, 3) := by decide +kernel
theorem dX7_about_55 : decode cX7_about 55 = .ok (.iload_n 3, 1) := by decide +kernel
theorem dX7_about_56 : decode cX7_about 56 = .ok (.goto 9, 3) := by decide +kernel
theorem dX7_about_59 : decode cX7_about 59 = .ok (.aload_n 0, 1) := by decide +kernel
theorem dX7_about_60 : decode cX7_about 60 = .ok (.getfield 7, 3) := by decide +kernel
theorem dX7_about_63 : decode cX7_about 63 = .ok (.iload_n 1, 1) := by decide +kernel
theorem dX7_about_64 : decode cX7_about 64 = .ok (.iaload, 1) := by decide +kernel
theorem dX7_about_65 : decode cX7_about 65 = .ok (.ireturn, 1) := by decide +kernel
theorem dX7_about_66 : decode cX7_about 66 = .ok (.iload_n 2, 1) := by decide +kernel
theorem dX7_about_67 : decode cX7_about 67 = .ok (.ifCond .ne 12, 3) := by decide +kernel
theorem dX7_about_70 : decode cX7_about 70 = .ok (.aload_n 0, 1) := by decide +kernel
theorem dX7_about_71 : decode cX7_about 71 = .ok (.getfield 7, 3) := by decide +kernel
theorem dX7_about_74 : decode cX7_about 74 = .ok (.iload_n 1, 1) := by decide +kernel
theorem dX7_about_75 : decode cX7_about 75 = .ok (.iaload, 1) := by decide +kernel
theorem dX7_about_76 : decode cX7_about 76 = .ok (.goto 51, 3) := by decide +kernel
theorem dX7_about_79 : decode cX7_about 79 = .ok (.iload_n 2, 1) := by decide +kernel
theorem dX7_about_80 : decode cX7_about 80 = .ok (.iconst 2, 1) := by decide +kernel
theorem dX7_about_81 : decode cX7_about 81 = .ok (.if_icmp .ne 12, 3) := by decide +kernel
theorem dX7_about_84 : decode cX7_about 84 = .ok (.aload_n 0, 1) := by decide +kernel
theorem dX7_about_85 : decode cX7_about 85 = .ok (.getfield 13, 3) := by decide +kernel
theorem dX7_about_88 : decode cX7_about 88 = .ok (.iload_n 1, 1) := by decide +kernel
theorem dX7_about_89 : decode cX7_about 89 = .ok (.iaload, 1) := by decide +kernel
theorem dX7_about_90 : decode cX7_about 90 = .ok (.goto 37, 3) := by decide +kernel
theorem dX7_about_93 : decode cX7_about 93 = .ok (.iload_n 2, 1) := by decide +kernel
theorem dX7_about_94 : decode cX7_about 94 = .ok (.iconst 3, 1) := by decide +kernel
theorem dX7_about_95 : decode cX7_about 95 = .ok (.if_icmp .ne 12, 3) := by decide +kernel
theorem dX7_about_98 : decode cX7_about 98 = .ok (.aload_n 0, 1) := by decide +kernel
theorem dX7_about_99 : decode cX7_about 99 = .ok (.getfield 16, 3) := by decide +kernel
theorem dX7_about_102 : decode cX7_about 102 = .ok (.iload_n 1, 1) := by decide +kernel
theorem dX7_about_103 : decode cX7_about 103 = .ok (.iaload, 1) := by decide +kernel
theorem dX7_about_104 : decode cX7_about 104 = .ok (.goto 23, 3) := by decide +kernel
theorem dX7_about_107 : decode cX7_about 107 = .ok (.iload_n 2, 1) := by decide +kernel
theorem dX7_about_108 : decode cX7_about 108 = .ok (.iconst 4, 1) := by decide +kernel
theorem dX7_about_109 : decode cX7_about 109 = .ok (.if_icmp .ne 12, 3) := by decide +kernel
theorem dX7_about_112 : decode cX7_about 112 = .ok (.aload_n 0, 1) := by decide +kernel
theorem dX7_about_113 : decode cX7_about 113 = .ok (.getfield 65, 3) := by decide +kernel
theorem dX7_about_116 : decode cX7_about 116 = .ok (.iload_n 1, 1) := by decide +kernel
theorem dX7_about_117 : decode cX7_about 117 = .ok (.iaload, 1) := by decide +kernel
theorem dX7_about_118 : decode cX7_about 118 = .ok (.goto 9, 3) := by decide +kernel
theorem dX7_about_121 : decode cX7_about 121 = .ok (.aload_n 0, 1) := by decide +kernel
theorem dX7_about_122 : decode cX7_about 122 = .ok (.getfield 19, 3) := by decide +kernel
theorem dX7_about_125 : decode cX7_about 125 = .ok (.iload_n 1, 1) := by decide +kernel
theorem dX7_about_126 : decode cX7_about 126 = .ok (.iaload, 1) := by decide +kernel
theorem dX7_about_127 : decode cX7_about 127 = .ok (.ireturn, 1) := by decide +kernel
set_option maxRecDepth 20000 in
theorem ggX7_known_X7_isTwo : GoodIn wsX7_known wsX7_isTwo := goodIn_r _ [5] (by decide +kernel) (by decide +kernel)
set_option maxRecDepth 20000 in
theorem gX7_known_X7_isTwo : GoodIn wsX7_known (va_wsS RX7 131 yX7_isTwo wsX7_isTwo) := goodIn_app (goodIn_of _ (by decide +kernel)) ggX7_known_X7_isTwo
theorem dX7_known_0 : decode cX7_known 0 = .ok (.iload_n 1, 1) := by decide +kernel
theorem dX7_known_1 : decode cX7_known 1 = .ok (.invokestatic 131, 3) := by decide +kernel
theorem dX7_known_4 : decode cX7_known 4 = .ok (.ifCond .eq 23, 3) := by decide +kernel
theorem dX7_known_7 : decode cX7_known 7 = .ok (.iload_n 2, 1) := by decide +kernel
theorem dX7_known_8 : decode cX7_known 8 = .ok (.invokestatic 131, 3) := by decide +kernel
theorem dX7_known_11 : decode cX7_known 11 = .ok (.ifCond .eq 16, 3) := by decide +kernel
theorem dX7_known_14 : decode cX7_known 14 = .ok (.aload_n 0, 1) := by decide +kernel
theorem dX7_known_15 : decode cX7_known 15 = .ok (.getfield 43, 3) := by decide +kernel
theorem dX7_known_18 : decode cX7_known 18 = .ok (.iconst 2, 1) := by decide +kernel
theorem dX7_known_19 : decode cX7_known 19 = .ok (.iload_n 1, 1) := by decide +kernel
theorem dX7_known_20 : decode cX7_known 20 = .ok (.imul, 1) := by decide +kernel
theorem dX7_known_21 : decode cX7_known 21 = .ok (.iload_n 2, 1) := by decide +kernel
theorem dX7_known_22 : decode cX7_known 22 = .ok (.iadd, 1) := by decide +kernel
theorem dX7_known_23 : decode cX7_known 23 = .ok (.iaload, 1) := by decide +kernel
theorem dX7_known_24 : decode cX7_known 24 = .ok (.goto 4, 3) := by decide +kernel
theorem dX7_known_27 : decode cX7_known 27 = .ok (.iconst (-1), 1) := by decide +kernel
theorem dX7_known_28 : decode cX7_known 28 = .ok (.ireturn, 1) := by decide +kernel
set_option maxRecDepth 20000 in
theorem ggX7_used_X7_isTwo : GoodIn wsX7_used wsX7_isTwo := goodIn_r _ [6] (by decide +kernel) (by decide +kernel)
set_option maxRecDepth 20000 in
theorem gX7_used_X7_isTwo : GoodIn wsX7_used (va_wsS RX7 131 yX7_isTwo wsX7_isTwo) := goodIn_app (goodIn_of _ (by decide +kernel)) ggX7_used_X7_isTwo
theorem dX7_used_0 : decode cX7_used 0 = .ok (.iload_n 1, 1) := by decide +kernel
theorem dX7_used_1 : decode cX7_used 1 = .ok (.invokestatic 131, 3) := by decide +kernel
theorem dX7_used_4 : decode cX7_used 4 = .ok (.ifCond .eq 37, 3) := by decide +kernel
theorem dX7_used_7 : decode cX7_used 7 = .ok (.iload_n 2, 1) := by decide +kernel
theorem dX7_used_8 : decode cX7_used 8 = .ok (.invokestatic 131, 3) := by decide +kernel
theorem dX7_used_11 : decode cX7_used 11 = .ok (.ifCond .eq 30, 3) := by decide +kernel
theorem dX7_used_14 : decode cX7_used 14 = .ok (.iload_n 3, 1) := by decide +kernel
theorem dX7_used_15 : decode cX7_used 15 = .ok (.ifCond .lt 26, 3) := by decide +kernel
theorem dX7_used_18 : decode cX7_used 18 = .ok (.iload_n 3, 1) := by decide +kernel
theorem dX7_used_19 : decode cX7_used 19 = .ok (.aload_n 0, 1) := by decide +kernel
theorem dX7_used_20 : decode cX7_used 20 = .ok (.getfield 7, 3) := by decide +kernel
theorem dX7_used_23 : decode cX7_used 23 = .ok (.iload_n 1, 1) := by decide +kernel
theorem dX7_used_24 : decode cX7_used 24 = .ok (.iaload, 1) := by decide +kernel
theorem dX7_used_25 : decode cX7_used 25 = .ok (.if_icmp .ge 16, 3) := by decide +kernel
theorem dX7_used_28 : decode cX7_used 28 = .ok (.iload_n 3, 1) := by decide +kernel
theorem dX7_used_29 : decode cX7_used 29 = .ok (.aload_n 0, 1) := by decide +kernel
theorem dX7_used_30 : decode cX7_used 30 = .ok (.getfield 7, 3) := by decide +kernel
theorem dX7_used_33 : decode cX7_used 33 = .ok (.iload_n 1, 1) := by decide +kernel
theorem dX7_used_34 : decode cX7_used 34 = .ok (.iaload, 1) := by decide +kernel
theorem dX7_used_35 : decode cX7_used 35 = .ok (.bipush 15, 2) := by decide +kernel
theorem dX7_used_37 : decode cX7_used 37 = .ok (.isub, 1) := by decide +kernel
theorem dX7_used_38 : decode cX7_used 38 = .ok (.if_icmp .ge 5, 3) := by decide +kernel
theorem dX7_used_41 : decode cX7_used 41 = .ok (.iconst (-1), 1) := by decide +kernel
theorem dX7_used_42 : decode cX7_used 42 = .ok (.ireturn, 1) := by decide +kernel
theorem dX7_used_43 : decode cX7_used 43 = .ok (.aload_n 0, 1) := by decide +kernel
theorem dX7_used_44 : decode cX7_used 44 = .ok (.getfield 40, 3) := by decide +kernel
theorem dX7_used_47 : decode cX7_used 47 = .ok (.sipush 1200, 3) := by decide +kernel
theorem dX7_used_50 : decode cX7_used 50 = .ok (.iload_n 1, 1) := by decide +kernel
theorem dX7_used_51 : decode cX7_used 51 = .ok (.imul, 1) := by decide +kernel
theorem dX7_used_52 : decode cX7_used 52 = .ok (.sipush 600, 3) := by decide +kernel
theorem dX7_used_55 : decode cX7_used 55 = .ok (.iload_n 2, 1) := by decide +kernel
theorem dX7_used_56 : decode cX7_used 56 = .ok (.imul, 1) := by decide +kernel
theorem dX7_used_57 : decode cX7_used 57 = .ok (.iadd, 1) := by decide +kernel
theorem dX7_used_58 : decode cX7_used 58 = .ok (.iload_n 3, 1) := by decide +kernel
theorem dX7_used_59 : decode cX7_used 59 = .ok (.iadd, 1) := by decide +kernel
theorem dX7_used_60 : decode cX7_used 60 = .ok (.iaload, 1) := by decide +kernel
theorem dX7_used_61 : decode cX7_used 61 = .ok (.ireturn, 1) := by decide +kernel
set_option maxRecDepth 20000 in
theorem ggX7_sum_X7_isTwo : GoodIn wsX7_sum wsX7_isTwo := goodIn_r _ [13] (by decide +kernel) (by decide +kernel)
set_option maxRecDepth 20000 in
theorem gX7_sum_X7_isTwo : GoodIn wsX7_sum (va_wsS RX7 131 yX7_isTwo wsX7_isTwo) := goodIn_app (goodIn_of _ (by decide +kernel)) ggX7_sum_X7_isTwo
theorem dX7_sum_0 : decode cX7_sum 0 = .ok (.iload_n 1, 1) := by decide +kernel
theorem dX7_sum_1 : decode cX7_sum 1 = .ok (.invokestatic 131, 3) := by decide +kernel
theorem dX7_sum_4 : decode cX7_sum 4 = .ok (.ifCond .eq 30, 3) := by decide +kernel
theorem dX7_sum_7 : decode cX7_sum 7 = .ok (.iload_n 2, 1) := by decide +kernel
theorem dX7_sum_8 : decode cX7_sum 8 = .ok (.ifCond .lt 26, 3) := by decide +kernel
theorem dX7_sum_11 : decode cX7_sum 11 = .ok (.iload_n 2, 1) := by decide +kernel
theorem dX7_sum_12 : decode cX7_sum 12 = .ok (.aload_n 0, 1) := by decide +kernel
theorem dX7_sum_13 : decode cX7_sum 13 = .ok (.getfield 7, 3) := by decide +kernel
theorem dX7_sum_16 : decode cX7_sum 16 = .ok (.iload_n 1, 1) := by decide +kernel
theorem dX7_sum_17 : decode cX7_sum 17 = .ok (.iaload, 1) := by decide +kernel
theorem dX7_sum_18 : decode cX7_sum 18 = .ok (.if_icmp .gt 16, 3) := by decide +kernel
theorem dX7_sum_21 : decode cX7_sum 21 = .ok (.iload_n 2, 1) := by decide +kernel
theorem dX7_sum_22 : decode cX7_sum 22 = .ok (.aload_n 0, 1) := by decide +kernel
theorem dX7_sum_23 : decode cX7_sum 23 = .ok (.getfield 7, 3) := by decide +kernel
theorem dX7_sum_26 : decode cX7_sum 26 = .ok (.iload_n 1, 1) := by decide +kernel
theorem dX7_sum_27 : decode cX7_sum 27 = .ok (.iaload, 1) := by decide +kernel
theorem dX7_sum_28 : decode cX7_sum 28 = .ok (.bipush 15, 2) := by decide +kernel
theorem dX7_sum_30 : decode cX7_sum 30 = .ok (.isub, 1) := by decide +kernel
theorem dX7_sum_31 : decode cX7_sum 31 = .ok (.if_icmp .ge 5, 3) := by decide +kernel
theorem dX7_sum_34 : decode cX7_sum 34 = .ok (.iconst 0, 1) := by decide +kernel
theorem dX7_sum_35 : decode cX7_sum 35 = .ok (.ireturn, 1) := by decide +kernel
theorem dX7_sum_36 : decode cX7_sum 36 = .ok (.sipush 600, 3) := by decide +kernel
theorem dX7_sum_39 : decode cX7_sum 39 = .ok (.iload_n 1, 1) := by decide +kernel
theorem dX7_sum_40 : decode cX7_sum 40 = .ok (.imul, 1) := by decide +kernel
theorem dX7_sum_41 : decode cX7_sum 41 = .ok (.iload_n 2, 1) := by decide +kernel
theorem dX7_sum_42 : decode cX7_sum 42 = .ok (.iadd, 1) := by decide +kernel
theorem dX7_sum_43 : decode cX7_sum 43 = .ok (.istore_n 3, 1) := by decide +kernel
theorem dX7_sum_44 : decode cX7_sum 44 = .ok (.bipush 17, 2) := by decide +kernel
theorem dX7_sum_46 : decode cX7_sum 46 = .ok (.istore 4, 2) := by decide +kernel
theorem dX7_sum_48 : decode cX7_sum 48 = .ok (.iload 4, 2) := by decide +kernel
theorem dX7_sum_50 : decode cX7_sum 50 = .ok (.bipush 31, 2) := by decide +kernel
theorem dX7_sum_52 : decode cX7_sum 52 = .ok (.imul, 1) := by decide +kernel
theorem dX7_sum_53 : decode cX7_sum 53 = .ok (.aload_n 0, 1) := by decide +kernel
theorem dX7_sum_54 : decode cX7_sum 54 = .ok (.getfield 46, 3) := by decide +kernel
theorem dX7_sum_57 : decode cX7_sum 57 = .ok (.iload_n 3, 1) := by decide +kernel
theorem dX7_sum_58 : decode cX7_sum 58 = .ok (.faload, 1) := by decide +kernel
theorem dX7_sum_59 : decode cX7_sum 59 = .ok (.ldc 155, 2) := by decide +kernel
theorem dX7_sum_61 : decode cX7_sum 61 = .ok (.fmul, 1) := by decide +kernel
theorem dX7_sum_62 : decode cX7_sum 62 = .ok (.f2i, 1) := by decide +kernel
theorem dX7_sum_63 : decode cX7_sum 63 = .ok (.iadd, 1) := by decide +kernel
theorem dX7_sum_64 : decode cX7_sum 64 = .ok (.istore 4, 2) := by decide +kernel
theorem dX7_sum_66 : decode cX7_sum 66 = .ok (.iload 4, 2) := by decide +kernel
theorem dX7_sum_68 : decode cX7_sum 68 = .ok (.bipush 31, 2) := by decide +kernel
theorem dX7_sum_70 : decode cX7_sum 70 = .ok (.imul, 1) := by decide +kernel
theorem dX7_sum_71 : decode cX7_sum 71 = .ok (.aload_n 0, 1) := by decide +kernel
theorem dX7_sum_72 : decode cX7_sum 72 = .ok (.getfield 49, 3) := by decide +kernel
theorem dX7_sum_75 : decode cX7_sum 75 = .ok (.iload_n 3, 1) := by decide +kernel
theorem dX7_sum_76 : decode cX7_sum 76 = .ok (.faload, 1) := by decide +kernel
theorem dX7_sum_77 : decode cX7_sum 77 = .ok (.ldc 155, 2) := by decide +kernel
theorem dX7_sum_79 : decode cX7_sum 79 = .ok (.fmul, 1) := by decide +kernel
theorem dX7_sum_80 : decode cX7_sum 80 = .ok (.f2i, 1) := by decide +kernel
theorem dX7_sum_81 : decode cX7_sum 81 = .ok (.iadd, 1) := by decide +kernel
theorem dX7_sum_82 : decode cX7_sum 82 = .ok (.istore 4, 2) := by decide +kernel
theorem dX7_sum_84 : decode cX7_sum 84 = .ok (.iload 4, 2) := by decide +kernel
theorem dX7_sum_86 : decode cX7_sum 86 = .ok (.bipush 31, 2) := by decide +kernel
theorem dX7_sum_88 : decode cX7_sum 88 = .ok (.imul, 1) := by decide +kernel
theorem dX7_sum_89 : decode cX7_sum 89 = .ok (.aload_n 0, 1) := by decide +kernel
theorem dX7_sum_90 : decode cX7_sum 90 = .ok (.getfield 52, 3) := by decide +kernel
theorem dX7_sum_93 : decode cX7_sum 93 = .ok (.iload_n 3, 1) := by decide +kernel
theorem dX7_sum_94 : decode cX7_sum 94 = .ok (.faload, 1) := by decide +kernel
theorem dX7_sum_95 : decode cX7_sum 95 = .ok (.ldc 155, 2) := by decide +kernel
theorem dX7_sum_97 : decode cX7_sum 97 = .ok (.fmul, 1) := by decide +kernel
theorem dX7_sum_98 : decode cX7_sum 98 = .ok (.f2i, 1) := by decide +kernel
theorem dX7_sum_99 : decode cX7_sum 99 = .ok (.iadd, 1) := by decide +kernel
theorem dX7_sum_100 : decode cX7_sum 100 = .ok (.istore 4, 2) := by decide +kernel
theorem dX7_sum_102 : decode cX7_sum 102 = .ok (.iload 4, 2) := by decide +kernel
theorem dX7_sum_104 : decode cX7_sum 104 = .ok (.bipush 31, 2) := by decide +kernel
theorem dX7_sum_106 : decode cX7_sum 106 = .ok (.imul, 1) := by decide +kernel
theorem dX7_sum_107 : decode cX7_sum 107 = .ok (.aload_n 0, 1) := by decide +kernel
theorem dX7_sum_108 : decode cX7_sum 108 = .ok (.getfield 55, 3) := by decide +kernel
theorem dX7_sum_111 : decode cX7_sum 111 = .ok (.iload_n 3, 1) := by decide +kernel
theorem dX7_sum_112 : decode cX7_sum 112 = .ok (.faload, 1) := by decide +kernel
theorem dX7_sum_113 : decode cX7_sum 113 = .ok (.ldc 155, 2) := by decide +kernel
theorem dX7_sum_115 : decode cX7_sum 115 = .ok (.fmul, 1) := by decide +kernel
theorem dX7_sum_116 : decode cX7_sum 116 = .ok (.f2i, 1) := by decide +kernel
theorem dX7_sum_117 : decode cX7_sum 117 = .ok (.iadd, 1) := by decide +kernel
theorem dX7_sum_118 : decode cX7_sum 118 = .ok (.istore 4, 2) := by decide +kernel
theorem dX7_sum_120 : decode cX7_sum 120 = .ok (.iload 4, 2) := by decide +kernel
theorem dX7_sum_122 : decode cX7_sum 122 = .ok (.bipush 31, 2) := by decide +kernel
theorem dX7_sum_124 : decode cX7_sum 124 = .ok (.imul, 1) := by decide +kernel
theorem dX7_sum_125 : decode cX7_sum 125 = .ok (.aload_n 0, 1) := by decide +kernel
theorem dX7_sum_126 : decode cX7_sum 126 = .ok (.getfield 58, 3) := by decide +kernel
theorem dX7_sum_129 : decode cX7_sum 129 = .ok (.iload_n 3, 1) := by decide +kernel
theorem dX7_sum_130 : decode cX7_sum 130 = .ok (.iaload, 1) := by decide +kernel
theorem dX7_sum_131 : decode cX7_sum 131 = .ok (.iadd, 1) := by decide +kernel
theorem dX7_sum_132 : decode cX7_sum 132 = .ok (.istore 4, 2) := by decide +kernel
theorem dX7_sum_134 : decode cX7_sum 134 = .ok (.iload 4, 2) := by decide +kernel
theorem dX7_sum_136 : decode cX7_sum 136 = .ok (.bipush 31, 2) := by decide +kernel
theorem dX7_sum_138 : decode cX7_sum 138 = .ok (.imul, 1) := by decide +kernel
theorem dX7_sum_139 : decode cX7_sum 139 = .ok (.aload_n 0, 1) := by decide +kernel
theorem dX7_sum_140 : decode cX7_sum 140 = .ok (.getfield 61, 3) := by decide +kernel
theorem dX7_sum_143 : decode cX7_sum 143 = .ok (.iload_n 3, 1) := by decide +kernel
theorem dX7_sum_144 : decode cX7_sum 144 = .ok (.daload, 1) := by decide +kernel
theorem dX7_sum_145 : decode cX7_sum 145 = .ok (.ldc2_w 156, 3) := by decide +kernel
theorem dX7_sum_148 : decode cX7_sum 148 = .ok (.dmul, 1) := by decide +kernel
theorem dX7_sum_149 : decode cX7_sum 149 = .ok (.d2i, 1) := by decide +kernel
theorem dX7_sum_150 : decode cX7_sum 150 = .ok (.iadd, 1) := by decide +kernel
theorem dX7_sum_151 : decode cX7_sum 151 = .ok (.ireturn, 1) := by decide +kernel
set_option maxRecDepth 20000 in
theorem ggX7_place_X7_isTwo : GoodIn wsX7_place wsX7_isTwo := goodIn_r _ [8] (by decide +kernel) (by decide +kernel)
set_option maxRecDepth 20000 in
theorem gX7_place_X7_isTwo : GoodIn wsX7_place (va_wsS RX7 131 yX7_isTwo wsX7_isTwo) := goodIn_app (goodIn_of _ (by decide +kernel)) ggX7_place_X7_isTwo
theorem dX7_place_0 : decode cX7_place 0 = .ok (.iload_n 1, 1) := by decide +kernel
theorem dX7_place_1 : decode cX7_place 1 = .ok (.invokestatic 131, 3) := by decide +kernel
theorem dX7_place_4 : decode cX7_place 4 = .ok (.ifCond .eq 10, 3) := by decide +kernel
theorem dX7_place_7 : decode cX7_place 7 = .ok (.iload_n 2, 1) := by decide +kernel
theorem dX7_place_8 : decode cX7_place 8 = .ok (.invokestatic 131, 3) := by decide +kernel
theorem dX7_place_11 : decode cX7_place 11 = .ok (.ifCond .ne 6, 3) := by decide +kernel
theorem dX7_place_14 : decode cX7_place 14 = .ok (.ldc 158, 2) := by decide +kernel
theorem dX7_place_16 : decode cX7_place 16 = .ok (.freturn, 1) := by decide +kernel
theorem dX7_place_17 : decode cX7_place 17 = .ok (.sipush 600, 3) := by decide +kernel
theorem dX7_place_20 : decode cX7_place 20 = .ok (.iload_n 1, 1) := by decide +kernel
theorem dX7_place_21 : decode cX7_place 21 = .ok (.imul, 1) := by decide +kernel
theorem dX7_place_22 : decode cX7_place 22 = .ok (.aload_n 0, 1) := by decide +kernel
theorem dX7_place_23 : decode cX7_place 23 = .ok (.getfield 7, 3) := by decide +kernel
theorem dX7_place_26 : decode cX7_place 26 = .ok (.iload_n 1, 1) := by decide +kernel
theorem dX7_place_27 : decode cX7_place 27 = .ok (.iaload, 1) := by decide +kernel
theorem dX7_place_28 : decode cX7_place 28 = .ok (.iadd, 1) := by decide +kernel
theorem dX7_place_29 : decode cX7_place 29 = .ok (.istore_n 3, 1) := by decide +kernel
theorem dX7_place_30 : decode cX7_place 30 = .ok (.iload_n 2, 1) := by decide +kernel
theorem dX7_place_31 : decode cX7_place 31 = .ok (.ifCond .ne 12, 3) := by decide +kernel
theorem dX7_place_34 : decode cX7_place 34 = .ok (.aload_n 0, 1) := by decide +kernel
theorem dX7_place_35 : decode cX7_place 35 = .ok (.getfield 46, 3) := by decide +kernel
theorem dX7_place_38 : decode cX7_place 38 = .ok (.iload_n 3, 1) := by decide +kernel
theorem dX7_place_39 : decode cX7_place 39 = .ok (.faload, 1) := by decide +kernel
theorem dX7_place_40 : decode cX7_place 40 = .ok (.goto 9, 3) := by decide +kernel
theorem dX7_place_43 : decode cX7_place 43 = .ok (.aload_n 0, 1) := by decide +kernel
theorem dX7_place_44 : decode cX7_place 44 = .ok (.getfield 52, 3) := by decide +kernel
theorem dX7_place_47 : decode cX7_place 47 = .ok (.iload_n 3, 1) := by decide +kernel
theorem dX7_place_48 : decode cX7_place 48 = .ok (.faload, 1) := by decide +kernel
theorem dX7_place_49 : decode cX7_place 49 = .ok (.freturn, 1) := by decide +kernel
set_option maxRecDepth 20000 in
theorem ggX7_speed_X7_isTwo : GoodIn wsX7_speed wsX7_isTwo := goodIn_r _ [7] (by decide +kernel) (by decide +kernel)
set_option maxRecDepth 20000 in
theorem gX7_speed_X7_isTwo : GoodIn wsX7_speed (va_wsS RX7 131 yX7_isTwo wsX7_isTwo) := goodIn_app (goodIn_of _ (by decide +kernel)) ggX7_speed_X7_isTwo
theorem dX7_speed_0 : decode cX7_speed 0 = .ok (.iload_n 1, 1) := by decide +kernel
theorem dX7_speed_1 : decode cX7_speed 1 = .ok (.invokestatic 131, 3) := by decide +kernel
theorem dX7_speed_4 : decode cX7_speed 4 = .ok (.ifCond .eq 10, 3) := by decide +kernel
theorem dX7_speed_7 : decode cX7_speed 7 = .ok (.iload_n 2, 1) := by decide +kernel
theorem dX7_speed_8 : decode cX7_speed 8 = .ok (.invokestatic 131, 3) := by decide +kernel
theorem dX7_speed_11 : decode cX7_speed 11 = .ok (.ifCond .ne 5, 3) := by decide +kernel
theorem dX7_speed_14 : decode cX7_speed 14 = .ok (.fconst 0, 1) := by decide +kernel
theorem dX7_speed_15 : decode cX7_speed 15 = .ok (.freturn, 1) := by decide +kernel
theorem dX7_speed_16 : decode cX7_speed 16 = .ok (.sipush 600, 3) := by decide +kernel
theorem dX7_speed_19 : decode cX7_speed 19 = .ok (.iload_n 1, 1) := by decide +kernel
theorem dX7_speed_20 : decode cX7_speed 20 = .ok (.imul, 1) := by decide +kernel
theorem dX7_speed_21 : decode cX7_speed 21 = .ok (.aload_n 0, 1) := by decide +kernel
theorem dX7_speed_22 : decode cX7_speed 22 = .ok (.getfield 7, 3) := by decide +kernel
theorem dX7_speed_25 : decode cX7_speed 25 = .ok (.iload_n 1, 1) := by decide +kernel
theorem dX7_speed_26 : decode cX7_speed 26 = .ok (.iaload, 1) := by decide +kernel
theorem dX7_speed_27 : decode cX7_speed 27 = .ok (.iadd, 1) := by decide +kernel
theorem dX7_speed_28 : decode cX7_speed 28 = .ok (.istore_n 3, 1) := by decide +kernel
theorem dX7_speed_29 : decode cX7_speed 29 = .ok (.iload_n 2, 1) := by decide +kernel
theorem dX7_speed_30 : decode cX7_speed 30 = .ok (.ifCond .ne 12, 3) := by decide +kernel
theorem dX7_speed_33 : decode cX7_speed 33 = .ok (.aload_n 0, 1) := by decide +kernel
theorem dX7_speed_34 : decode cX7_speed 34 = .ok (.getfield 49, 3) := by decide +kernel
theorem dX7_speed_37 : decode cX7_speed 37 = .ok (.iload_n 3, 1) := by decide +kernel
theorem dX7_speed_38 : decode cX7_speed 38 = .ok (.faload, 1) := by decide +kernel
theorem dX7_speed_39 : decode cX7_speed 39 = .ok (.goto 9, 3) := by decide +kernel
theorem dX7_speed_42 : decode cX7_speed 42 = .ok (.aload_n 0, 1) := by decide +kernel
theorem dX7_speed_43 : decode cX7_speed 43 = .ok (.getfield 55, 3) := by decide +kernel
theorem dX7_speed_46 : decode cX7_speed 46 = .ok (.iload_n 3, 1) := by decide +kernel
theorem dX7_speed_47 : decode cX7_speed 47 = .ok (.faload, 1) := by decide +kernel
theorem dX7_speed_48 : decode cX7_speed 48 = .ok (.freturn, 1) := by decide +kernel
set_option maxRecDepth 20000 in
theorem ggX7_hits_X7_isTwo : GoodIn wsX7_hits wsX7_isTwo := goodIn_r _ [6] (by decide +kernel) (by decide +kernel)
set_option maxRecDepth 20000 in
theorem gX7_hits_X7_isTwo : GoodIn wsX7_hits (va_wsS RX7 131 yX7_isTwo wsX7_isTwo) := goodIn_app (goodIn_of _ (by decide +kernel)) ggX7_hits_X7_isTwo
theorem dX7_hits_0 : decode cX7_hits 0 = .ok (.iload_n 1, 1) := by decide +kernel
theorem dX7_hits_1 : decode cX7_hits 1 = .ok (.invokestatic 131, 3) := by decide +kernel
theorem dX7_hits_4 : decode cX7_hits 4 = .ok (.ifCond .eq 23, 3) := by decide +kernel
theorem dX7_hits_7 : decode cX7_hits 7 = .ok (.aload_n 0, 1) := by decide +kernel
theorem dX7_hits_8 : decode cX7_hits 8 = .ok (.getfield 58, 3) := by decide +kernel
theorem dX7_hits_11 : decode cX7_hits 11 = .ok (.sipush 600, 3) := by decide +kernel
theorem dX7_hits_14 : decode cX7_hits 14 = .ok (.iload_n 1, 1) := by decide +kernel
theorem dX7_hits_15 : decode cX7_hits 15 = .ok (.imul, 1) := by decide +kernel
theorem dX7_hits_16 : decode cX7_hits 16 = .ok (.aload_n 0, 1) := by decide +kernel
theorem dX7_hits_17 : decode cX7_hits 17 = .ok (.getfield 7, 3) := by decide +kernel
theorem dX7_hits_20 : decode cX7_hits 20 = .ok (.iload_n 1, 1) := by decide +kernel
theorem dX7_hits_21 : decode cX7_hits 21 = .ok (.iaload, 1) := by decide +kernel
theorem dX7_hits_22 : decode cX7_hits 22 = .ok (.iadd, 1) := by decide +kernel
theorem dX7_hits_23 : decode cX7_hits 23 = .ok (.iaload, 1) := by decide +kernel
theorem dX7_hits_24 : decode cX7_hits 24 = .ok (.goto 4, 3) := by decide +kernel
theorem dX7_hits_27 : decode cX7_hits 27 = .ok (.iconst (-1), 1) := by decide +kernel
theorem dX7_hits_28 : decode cX7_hits 28 = .ok (.ireturn, 1) := by decide +kernel
set_option maxRecDepth 20000 in
theorem ggX7_work_X7_isTwo : GoodIn wsX7_work wsX7_isTwo := goodIn_r _ [7] (by decide +kernel) (by decide +kernel)
set_option maxRecDepth 20000 in
theorem gX7_work_X7_isTwo : GoodIn wsX7_work (va_wsS RX7 131 yX7_isTwo wsX7_isTwo) := goodIn_app (goodIn_of _ (by decide +kernel)) ggX7_work_X7_isTwo
theorem dX7_work_0 : decode cX7_work 0 = .ok (.iload_n 1, 1) := by decide +kernel
theorem dX7_work_1 : decode cX7_work 1 = .ok (.invokestatic 131, 3) := by decide +kernel
theorem dX7_work_4 : decode cX7_work 4 = .ok (.ifCond .eq 23, 3) := by decide +kernel
theorem dX7_work_7 : decode cX7_work 7 = .ok (.aload_n 0, 1) := by decide +kernel
theorem dX7_work_8 : decode cX7_work 8 = .ok (.getfield 61, 3) := by decide +kernel
theorem dX7_work_11 : decode cX7_work 11 = .ok (.sipush 600, 3) := by decide +kernel
theorem dX7_work_14 : decode cX7_work 14 = .ok (.iload_n 1, 1) := by decide +kernel
theorem dX7_work_15 : decode cX7_work 15 = .ok (.imul, 1) := by decide +kernel
theorem dX7_work_16 : decode cX7_work 16 = .ok (.aload_n 0, 1) := by decide +kernel
theorem dX7_work_17 : decode cX7_work 17 = .ok (.getfield 7, 3) := by decide +kernel
theorem dX7_work_20 : decode cX7_work 20 = .ok (.iload_n 1, 1) := by decide +kernel
theorem dX7_work_21 : decode cX7_work 21 = .ok (.iaload, 1) := by decide +kernel
theorem dX7_work_22 : decode cX7_work 22 = .ok (.iadd, 1) := by decide +kernel
theorem dX7_work_23 : decode cX7_work 23 = .ok (.daload, 1) := by decide +kernel
theorem dX7_work_24 : decode cX7_work 24 = .ok (.goto 6, 3) := by decide +kernel
theorem dX7_work_27 : decode cX7_work 27 = .ok (.ldc2_w 159, 3) := by decide +kernel
theorem dX7_work_30 : decode cX7_work 30 = .ok (.dreturn, 1) := by decide +kernel
set_option maxRecDepth 20000 in
theorem ggX7_advice_X7_isTwo : GoodIn wsX7_advice wsX7_isTwo := goodIn_r _ [5] (by decide +kernel) (by decide +kernel)
set_option maxRecDepth 20000 in
theorem gX7_advice_X7_isTwo : GoodIn wsX7_advice (va_wsS RX7 131 yX7_isTwo wsX7_isTwo) := goodIn_app (goodIn_of _ (by decide +kernel)) ggX7_advice_X7_isTwo
theorem dX7_advice_0 : decode cX7_advice 0 = .ok (.iload_n 1, 1) := by decide +kernel
theorem dX7_advice_1 : decode cX7_advice 1 = .ok (.invokestatic 131, 3) := by decide +kernel
theorem dX7_advice_4 : decode cX7_advice 4 = .ok (.ifCond .eq 12, 3) := by decide +kernel
theorem dX7_advice_7 : decode cX7_advice 7 = .ok (.aload_n 0, 1) := by decide +kernel
theorem dX7_advice_8 : decode cX7_advice 8 = .ok (.getfield 33, 3) := by decide +kernel
theorem dX7_advice_11 : decode cX7_advice 11 = .ok (.iload_n 1, 1) := by decide +kernel
theorem dX7_advice_12 : decode cX7_advice 12 = .ok (.faload, 1) := by decide +kernel
theorem dX7_advice_13 : decode cX7_advice 13 = .ok (.goto 4, 3) := by decide +kernel
theorem dX7_advice_16 : decode cX7_advice 16 = .ok (.fconst 0, 1) := by decide +kernel
theorem dX7_advice_17 : decode cX7_advice 17 = .ok (.freturn, 1) := by decide +kernel
end
section
/-! what the other calls answer -/
abbrev two (x : Int32) : Prop := x = 0 ∨ x = 1
theorem two_in {q : Nat} (h : q < 2) : two (nI q) := by
  rcases (show q = 0 ∨ q = 1 by omega) with rfl | rfl
  · exact Or.inl rfl
  · exact Or.inr rfl
theorem two_of {x : Int32} (h : ¬ (if x = 0 ∨ x = 1 then (1 : Int32) else 0) = 0) : ∃ q : Nat, q < 2 ∧ x = nI q := by
  by_cases h2 : x = 0 ∨ x = 1
  · rcases h2 with rfl | rfl
    · exact ⟨0, by decide, rfl⟩
    · exact ⟨1, by decide, rfl⟩
  · exact absurd (if_neg h2) h
theorem two_no {x : Int32} (h : (if x = 0 ∨ x = 1 then (1 : Int32) else 0) = 0) : ¬ two x := by
  intro h2
  rw [if_pos h2] at h
  exact absurd h (by decide)
theorem in15 {a f : Nat} (ha : a < 2 ^ 30) (hf : f < 2 ^ 31) : nI a - nI 15 ≤ nI f ↔ a ≤ f + 15 := by
  rw [Int32.le_iff_toInt_le, pk_sub_toInt ha (by decide), nI_toInt hf]
  omega
def aOf (S : SS) (pe : Int32) : Nat := tn (S.1 2 (tn pe))
def rKn (S : SS) (pe pl : Int32) : Int32 := if two pe ∧ two pl then S.1 12 (2 * tn pe + tn pl) else -1
def rUs (S : SS) (pe pl fr : Int32) : Int32 := if two pe ∧ two pl ∧ ¬ fr < 0 ∧ tn fr < aOf S pe ∧ aOf S pe ≤ tn fr + 15 then S.1 11 (1200 * tn pe + 600 * tn pl + tn fr) else -1
def sumS (x s y t : UInt32) (h : Int32) (wk : UInt64) : Int32 := (((((nI (17 * 31) + FP.f2i (FP.fmul x 1166016512)) * nI 31 + FP.f2i (FP.fmul s 1166016512)) * nI 31 + FP.f2i (FP.fmul y 1166016512)) * nI 31 + FP.f2i (FP.fmul t 1166016512)) * nI 31 + h) * nI 31 + FP.d2i (FP.dmul wk 4634204016564240384)
def rSu (S : SS) (pe fr : Int32) : Int32 := if two pe ∧ ¬ fr < 0 ∧ tn fr ≤ aOf S pe ∧ aOf S pe ≤ tn fr + 15 then sumS (S.2.1 13 (600 * tn pe + tn fr)) (S.2.1 14 (600 * tn pe + tn fr)) (S.2.1 15 (600 * tn pe + tn fr)) (S.2.1 16 (600 * tn pe + tn fr)) (S.1 17 (600 * tn pe + tn fr)) (S.2.2.2 (600 * tn pe + tn fr)) else nI 0
def rPl (S : SS) (pe pl : Int32) : UInt32 := if two pe ∧ two pl then (if tn pl = 0 then S.2.1 13 (600 * tn pe + aOf S pe) else S.2.1 15 (600 * tn pe + aOf S pe)) else 3267887104
def rSp (S : SS) (pe pl : Int32) : UInt32 := if two pe ∧ two pl then (if tn pl = 0 then S.2.1 14 (600 * tn pe + aOf S pe) else S.2.1 16 (600 * tn pe + aOf S pe)) else FP.fconst0
def rHi (S : SS) (pe : Int32) : Int32 := if two pe then S.1 17 (600 * tn pe + aOf S pe) else -1
def rWo (S : SS) (pe : Int32) : UInt64 := if two pe then S.2.2.2 (600 * tn pe + aOf S pe) else 13830554455654793216
def rAv (S : SS) (pe : Int32) : UInt32 := if two pe then S.2.1 9 (tn pe) else FP.fconst0
theorem aOf_eq {S : SS} {q a : Nat} (hq : q < 2) (ha : a ≤ 598) (h : S.1 2 q = nI a) : aOf S (nI q) = a := by
  unfold aOf
  rw [tn_nI (by omega), h, tn_nI (by omega)]
theorem Fc_4096 : FP.Core.FFin 1166016512 := (FP.Core.fin_bits32 _).mpr (by decide)
theorem Dc_64 : FP.Core.DFin 4634204016564240384 := (FP.Core.fin_bits _).mpr (by decide)
set_option maxHeartbeats 4000000 in
set_option maxRecDepth 100000 in
/-- X7_known -/
theorem c_known (l : Launch) (D : va_G) (cs : Nat → ClassId) (ad : Nat → Nat) (hJ : Inj ad 26) (d w : Int32) (S : SS) (np ns : UInt32) (pe pl : Int32) (hA : ∀ q, q < 2 → ∃ a, S.1 2 q = nI a ∧ a ≤ 590) : CTi l yX7_known wsX7_known ({ frames := 1, cells := 0, slots := 0, locals := 20 }) D cs ad 26 (mm ad cs d w S np ns) [.ref (ad 0), .int pe, .int pl] (fun r M2 => M2 = (mm ad cs d w S np ns) ∧ r = rKn S pe pl) := by
  refine Met.ofW (cc := cX7_known) (maxL := 3) (ret := (some .int)) (by decide) rfl ?_
  intro p e s m args below meth c s₁ B hml hv
  obtain ⟨rfl, hP, hK⟩ := hv
  have hx := B.exec
  have hb := B.bytes
  have hr := B.returns
  have hts := atoms_spec (ws := wsX7_known) B.pre
  have hown : s.vm.findClass RX7 = some m.cls := findClass_of_methodNamed B.named
  have hlocks := B.notSynchronized
  have hS : va_S (Ad ad 26) s.heap s.heap [] := va_S.rf
  have hl := lv_entry ([.ref (ad 0), .int pe, .int pl]) (n := 3) (Nat.le_of_ble_eq_true rfl)
  rw [lg_entry_eq]
  generalize (lg_sl ([.ref (ad 0), .int pe, .int pl]) ++ List.replicate (3 - (lg_sl ([.ref (ad 0), .int pe, .int pl])).length) Slot.unset).toArray = ls at hl ⊢
  have hl : lv_has ls 3 [(0, .ref (ad 0)), (1, .int pe), (2, .int pl)] := hl
  have inX7 : ∀ w ∈ u_ws RX7 TX7 29, w ∈ wsX7_known := fun w h => List.mem_cons_of_mem _ (List.mem_append_right _ h)
  refine lv_iload_n hx hb dX7_known_0 rfl (lv_at hl 1 rfl) ?_
  refine k_Si (As := [.int pe]) (rest := []) ⟨hx, hb, hml, hown, hts⟩ hK hP hS Ad_le (c_isTwo l D cs ad 26 (mm ad cs d w S np ns) pe) (va_cwS 1 hts gX7_known_X7_isTwo rfl rfl rfl (by decide +kernel) ⟨Nat.le_of_ble_eq_true rfl, Nat.le_of_ble_eq_true rfl⟩) rfl rfl hl.1 (Nat.le_of_ble_eq_true rfl) dX7_known_1 ⟨Nat.le_of_ble_eq_true rfl, Nat.le_of_ble_eq_true rfl⟩ (fun r_1 M1 H locs hpo hP hS _ _ => ?_)
  obtain ⟨rfl, rfl⟩ := hpo
  refine lv_if_eq (tgt := 27) hx hb dX7_known_4 (by decide) (fun c1 => ?_) (fun c1 => ?_)
  · have hno := two_no c1
    refine lv_iconst (v := (-1)) hx hb dX7_known_27 (by decide) ?_
    exact r_i hx hb hr hlocks hK hP hS dX7_known_28 ⟨rfl, by unfold rKn; rw [if_neg (fun z => hno z.1)]⟩
  · obtain ⟨q, hq, rfl⟩ := two_of c1
    obtain ⟨a, hat, ha⟩ := hA q hq
    have hao := aOf_eq hq (by omega) hat
    refine lv_iload_n hx hb dX7_known_7 rfl (lv_at hl 2 rfl) ?_
    refine k_Si (As := [.int pl]) (rest := []) ⟨hx, hb, hml, hown, hts⟩ hK hP hS Ad_le (c_isTwo l D cs ad 26 (mm ad cs d w S np ns) pl) (va_cwS 1 hts gX7_known_X7_isTwo rfl rfl rfl (by decide +kernel) ⟨Nat.le_of_ble_eq_true rfl, Nat.le_of_ble_eq_true rfl⟩) rfl rfl hl.1 (Nat.le_of_ble_eq_true rfl) dX7_known_8 ⟨Nat.le_of_ble_eq_true rfl, Nat.le_of_ble_eq_true rfl⟩ (fun r_2 M1 H locs hpo hP hS _ _ => ?_)
    obtain ⟨rfl, rfl⟩ := hpo
    refine lv_if_eq (tgt := 27) hx hb dX7_known_11 (by decide) (fun c2 => ?_) (fun c2 => ?_)
    · have hno := two_no c2
      refine lv_iconst (v := (-1)) hx hb dX7_known_27 (by decide) ?_
      exact r_i hx hb hr hlocks hK hP hS dX7_known_28 ⟨rfl, by unfold rKn; rw [if_neg (fun z => hno z.2)]⟩
    · obtain ⟨pl, hp, rfl⟩ := two_of c2
      refine lv_aload_n hx hb dX7_known_14 rfl (lv_at hl 0 rfl) ?_
      refine m_get hx hb hts inX7 hown hK hP (ci := 7) rfl (k := 0) (by decide) rfl 12 (by decide) (hts (.fieldLink RX7 43 "RollbackPairModel" "known" "[I") (by decide +kernel)) rfl dX7_known_15 ?_
      refine lv_iconst (v := nI 2) hx hb dX7_known_18 (by decide) ?_
      refine lv_iload_n hx hb dX7_known_19 rfl (lv_at hl 1 rfl) ?_
      refine n_mul hx hb dX7_known_20 ?_
      refine lv_iload_n hx hb dX7_known_21 rfl (lv_at hl 2 rfl) ?_
      refine n_add hx hb dX7_known_22 ?_
      refine m_iald hx hb hK hP (k := 11) (by decide) (f := (S.1 12)) rfl (i := 2 * q + pl) (by omega) (by decide) dX7_known_23 ?_
      refine lv_goto (tgt := 28) hx hb dX7_known_24 (by decide) ?_
      exact r_i hx hb hr hlocks hK hP hS dX7_known_28 ⟨rfl, by unfold rKn; rw [if_pos ⟨two_in hq, two_in hp⟩, tn_nI (show q < 2 ^ 31 by omega), tn_nI (show pl < 2 ^ 31 by omega)]⟩
set_option maxHeartbeats 4000000 in
set_option maxRecDepth 100000 in
/-- X7_place -/
theorem c_place (l : Launch) (D : va_G) (cs : Nat → ClassId) (ad : Nat → Nat) (hJ : Inj ad 26) (d w : Int32) (S : SS) (np ns : UInt32) (pe pl : Int32) (hA : ∀ q, q < 2 → ∃ a, S.1 2 q = nI a ∧ a ≤ 590) : CTf l yX7_place wsX7_place ({ frames := 1, cells := 0, slots := 0, locals := 20 }) D cs ad 26 (mm ad cs d w S np ns) [.ref (ad 0), .int pe, .int pl] (fun r M2 => M2 = (mm ad cs d w S np ns) ∧ r = rPl S pe pl) := by
  refine Met.ofW (cc := cX7_place) (maxL := 4) (ret := (some .float)) (by decide) rfl ?_
  intro p e s m args below meth c s₁ B hml hv
  obtain ⟨rfl, hP, hK⟩ := hv
  have hx := B.exec
  have hb := B.bytes
  have hr := B.returns
  have hts := atoms_spec (ws := wsX7_place) B.pre
  have hown : s.vm.findClass RX7 = some m.cls := findClass_of_methodNamed B.named
  have hlocks := B.notSynchronized
  have hS : va_S (Ad ad 26) s.heap s.heap [] := va_S.rf
  have hl := lv_entry ([.ref (ad 0), .int pe, .int pl]) (n := 4) (Nat.le_of_ble_eq_true rfl)
  rw [lg_entry_eq]
  generalize (lg_sl ([.ref (ad 0), .int pe, .int pl]) ++ List.replicate (4 - (lg_sl ([.ref (ad 0), .int pe, .int pl])).length) Slot.unset).toArray = ls at hl ⊢
  have hl : lv_has ls 4 [(0, .ref (ad 0)), (1, .int pe), (2, .int pl)] := hl
  have inX7 : ∀ w ∈ u_ws RX7 TX7 29, w ∈ wsX7_place := fun w h => List.mem_cons_of_mem _ (List.mem_append_right _ h)
  refine lv_iload_n hx hb dX7_place_0 rfl (lv_at hl 1 rfl) ?_
  refine k_Si (As := [.int pe]) (rest := []) ⟨hx, hb, hml, hown, hts⟩ hK hP hS Ad_le (c_isTwo l D cs ad 26 (mm ad cs d w S np ns) pe) (va_cwS 1 hts gX7_place_X7_isTwo rfl rfl rfl (by decide +kernel) ⟨Nat.le_of_ble_eq_true rfl, Nat.le_of_ble_eq_true rfl⟩) rfl rfl hl.1 (Nat.le_of_ble_eq_true rfl) dX7_place_1 ⟨Nat.le_of_ble_eq_true rfl, Nat.le_of_ble_eq_true rfl⟩ (fun r_1 M1 H locs hpo hP hS _ _ => ?_)
  obtain ⟨rfl, rfl⟩ := hpo
  refine lv_if_eq (tgt := 14) hx hb dX7_place_4 (by decide) (fun c1 => ?_) (fun c1 => ?_)
  · have hno := two_no c1
    refine lv_ldcf hx hb hown (hts (.constantFloat RX7 158 (3267887104)) (by decide +kernel)) dX7_place_14 ?_
    exact r_f hx hb hr hlocks hK hP hS dX7_place_16 ⟨rfl, by unfold rPl; rw [if_neg (fun z => hno z.1)]⟩
  · obtain ⟨q, hq, rfl⟩ := two_of c1
    obtain ⟨a, hat, ha⟩ := hA q hq
    have hao := aOf_eq hq (by omega) hat
    refine lv_iload_n hx hb dX7_place_7 rfl (lv_at hl 2 rfl) ?_
    refine k_Si (As := [.int pl]) (rest := []) ⟨hx, hb, hml, hown, hts⟩ hK hP hS Ad_le (c_isTwo l D cs ad 26 (mm ad cs d w S np ns) pl) (va_cwS 1 hts gX7_place_X7_isTwo rfl rfl rfl (by decide +kernel) ⟨Nat.le_of_ble_eq_true rfl, Nat.le_of_ble_eq_true rfl⟩) rfl rfl hl.1 (Nat.le_of_ble_eq_true rfl) dX7_place_8 ⟨Nat.le_of_ble_eq_true rfl, Nat.le_of_ble_eq_true rfl⟩ (fun r_2 M1 H locs hpo hP hS _ _ => ?_)
    obtain ⟨rfl, rfl⟩ := hpo
    refine lv_if_ne (tgt := 17) hx hb dX7_place_11 (by decide) (fun c2 => ?_) (fun c2 => ?_)
    · obtain ⟨pl, hp, rfl⟩ := two_of c2
      refine lv_sipush (v := nI 600) hx hb dX7_place_17 (by decide) ?_
      refine lv_iload_n hx hb dX7_place_20 rfl (lv_at hl 1 rfl) ?_
      refine n_mul hx hb dX7_place_21 ?_
      refine lv_aload_n hx hb dX7_place_22 rfl (lv_at hl 0 rfl) ?_
      refine m_get hx hb hts inX7 hown hK hP (ci := 7) rfl (k := 0) (by decide) rfl 2 (by decide) (hts (.fieldLink RX7 7 "RollbackPairModel" "at" "[I") (by decide +kernel)) rfl dX7_place_23 ?_
      refine lv_iload_n hx hb dX7_place_26 rfl (lv_at hl 1 rfl) ?_
      refine m_iald hx hb hK hP (k := 1) (by decide) (f := (S.1 2)) rfl (i := q) (by omega) (by decide) dX7_place_27 ?_
      refine n_val hat ?_
      refine n_add hx hb dX7_place_28 ?_
      refine lv_istore_n (lv' := [(3, .int (nI (600 * q + a))), (0, .ref (ad 0)), (1, .int (nI q)), (2, .int (nI pl))]) hx hb dX7_place_29 rfl hl (by decide) rfl (fun ls hl => ?_)
      refine lv_iload_n hx hb dX7_place_30 rfl (lv_at hl 3 rfl) ?_
      refine n_if_ne (tgt := 43) hx hb dX7_place_31 (by decide) (by omega) (fun c3 => ?_) (fun c3 => ?_)
      · refine lv_aload_n hx hb dX7_place_43 rfl (lv_at hl 1 rfl) ?_
        refine m_get hx hb hts inX7 hown hK hP (ci := 7) rfl (k := 0) (by decide) rfl 15 (by decide) (hts (.fieldLink RX7 52 "RollbackPairModel" "place1" "[F") (by decide +kernel)) rfl dX7_place_44 ?_
        refine lv_iload_n hx hb dX7_place_47 rfl (lv_at hl 0 rfl) ?_
        refine m_fald hx hb hK hP (k := 14) (by decide) (f := (S.2.1 15)) rfl (i := 600 * q + a) (by omega) (by decide) dX7_place_48 ?_
        exact r_f hx hb hr hlocks hK hP hS dX7_place_49 ⟨rfl, by unfold rPl; rw [if_pos ⟨two_in hq, two_in hp⟩, tn_nI (show q < 2 ^ 31 by omega), tn_nI (show pl < 2 ^ 31 by omega), hao]; first | rw [if_pos c3] | rw [if_neg c3]⟩
      · refine lv_aload_n hx hb dX7_place_34 rfl (lv_at hl 1 rfl) ?_
        refine m_get hx hb hts inX7 hown hK hP (ci := 7) rfl (k := 0) (by decide) rfl 13 (by decide) (hts (.fieldLink RX7 46 "RollbackPairModel" "place0" "[F") (by decide +kernel)) rfl dX7_place_35 ?_
        refine lv_iload_n hx hb dX7_place_38 rfl (lv_at hl 0 rfl) ?_
        refine m_fald hx hb hK hP (k := 12) (by decide) (f := (S.2.1 13)) rfl (i := 600 * q + a) (by omega) (by decide) dX7_place_39 ?_
        refine lv_goto (tgt := 49) hx hb dX7_place_40 (by decide) ?_
        exact r_f hx hb hr hlocks hK hP hS dX7_place_49 ⟨rfl, by unfold rPl; rw [if_pos ⟨two_in hq, two_in hp⟩, tn_nI (show q < 2 ^ 31 by omega), tn_nI (show pl < 2 ^ 31 by omega), hao]; first | rw [if_pos c3] | rw [if_neg c3]⟩
    · have hno := two_no c2
      refine lv_ldcf hx hb hown (hts (.constantFloat RX7 158 (3267887104)) (by decide +kernel)) dX7_place_14 ?_
      exact r_f hx hb hr hlocks hK hP hS dX7_place_16 ⟨rfl, by unfold rPl; rw [if_neg (fun z => hno z.2)]⟩
set_option maxHeartbeats 4000000 in
set_option maxRecDepth 100000 in
/-- X7_speed -/
theorem c_speed (l : Launch) (D : va_G) (cs : Nat → ClassId) (ad : Nat → Nat) (hJ : Inj ad 26) (d w : Int32) (S : SS) (np ns : UInt32) (pe pl : Int32) (hA : ∀ q, q < 2 → ∃ a, S.1 2 q = nI a ∧ a ≤ 590) : CTf l yX7_speed wsX7_speed ({ frames := 1, cells := 0, slots := 0, locals := 20 }) D cs ad 26 (mm ad cs d w S np ns) [.ref (ad 0), .int pe, .int pl] (fun r M2 => M2 = (mm ad cs d w S np ns) ∧ r = rSp S pe pl) := by
  refine Met.ofW (cc := cX7_speed) (maxL := 4) (ret := (some .float)) (by decide) rfl ?_
  intro p e s m args below meth c s₁ B hml hv
  obtain ⟨rfl, hP, hK⟩ := hv
  have hx := B.exec
  have hb := B.bytes
  have hr := B.returns
  have hts := atoms_spec (ws := wsX7_speed) B.pre
  have hown : s.vm.findClass RX7 = some m.cls := findClass_of_methodNamed B.named
  have hlocks := B.notSynchronized
  have hS : va_S (Ad ad 26) s.heap s.heap [] := va_S.rf
  have hl := lv_entry ([.ref (ad 0), .int pe, .int pl]) (n := 4) (Nat.le_of_ble_eq_true rfl)
  rw [lg_entry_eq]
  generalize (lg_sl ([.ref (ad 0), .int pe, .int pl]) ++ List.replicate (4 - (lg_sl ([.ref (ad 0), .int pe, .int pl])).length) Slot.unset).toArray = ls at hl ⊢
  have hl : lv_has ls 4 [(0, .ref (ad 0)), (1, .int pe), (2, .int pl)] := hl
  have inX7 : ∀ w ∈ u_ws RX7 TX7 29, w ∈ wsX7_speed := fun w h => List.mem_cons_of_mem _ (List.mem_append_right _ h)
  refine lv_iload_n hx hb dX7_speed_0 rfl (lv_at hl 1 rfl) ?_
  refine k_Si (As := [.int pe]) (rest := []) ⟨hx, hb, hml, hown, hts⟩ hK hP hS Ad_le (c_isTwo l D cs ad 26 (mm ad cs d w S np ns) pe) (va_cwS 1 hts gX7_speed_X7_isTwo rfl rfl rfl (by decide +kernel) ⟨Nat.le_of_ble_eq_true rfl, Nat.le_of_ble_eq_true rfl⟩) rfl rfl hl.1 (Nat.le_of_ble_eq_true rfl) dX7_speed_1 ⟨Nat.le_of_ble_eq_true rfl, Nat.le_of_ble_eq_true rfl⟩ (fun r_1 M1 H locs hpo hP hS _ _ => ?_)
  obtain ⟨rfl, rfl⟩ := hpo
  refine lv_if_eq (tgt := 14) hx hb dX7_speed_4 (by decide) (fun c1 => ?_) (fun c1 => ?_)
  · have hno := two_no c1
    refine lv_fconst0 hx hb dX7_speed_14 ?_
    exact r_f hx hb hr hlocks hK hP hS dX7_speed_15 ⟨rfl, by unfold rSp; rw [if_neg (fun z => hno z.1)]⟩
  · obtain ⟨q, hq, rfl⟩ := two_of c1
    obtain ⟨a, hat, ha⟩ := hA q hq
    have hao := aOf_eq hq (by omega) hat
    refine lv_iload_n hx hb dX7_speed_7 rfl (lv_at hl 2 rfl) ?_
    refine k_Si (As := [.int pl]) (rest := []) ⟨hx, hb, hml, hown, hts⟩ hK hP hS Ad_le (c_isTwo l D cs ad 26 (mm ad cs d w S np ns) pl) (va_cwS 1 hts gX7_speed_X7_isTwo rfl rfl rfl (by decide +kernel) ⟨Nat.le_of_ble_eq_true rfl, Nat.le_of_ble_eq_true rfl⟩) rfl rfl hl.1 (Nat.le_of_ble_eq_true rfl) dX7_speed_8 ⟨Nat.le_of_ble_eq_true rfl, Nat.le_of_ble_eq_true rfl⟩ (fun r_2 M1 H locs hpo hP hS _ _ => ?_)
    obtain ⟨rfl, rfl⟩ := hpo
    refine lv_if_ne (tgt := 16) hx hb dX7_speed_11 (by decide) (fun c2 => ?_) (fun c2 => ?_)
    · obtain ⟨pl, hp, rfl⟩ := two_of c2
      refine lv_sipush (v := nI 600) hx hb dX7_speed_16 (by decide) ?_
      refine lv_iload_n hx hb dX7_speed_19 rfl (lv_at hl 1 rfl) ?_
      refine n_mul hx hb dX7_speed_20 ?_
      refine lv_aload_n hx hb dX7_speed_21 rfl (lv_at hl 0 rfl) ?_
      refine m_get hx hb hts inX7 hown hK hP (ci := 7) rfl (k := 0) (by decide) rfl 2 (by decide) (hts (.fieldLink RX7 7 "RollbackPairModel" "at" "[I") (by decide +kernel)) rfl dX7_speed_22 ?_
      refine lv_iload_n hx hb dX7_speed_25 rfl (lv_at hl 1 rfl) ?_
      refine m_iald hx hb hK hP (k := 1) (by decide) (f := (S.1 2)) rfl (i := q) (by omega) (by decide) dX7_speed_26 ?_
      refine n_val hat ?_
      refine n_add hx hb dX7_speed_27 ?_
      refine lv_istore_n (lv' := [(3, .int (nI (600 * q + a))), (0, .ref (ad 0)), (1, .int (nI q)), (2, .int (nI pl))]) hx hb dX7_speed_28 rfl hl (by decide) rfl (fun ls hl => ?_)
      refine lv_iload_n hx hb dX7_speed_29 rfl (lv_at hl 3 rfl) ?_
      refine n_if_ne (tgt := 42) hx hb dX7_speed_30 (by decide) (by omega) (fun c3 => ?_) (fun c3 => ?_)
      · refine lv_aload_n hx hb dX7_speed_42 rfl (lv_at hl 1 rfl) ?_
        refine m_get hx hb hts inX7 hown hK hP (ci := 7) rfl (k := 0) (by decide) rfl 16 (by decide) (hts (.fieldLink RX7 55 "RollbackPairModel" "speed1" "[F") (by decide +kernel)) rfl dX7_speed_43 ?_
        refine lv_iload_n hx hb dX7_speed_46 rfl (lv_at hl 0 rfl) ?_
        refine m_fald hx hb hK hP (k := 15) (by decide) (f := (S.2.1 16)) rfl (i := 600 * q + a) (by omega) (by decide) dX7_speed_47 ?_
        exact r_f hx hb hr hlocks hK hP hS dX7_speed_48 ⟨rfl, by unfold rSp; rw [if_pos ⟨two_in hq, two_in hp⟩, tn_nI (show q < 2 ^ 31 by omega), tn_nI (show pl < 2 ^ 31 by omega), hao]; first | rw [if_pos c3] | rw [if_neg c3]⟩
      · refine lv_aload_n hx hb dX7_speed_33 rfl (lv_at hl 1 rfl) ?_
        refine m_get hx hb hts inX7 hown hK hP (ci := 7) rfl (k := 0) (by decide) rfl 14 (by decide) (hts (.fieldLink RX7 49 "RollbackPairModel" "speed0" "[F") (by decide +kernel)) rfl dX7_speed_34 ?_
        refine lv_iload_n hx hb dX7_speed_37 rfl (lv_at hl 0 rfl) ?_
        refine m_fald hx hb hK hP (k := 13) (by decide) (f := (S.2.1 14)) rfl (i := 600 * q + a) (by omega) (by decide) dX7_speed_38 ?_
        refine lv_goto (tgt := 48) hx hb dX7_speed_39 (by decide) ?_
        exact r_f hx hb hr hlocks hK hP hS dX7_speed_48 ⟨rfl, by unfold rSp; rw [if_pos ⟨two_in hq, two_in hp⟩, tn_nI (show q < 2 ^ 31 by omega), tn_nI (show pl < 2 ^ 31 by omega), hao]; first | rw [if_pos c3] | rw [if_neg c3]⟩
    · have hno := two_no c2
      refine lv_fconst0 hx hb dX7_speed_14 ?_
      exact r_f hx hb hr hlocks hK hP hS dX7_speed_15 ⟨rfl, by unfold rSp; rw [if_neg (fun z => hno z.2)]⟩
set_option maxHeartbeats 4000000 in
set_option maxRecDepth 100000 in
/-- X7_hits -/
theorem c_hits (l : Launch) (D : va_G) (cs : Nat → ClassId) (ad : Nat → Nat) (hJ : Inj ad 26) (d w : Int32) (S : SS) (np ns : UInt32) (pe : Int32) (hA : ∀ q, q < 2 → ∃ a, S.1 2 q = nI a ∧ a ≤ 590) : CTi l yX7_hits wsX7_hits ({ frames := 1, cells := 0, slots := 0, locals := 20 }) D cs ad 26 (mm ad cs d w S np ns) [.ref (ad 0), .int pe] (fun r M2 => M2 = (mm ad cs d w S np ns) ∧ r = rHi S pe) := by
  refine Met.ofW (cc := cX7_hits) (maxL := 2) (ret := (some .int)) (by decide) rfl ?_
  intro p e s m args below meth c s₁ B hml hv
  obtain ⟨rfl, hP, hK⟩ := hv
  have hx := B.exec
  have hb := B.bytes
  have hr := B.returns
  have hts := atoms_spec (ws := wsX7_hits) B.pre
  have hown : s.vm.findClass RX7 = some m.cls := findClass_of_methodNamed B.named
  have hlocks := B.notSynchronized
  have hS : va_S (Ad ad 26) s.heap s.heap [] := va_S.rf
  have hl := lv_entry ([.ref (ad 0), .int pe]) (n := 2) (Nat.le_of_ble_eq_true rfl)
  rw [lg_entry_eq]
  generalize (lg_sl ([.ref (ad 0), .int pe]) ++ List.replicate (2 - (lg_sl ([.ref (ad 0), .int pe])).length) Slot.unset).toArray = ls at hl ⊢
  have hl : lv_has ls 2 [(0, .ref (ad 0)), (1, .int pe)] := hl
  have inX7 : ∀ w ∈ u_ws RX7 TX7 29, w ∈ wsX7_hits := fun w h => List.mem_cons_of_mem _ (List.mem_append_right _ h)
  refine lv_iload_n hx hb dX7_hits_0 rfl (lv_at hl 1 rfl) ?_
  refine k_Si (As := [.int pe]) (rest := []) ⟨hx, hb, hml, hown, hts⟩ hK hP hS Ad_le (c_isTwo l D cs ad 26 (mm ad cs d w S np ns) pe) (va_cwS 1 hts gX7_hits_X7_isTwo rfl rfl rfl (by decide +kernel) ⟨Nat.le_of_ble_eq_true rfl, Nat.le_of_ble_eq_true rfl⟩) rfl rfl hl.1 (Nat.le_of_ble_eq_true rfl) dX7_hits_1 ⟨Nat.le_of_ble_eq_true rfl, Nat.le_of_ble_eq_true rfl⟩ (fun r_1 M1 H locs hpo hP hS _ _ => ?_)
  obtain ⟨rfl, rfl⟩ := hpo
  refine lv_if_eq (tgt := 27) hx hb dX7_hits_4 (by decide) (fun c1 => ?_) (fun c1 => ?_)
  · have hno := two_no c1
    refine lv_iconst (v := (-1)) hx hb dX7_hits_27 (by decide) ?_
    exact r_i hx hb hr hlocks hK hP hS dX7_hits_28 ⟨rfl, by unfold rHi; rw [if_neg (fun z => hno z)]⟩
  · obtain ⟨q, hq, rfl⟩ := two_of c1
    obtain ⟨a, hat, ha⟩ := hA q hq
    have hao := aOf_eq hq (by omega) hat
    refine lv_aload_n hx hb dX7_hits_7 rfl (lv_at hl 0 rfl) ?_
    refine m_get hx hb hts inX7 hown hK hP (ci := 7) rfl (k := 0) (by decide) rfl 17 (by decide) (hts (.fieldLink RX7 58 "RollbackPairModel" "hits" "[I") (by decide +kernel)) rfl dX7_hits_8 ?_
    refine lv_sipush (v := nI 600) hx hb dX7_hits_11 (by decide) ?_
    refine lv_iload_n hx hb dX7_hits_14 rfl (lv_at hl 1 rfl) ?_
    refine n_mul hx hb dX7_hits_15 ?_
    refine lv_aload_n hx hb dX7_hits_16 rfl (lv_at hl 0 rfl) ?_
    refine m_get hx hb hts inX7 hown hK hP (ci := 7) rfl (k := 0) (by decide) rfl 2 (by decide) (hts (.fieldLink RX7 7 "RollbackPairModel" "at" "[I") (by decide +kernel)) rfl dX7_hits_17 ?_
    refine lv_iload_n hx hb dX7_hits_20 rfl (lv_at hl 1 rfl) ?_
    refine m_iald hx hb hK hP (k := 1) (by decide) (f := (S.1 2)) rfl (i := q) (by omega) (by decide) dX7_hits_21 ?_
    refine n_val hat ?_
    refine n_add hx hb dX7_hits_22 ?_
    refine m_iald hx hb hK hP (k := 16) (by decide) (f := (S.1 17)) rfl (i := 600 * q + a) (by omega) (by decide) dX7_hits_23 ?_
    refine lv_goto (tgt := 28) hx hb dX7_hits_24 (by decide) ?_
    exact r_i hx hb hr hlocks hK hP hS dX7_hits_28 ⟨rfl, by unfold rHi; rw [if_pos (two_in hq), tn_nI (show q < 2 ^ 31 by omega), hao]⟩
set_option maxHeartbeats 4000000 in
set_option maxRecDepth 100000 in
/-- X7_work -/
theorem c_work (l : Launch) (D : va_G) (cs : Nat → ClassId) (ad : Nat → Nat) (hJ : Inj ad 26) (d w : Int32) (S : SS) (np ns : UInt32) (pe : Int32) (hA : ∀ q, q < 2 → ∃ a, S.1 2 q = nI a ∧ a ≤ 590) : CTd l yX7_work wsX7_work ({ frames := 1, cells := 0, slots := 0, locals := 20 }) D cs ad 26 (mm ad cs d w S np ns) [.ref (ad 0), .int pe] (fun r M2 => M2 = (mm ad cs d w S np ns) ∧ r = rWo S pe) := by
  refine Met.ofW (cc := cX7_work) (maxL := 2) (ret := (some .double)) (by decide) rfl ?_
  intro p e s m args below meth c s₁ B hml hv
  obtain ⟨rfl, hP, hK⟩ := hv
  have hx := B.exec
  have hb := B.bytes
  have hr := B.returns
  have hts := atoms_spec (ws := wsX7_work) B.pre
  have hown : s.vm.findClass RX7 = some m.cls := findClass_of_methodNamed B.named
  have hlocks := B.notSynchronized
  have hS : va_S (Ad ad 26) s.heap s.heap [] := va_S.rf
  have hl := lv_entry ([.ref (ad 0), .int pe]) (n := 2) (Nat.le_of_ble_eq_true rfl)
  rw [lg_entry_eq]
  generalize (lg_sl ([.ref (ad 0), .int pe]) ++ List.replicate (2 - (lg_sl ([.ref (ad 0), .int pe])).length) Slot.unset).toArray = ls at hl ⊢
  have hl : lv_has ls 2 [(0, .ref (ad 0)), (1, .int pe)] := hl
  have inX7 : ∀ w ∈ u_ws RX7 TX7 29, w ∈ wsX7_work := fun w h => List.mem_cons_of_mem _ (List.mem_append_right _ h)
  refine lv_iload_n hx hb dX7_work_0 rfl (lv_at hl 1 rfl) ?_
  refine k_Si (As := [.int pe]) (rest := []) ⟨hx, hb, hml, hown, hts⟩ hK hP hS Ad_le (c_isTwo l D cs ad 26 (mm ad cs d w S np ns) pe) (va_cwS 1 hts gX7_work_X7_isTwo rfl rfl rfl (by decide +kernel) ⟨Nat.le_of_ble_eq_true rfl, Nat.le_of_ble_eq_true rfl⟩) rfl rfl hl.1 (Nat.le_of_ble_eq_true rfl) dX7_work_1 ⟨Nat.le_of_ble_eq_true rfl, Nat.le_of_ble_eq_true rfl⟩ (fun r_1 M1 H locs hpo hP hS _ _ => ?_)
  obtain ⟨rfl, rfl⟩ := hpo
  refine lv_if_eq (tgt := 27) hx hb dX7_work_4 (by decide) (fun c1 => ?_) (fun c1 => ?_)
  · have hno := two_no c1
    refine lv_ldc2d hx hb hown (hts (.constantDouble RX7 159 (13830554455654793216)) (by decide +kernel)) dX7_work_27 ?_
    exact r_d hx hb hr hlocks hK hP hS dX7_work_30 ⟨rfl, by unfold rWo; rw [if_neg (fun z => hno z)]⟩
  · obtain ⟨q, hq, rfl⟩ := two_of c1
    obtain ⟨a, hat, ha⟩ := hA q hq
    have hao := aOf_eq hq (by omega) hat
    refine lv_aload_n hx hb dX7_work_7 rfl (lv_at hl 0 rfl) ?_
    refine m_get hx hb hts inX7 hown hK hP (ci := 7) rfl (k := 0) (by decide) rfl 18 (by decide) (hts (.fieldLink RX7 61 "RollbackPairModel" "work" "[D") (by decide +kernel)) rfl dX7_work_8 ?_
    refine lv_sipush (v := nI 600) hx hb dX7_work_11 (by decide) ?_
    refine lv_iload_n hx hb dX7_work_14 rfl (lv_at hl 1 rfl) ?_
    refine n_mul hx hb dX7_work_15 ?_
    refine lv_aload_n hx hb dX7_work_16 rfl (lv_at hl 0 rfl) ?_
    refine m_get hx hb hts inX7 hown hK hP (ci := 7) rfl (k := 0) (by decide) rfl 2 (by decide) (hts (.fieldLink RX7 7 "RollbackPairModel" "at" "[I") (by decide +kernel)) rfl dX7_work_17 ?_
    refine lv_iload_n hx hb dX7_work_20 rfl (lv_at hl 1 rfl) ?_
    refine m_iald hx hb hK hP (k := 1) (by decide) (f := (S.1 2)) rfl (i := q) (by omega) (by decide) dX7_work_21 ?_
    refine n_val hat ?_
    refine n_add hx hb dX7_work_22 ?_
    refine m_dald hx hb hK hP (k := 17) (by decide) (f := S.2.2.2) rfl (i := 600 * q + a) (by omega) (by decide) dX7_work_23 ?_
    refine lv_goto (tgt := 30) hx hb dX7_work_24 (by decide) ?_
    exact r_d hx hb hr hlocks hK hP hS dX7_work_30 ⟨rfl, by unfold rWo; rw [if_pos (two_in hq), tn_nI (show q < 2 ^ 31 by omega), hao]⟩
set_option maxHeartbeats 4000000 in
set_option maxRecDepth 100000 in
/-- X7_advice -/
theorem c_advice (l : Launch) (D : va_G) (cs : Nat → ClassId) (ad : Nat → Nat) (hJ : Inj ad 26) (d w : Int32) (S : SS) (np ns : UInt32) (pe : Int32) (hA : ∀ q, q < 2 → ∃ a, S.1 2 q = nI a ∧ a ≤ 590) : CTf l yX7_advice wsX7_advice ({ frames := 1, cells := 0, slots := 0, locals := 20 }) D cs ad 26 (mm ad cs d w S np ns) [.ref (ad 0), .int pe] (fun r M2 => M2 = (mm ad cs d w S np ns) ∧ r = rAv S pe) := by
  refine Met.ofW (cc := cX7_advice) (maxL := 2) (ret := (some .float)) (by decide) rfl ?_
  intro p e s m args below meth c s₁ B hml hv
  obtain ⟨rfl, hP, hK⟩ := hv
  have hx := B.exec
  have hb := B.bytes
  have hr := B.returns
  have hts := atoms_spec (ws := wsX7_advice) B.pre
  have hown : s.vm.findClass RX7 = some m.cls := findClass_of_methodNamed B.named
  have hlocks := B.notSynchronized
  have hS : va_S (Ad ad 26) s.heap s.heap [] := va_S.rf
  have hl := lv_entry ([.ref (ad 0), .int pe]) (n := 2) (Nat.le_of_ble_eq_true rfl)
  rw [lg_entry_eq]
  generalize (lg_sl ([.ref (ad 0), .int pe]) ++ List.replicate (2 - (lg_sl ([.ref (ad 0), .int pe])).length) Slot.unset).toArray = ls at hl ⊢
  have hl : lv_has ls 2 [(0, .ref (ad 0)), (1, .int pe)] := hl
  have inX7 : ∀ w ∈ u_ws RX7 TX7 29, w ∈ wsX7_advice := fun w h => List.mem_cons_of_mem _ (List.mem_append_right _ h)
  refine lv_iload_n hx hb dX7_advice_0 rfl (lv_at hl 1 rfl) ?_
  refine k_Si (As := [.int pe]) (rest := []) ⟨hx, hb, hml, hown, hts⟩ hK hP hS Ad_le (c_isTwo l D cs ad 26 (mm ad cs d w S np ns) pe) (va_cwS 1 hts gX7_advice_X7_isTwo rfl rfl rfl (by decide +kernel) ⟨Nat.le_of_ble_eq_true rfl, Nat.le_of_ble_eq_true rfl⟩) rfl rfl hl.1 (Nat.le_of_ble_eq_true rfl) dX7_advice_1 ⟨Nat.le_of_ble_eq_true rfl, Nat.le_of_ble_eq_true rfl⟩ (fun r_1 M1 H locs hpo hP hS _ _ => ?_)
  obtain ⟨rfl, rfl⟩ := hpo
  refine lv_if_eq (tgt := 16) hx hb dX7_advice_4 (by decide) (fun c1 => ?_) (fun c1 => ?_)
  · have hno := two_no c1
    refine lv_fconst0 hx hb dX7_advice_16 ?_
    exact r_f hx hb hr hlocks hK hP hS dX7_advice_17 ⟨rfl, by unfold rAv; rw [if_neg (fun z => hno z)]⟩
  · obtain ⟨q, hq, rfl⟩ := two_of c1
    obtain ⟨a, hat, ha⟩ := hA q hq
    have hao := aOf_eq hq (by omega) hat
    refine lv_aload_n hx hb dX7_advice_7 rfl (lv_at hl 0 rfl) ?_
    refine m_get hx hb hts inX7 hown hK hP (ci := 7) rfl (k := 0) (by decide) rfl 9 (by decide) (hts (.fieldLink RX7 33 "RollbackPairModel" "advice" "[F") (by decide +kernel)) rfl dX7_advice_8 ?_
    refine lv_iload_n hx hb dX7_advice_11 rfl (lv_at hl 1 rfl) ?_
    refine m_fald hx hb hK hP (k := 8) (by decide) (f := (S.2.1 9)) rfl (i := q) (by omega) (by decide) dX7_advice_12 ?_
    refine lv_goto (tgt := 17) hx hb dX7_advice_13 (by decide) ?_
    exact r_f hx hb hr hlocks hK hP hS dX7_advice_17 ⟨rfl, by unfold rAv; rw [if_pos (two_in hq), tn_nI (show q < 2 ^ 31 by omega)]⟩
set_option maxHeartbeats 4000000 in
set_option maxRecDepth 100000 in
/-- X7_used -/
theorem c_used (l : Launch) (D : va_G) (cs : Nat → ClassId) (ad : Nat → Nat) (hJ : Inj ad 26) (d w : Int32) (S : SS) (np ns : UInt32) (pe pl fr : Int32) (hA : ∀ q, q < 2 → ∃ a, S.1 2 q = nI a ∧ a ≤ 590) : CTi l yX7_used wsX7_used ({ frames := 1, cells := 0, slots := 0, locals := 20 }) D cs ad 26 (mm ad cs d w S np ns) [.ref (ad 0), .int pe, .int pl, .int fr] (fun r M2 => M2 = (mm ad cs d w S np ns) ∧ r = rUs S pe pl fr) := by
  refine Met.ofW (cc := cX7_used) (maxL := 4) (ret := (some .int)) (by decide) rfl ?_
  intro p e s m args below meth c s₁ B hml hv
  obtain ⟨rfl, hP, hK⟩ := hv
  have hx := B.exec
  have hb := B.bytes
  have hr := B.returns
  have hts := atoms_spec (ws := wsX7_used) B.pre
  have hown : s.vm.findClass RX7 = some m.cls := findClass_of_methodNamed B.named
  have hlocks := B.notSynchronized
  have hS : va_S (Ad ad 26) s.heap s.heap [] := va_S.rf
  have hl := lv_entry ([.ref (ad 0), .int pe, .int pl, .int fr]) (n := 4) (Nat.le_of_ble_eq_true rfl)
  rw [lg_entry_eq]
  generalize (lg_sl ([.ref (ad 0), .int pe, .int pl, .int fr]) ++ List.replicate (4 - (lg_sl ([.ref (ad 0), .int pe, .int pl, .int fr])).length) Slot.unset).toArray = ls at hl ⊢
  have hl : lv_has ls 4 [(0, .ref (ad 0)), (1, .int pe), (2, .int pl), (3, .int fr)] := hl
  have inX7 : ∀ w ∈ u_ws RX7 TX7 29, w ∈ wsX7_used := fun w h => List.mem_cons_of_mem _ (List.mem_append_right _ h)
  refine lv_iload_n hx hb dX7_used_0 rfl (lv_at hl 1 rfl) ?_
  refine k_Si (As := [.int pe]) (rest := []) ⟨hx, hb, hml, hown, hts⟩ hK hP hS Ad_le (c_isTwo l D cs ad 26 (mm ad cs d w S np ns) pe) (va_cwS 1 hts gX7_used_X7_isTwo rfl rfl rfl (by decide +kernel) ⟨Nat.le_of_ble_eq_true rfl, Nat.le_of_ble_eq_true rfl⟩) rfl rfl hl.1 (Nat.le_of_ble_eq_true rfl) dX7_used_1 ⟨Nat.le_of_ble_eq_true rfl, Nat.le_of_ble_eq_true rfl⟩ (fun r_1 M1 H locs hpo hP hS _ _ => ?_)
  obtain ⟨rfl, rfl⟩ := hpo
  refine lv_if_eq (tgt := 41) hx hb dX7_used_4 (by decide) (fun c1 => ?_) (fun c1 => ?_)
  · have hno := two_no c1
    refine lv_iconst (v := (-1)) hx hb dX7_used_41 (by decide) ?_
    exact r_i hx hb hr hlocks hK hP hS dX7_used_42 ⟨rfl, by unfold rUs; rw [if_neg (fun z => hno z.1)]⟩
  · obtain ⟨q, hq, rfl⟩ := two_of c1
    obtain ⟨a, hat, ha⟩ := hA q hq
    have hao := aOf_eq hq (by omega) hat
    refine lv_iload_n hx hb dX7_used_7 rfl (lv_at hl 2 rfl) ?_
    refine k_Si (As := [.int pl]) (rest := []) ⟨hx, hb, hml, hown, hts⟩ hK hP hS Ad_le (c_isTwo l D cs ad 26 (mm ad cs d w S np ns) pl) (va_cwS 1 hts gX7_used_X7_isTwo rfl rfl rfl (by decide +kernel) ⟨Nat.le_of_ble_eq_true rfl, Nat.le_of_ble_eq_true rfl⟩) rfl rfl hl.1 (Nat.le_of_ble_eq_true rfl) dX7_used_8 ⟨Nat.le_of_ble_eq_true rfl, Nat.le_of_ble_eq_true rfl⟩ (fun r_2 M1 H locs hpo hP hS _ _ => ?_)
    obtain ⟨rfl, rfl⟩ := hpo
    refine lv_if_eq (tgt := 41) hx hb dX7_used_11 (by decide) (fun c2 => ?_) (fun c2 => ?_)
    · have hno := two_no c2
      refine lv_iconst (v := (-1)) hx hb dX7_used_41 (by decide) ?_
      exact r_i hx hb hr hlocks hK hP hS dX7_used_42 ⟨rfl, by unfold rUs; rw [if_neg (fun z => hno z.2.1)]⟩
    · obtain ⟨pl, hp, rfl⟩ := two_of c2
      refine lv_iload_n hx hb dX7_used_14 rfl (lv_at hl 3 rfl) ?_
      refine lv_if_lt (tgt := 41) hx hb dX7_used_15 (by decide) (fun c3 => ?_) (fun c3 => ?_)
      · refine lv_iconst (v := (-1)) hx hb dX7_used_41 (by decide) ?_
        exact r_i hx hb hr hlocks hK hP hS dX7_used_42 ⟨rfl, by unfold rUs; rw [if_neg (fun z => z.2.2.1 c3)]⟩
      · obtain ⟨f, hf, rfl⟩ := nI_of c3
        refine lv_iload_n hx hb dX7_used_18 rfl (lv_at hl 3 rfl) ?_
        refine lv_aload_n hx hb dX7_used_19 rfl (lv_at hl 0 rfl) ?_
        refine m_get hx hb hts inX7 hown hK hP (ci := 7) rfl (k := 0) (by decide) rfl 2 (by decide) (hts (.fieldLink RX7 7 "RollbackPairModel" "at" "[I") (by decide +kernel)) rfl dX7_used_20 ?_
        refine lv_iload_n hx hb dX7_used_23 rfl (lv_at hl 1 rfl) ?_
        refine m_iald hx hb hK hP (k := 1) (by decide) (f := (S.1 2)) rfl (i := q) (by omega) (by decide) dX7_used_24 ?_
        refine n_val hat ?_
        refine n_cmp_ge (tgt := 41) hx hb dX7_used_25 (by decide) (by omega) (by omega) (fun c4 => ?_) (fun c4 => ?_)
        · refine lv_iconst (v := (-1)) hx hb dX7_used_41 (by decide) ?_
          exact r_i hx hb hr hlocks hK hP hS dX7_used_42 ⟨rfl, by unfold rUs; rw [if_neg (fun z => by have h9 := z.2.2.2.1; rw [tn_nI hf, hao] at h9; omega)]⟩
        · refine lv_iload_n hx hb dX7_used_28 rfl (lv_at hl 3 rfl) ?_
          refine lv_aload_n hx hb dX7_used_29 rfl (lv_at hl 0 rfl) ?_
          refine m_get hx hb hts inX7 hown hK hP (ci := 7) rfl (k := 0) (by decide) rfl 2 (by decide) (hts (.fieldLink RX7 7 "RollbackPairModel" "at" "[I") (by decide +kernel)) rfl dX7_used_30 ?_
          refine lv_iload_n hx hb dX7_used_33 rfl (lv_at hl 1 rfl) ?_
          refine m_iald hx hb hK hP (k := 1) (by decide) (f := (S.1 2)) rfl (i := q) (by omega) (by decide) dX7_used_34 ?_
          refine n_val hat ?_
          refine lv_bipush (v := nI 15) hx hb dX7_used_35 (by decide) ?_
          refine lv_isub hx hb dX7_used_37 ?_
          refine lv_icmp_ge (tgt := 43) hx hb dX7_used_38 (by decide) (fun c5 => ?_) (fun c5 => ?_)
          · have h15 := (in15 (by omega) hf).mp c5
            refine lv_aload_n hx hb dX7_used_43 rfl (lv_at hl 0 rfl) ?_
            refine m_get hx hb hts inX7 hown hK hP (ci := 7) rfl (k := 0) (by decide) rfl 11 (by decide) (hts (.fieldLink RX7 40 "RollbackPairModel" "uses" "[I") (by decide +kernel)) rfl dX7_used_44 ?_
            refine lv_sipush (v := nI 1200) hx hb dX7_used_47 (by decide) ?_
            refine lv_iload_n hx hb dX7_used_50 rfl (lv_at hl 1 rfl) ?_
            refine n_mul hx hb dX7_used_51 ?_
            refine lv_sipush (v := nI 600) hx hb dX7_used_52 (by decide) ?_
            refine lv_iload_n hx hb dX7_used_55 rfl (lv_at hl 2 rfl) ?_
            refine n_mul hx hb dX7_used_56 ?_
            refine n_add hx hb dX7_used_57 ?_
            refine lv_iload_n hx hb dX7_used_58 rfl (lv_at hl 3 rfl) ?_
            refine n_add hx hb dX7_used_59 ?_
            refine m_iald hx hb hK hP (k := 10) (by decide) (f := (S.1 11)) rfl (i := 1200 * q + (600 * pl) + f) (by omega) (by decide) dX7_used_60 ?_
            exact r_i hx hb hr hlocks hK hP hS dX7_used_61 ⟨rfl, by unfold rUs; rw [if_pos ⟨two_in hq, two_in hp, nI_pos hf, by rw [tn_nI hf, hao]; exact c4, by rw [tn_nI hf, hao]; exact (in15 (by omega) hf).mp c5⟩, tn_nI (show q < 2 ^ 31 by omega), tn_nI (show pl < 2 ^ 31 by omega), tn_nI hf]⟩
          · refine lv_iconst (v := (-1)) hx hb dX7_used_41 (by decide) ?_
            exact r_i hx hb hr hlocks hK hP hS dX7_used_42 ⟨rfl, by unfold rUs; rw [if_neg (fun z => by have h9 := z.2.2.2.2; rw [tn_nI hf, hao] at h9; exact c5 ((in15 (by omega) hf).mpr h9))]⟩
set_option maxHeartbeats 4000000 in
set_option maxRecDepth 100000 in
/-- X7_sum -/
theorem c_sum (l : Launch) (D : va_G) (cs : Nat → ClassId) (ad : Nat → Nat) (hJ : Inj ad 26) (d w : Int32) (S : SS) (np ns : UInt32) (pe fr : Int32) (hA : ∀ q, q < 2 → ∃ a, S.1 2 q = nI a ∧ a ≤ 590) (hB : ∀ q f, q < 2 → f ≤ tn (S.1 2 q) → BdAt S q f) : CTi l yX7_sum wsX7_sum ({ frames := 1, cells := 0, slots := 0, locals := 20 }) D cs ad 26 (mm ad cs d w S np ns) [.ref (ad 0), .int pe, .int fr] (fun r M2 => M2 = (mm ad cs d w S np ns) ∧ r = rSu S pe fr) := by
  refine Met.ofW (cc := cX7_sum) (maxL := 5) (ret := (some .int)) (by decide) rfl ?_
  intro p e s m args below meth c s₁ B hml hv
  obtain ⟨rfl, hP, hK⟩ := hv
  have hx := B.exec
  have hb := B.bytes
  have hr := B.returns
  have hts := atoms_spec (ws := wsX7_sum) B.pre
  have hown : s.vm.findClass RX7 = some m.cls := findClass_of_methodNamed B.named
  have hlocks := B.notSynchronized
  have hS : va_S (Ad ad 26) s.heap s.heap [] := va_S.rf
  have hl := lv_entry ([.ref (ad 0), .int pe, .int fr]) (n := 5) (Nat.le_of_ble_eq_true rfl)
  rw [lg_entry_eq]
  generalize (lg_sl ([.ref (ad 0), .int pe, .int fr]) ++ List.replicate (5 - (lg_sl ([.ref (ad 0), .int pe, .int fr])).length) Slot.unset).toArray = ls at hl ⊢
  have hl : lv_has ls 5 [(0, .ref (ad 0)), (1, .int pe), (2, .int fr)] := hl
  have inX7 : ∀ w ∈ u_ws RX7 TX7 29, w ∈ wsX7_sum := fun w h => List.mem_cons_of_mem _ (List.mem_append_right _ h)
  refine lv_iload_n hx hb dX7_sum_0 rfl (lv_at hl 1 rfl) ?_
  refine k_Si (As := [.int pe]) (rest := []) ⟨hx, hb, hml, hown, hts⟩ hK hP hS Ad_le (c_isTwo l D cs ad 26 (mm ad cs d w S np ns) pe) (va_cwS 1 hts gX7_sum_X7_isTwo rfl rfl rfl (by decide +kernel) ⟨Nat.le_of_ble_eq_true rfl, Nat.le_of_ble_eq_true rfl⟩) rfl rfl hl.1 (Nat.le_of_ble_eq_true rfl) dX7_sum_1 ⟨Nat.le_of_ble_eq_true rfl, Nat.le_of_ble_eq_true rfl⟩ (fun r_1 M1 H locs hpo hP hS _ _ => ?_)
  obtain ⟨rfl, rfl⟩ := hpo
  refine lv_if_eq (tgt := 34) hx hb dX7_sum_4 (by decide) (fun c1 => ?_) (fun c1 => ?_)
  · have hno := two_no c1
    refine lv_iconst (v := nI 0) hx hb dX7_sum_34 (by decide) ?_
    exact r_i hx hb hr hlocks hK hP hS dX7_sum_35 ⟨rfl, by unfold rSu; rw [if_neg (fun z => hno z.1)]⟩
  · obtain ⟨q, hq, rfl⟩ := two_of c1
    obtain ⟨a, hat, ha⟩ := hA q hq
    have hao := aOf_eq hq (by omega) hat
    refine lv_iload_n hx hb dX7_sum_7 rfl (lv_at hl 2 rfl) ?_
    refine lv_if_lt (tgt := 34) hx hb dX7_sum_8 (by decide) (fun c3 => ?_) (fun c3 => ?_)
    · refine lv_iconst (v := nI 0) hx hb dX7_sum_34 (by decide) ?_
      exact r_i hx hb hr hlocks hK hP hS dX7_sum_35 ⟨rfl, by unfold rSu; rw [if_neg (fun z => z.2.1 c3)]⟩
    · obtain ⟨f, hf, rfl⟩ := nI_of c3
      refine lv_iload_n hx hb dX7_sum_11 rfl (lv_at hl 2 rfl) ?_
      refine lv_aload_n hx hb dX7_sum_12 rfl (lv_at hl 0 rfl) ?_
      refine m_get hx hb hts inX7 hown hK hP (ci := 7) rfl (k := 0) (by decide) rfl 2 (by decide) (hts (.fieldLink RX7 7 "RollbackPairModel" "at" "[I") (by decide +kernel)) rfl dX7_sum_13 ?_
      refine lv_iload_n hx hb dX7_sum_16 rfl (lv_at hl 1 rfl) ?_
      refine m_iald hx hb hK hP (k := 1) (by decide) (f := (S.1 2)) rfl (i := q) (by omega) (by decide) dX7_sum_17 ?_
      refine n_val hat ?_
      refine n_cmp_gt (tgt := 34) hx hb dX7_sum_18 (by decide) (by omega) (by omega) (fun c4 => ?_) (fun c4 => ?_)
      · refine lv_iconst (v := nI 0) hx hb dX7_sum_34 (by decide) ?_
        exact r_i hx hb hr hlocks hK hP hS dX7_sum_35 ⟨rfl, by unfold rSu; rw [if_neg (fun z => by have h9 := z.2.2.1; rw [tn_nI hf, hao] at h9; omega)]⟩
      · refine lv_iload_n hx hb dX7_sum_21 rfl (lv_at hl 2 rfl) ?_
        refine lv_aload_n hx hb dX7_sum_22 rfl (lv_at hl 0 rfl) ?_
        refine m_get hx hb hts inX7 hown hK hP (ci := 7) rfl (k := 0) (by decide) rfl 2 (by decide) (hts (.fieldLink RX7 7 "RollbackPairModel" "at" "[I") (by decide +kernel)) rfl dX7_sum_23 ?_
        refine lv_iload_n hx hb dX7_sum_26 rfl (lv_at hl 1 rfl) ?_
        refine m_iald hx hb hK hP (k := 1) (by decide) (f := (S.1 2)) rfl (i := q) (by omega) (by decide) dX7_sum_27 ?_
        refine n_val hat ?_
        refine lv_bipush (v := nI 15) hx hb dX7_sum_28 (by decide) ?_
        refine lv_isub hx hb dX7_sum_30 ?_
        refine lv_icmp_ge (tgt := 36) hx hb dX7_sum_31 (by decide) (fun c5 => ?_) (fun c5 => ?_)
        · have h15 := (in15 (by omega) hf).mp c5
          have hBf := hB q f hq (by rw [hat, tn_nI (by omega)]; exact c4)
          refine lv_sipush (v := nI 600) hx hb dX7_sum_36 (by decide) ?_
          refine lv_iload_n hx hb dX7_sum_39 rfl (lv_at hl 1 rfl) ?_
          refine n_mul hx hb dX7_sum_40 ?_
          refine lv_iload_n hx hb dX7_sum_41 rfl (lv_at hl 2 rfl) ?_
          refine n_add hx hb dX7_sum_42 ?_
          refine lv_istore_n (lv' := [(3, .int (nI (600 * q + f))), (0, .ref (ad 0)), (1, .int (nI q)), (2, .int (nI f))]) hx hb dX7_sum_43 rfl hl (by decide) rfl (fun ls hl => ?_)
          refine lv_bipush (v := nI 17) hx hb dX7_sum_44 (by decide) ?_
          refine lv_istore (lv' := [(4, .int (nI 17)), (3, .int (nI (600 * q + f))), (0, .ref (ad 0)), (1, .int (nI q)), (2, .int (nI f))]) hx hb dX7_sum_46 hl (by decide) rfl (fun ls hl => ?_)
          refine lv_iload hx hb dX7_sum_48 (lv_at hl 0 rfl) ?_
          refine lv_bipush (v := nI 31) hx hb dX7_sum_50 (by decide) ?_
          refine n_mul hx hb dX7_sum_52 ?_
          refine lv_aload_n hx hb dX7_sum_53 rfl (lv_at hl 2 rfl) ?_
          refine m_get hx hb hts inX7 hown hK hP (ci := 7) rfl (k := 0) (by decide) rfl 13 (by decide) (hts (.fieldLink RX7 46 "RollbackPairModel" "place0" "[F") (by decide +kernel)) rfl dX7_sum_54 ?_
          refine lv_iload_n hx hb dX7_sum_57 rfl (lv_at hl 1 rfl) ?_
          refine m_fald hx hb hK hP (k := 12) (by decide) (f := (S.2.1 13)) rfl (i := 600 * q + f) (by omega) (by decide) dX7_sum_58 ?_
          refine lv_ldcf hx hb hown (hts (.constantFloat RX7 155 (1166016512)) (by decide +kernel)) dX7_sum_59 ?_
          refine lv_fmul hx hb dX7_sum_61 (fm_n hBf.1.1 Fc_4096) ?_
          refine lv_f2i hx hb dX7_sum_62 ?_
          refine lv_iadd hx hb dX7_sum_63 ?_
          refine lv_istore (lv' := [(4, .int ((nI (17 * 31)) + (FP.f2i (FP.fmul ((S.2.1 13) (600 * q + f)) 1166016512)))), (3, .int (nI (600 * q + f))), (0, .ref (ad 0)), (1, .int (nI q)), (2, .int (nI f))]) hx hb dX7_sum_64 hl (by decide) rfl (fun ls hl => ?_)
          refine lv_iload hx hb dX7_sum_66 (lv_at hl 0 rfl) ?_
          refine lv_bipush (v := nI 31) hx hb dX7_sum_68 (by decide) ?_
          refine lv_imul hx hb dX7_sum_70 ?_
          refine lv_aload_n hx hb dX7_sum_71 rfl (lv_at hl 2 rfl) ?_
          refine m_get hx hb hts inX7 hown hK hP (ci := 7) rfl (k := 0) (by decide) rfl 14 (by decide) (hts (.fieldLink RX7 49 "RollbackPairModel" "speed0" "[F") (by decide +kernel)) rfl dX7_sum_72 ?_
          refine lv_iload_n hx hb dX7_sum_75 rfl (lv_at hl 1 rfl) ?_
          refine m_fald hx hb hK hP (k := 13) (by decide) (f := (S.2.1 14)) rfl (i := 600 * q + f) (by omega) (by decide) dX7_sum_76 ?_
          refine lv_ldcf hx hb hown (hts (.constantFloat RX7 155 (1166016512)) (by decide +kernel)) dX7_sum_77 ?_
          refine lv_fmul hx hb dX7_sum_79 (fm_n hBf.2.1.1 Fc_4096) ?_
          refine lv_f2i hx hb dX7_sum_80 ?_
          refine lv_iadd hx hb dX7_sum_81 ?_
          refine lv_istore (lv' := [(4, .int ((((nI (17 * 31)) + (FP.f2i (FP.fmul ((S.2.1 13) (600 * q + f)) 1166016512))) * (nI 31)) + (FP.f2i (FP.fmul ((S.2.1 14) (600 * q + f)) 1166016512)))), (3, .int (nI (600 * q + f))), (0, .ref (ad 0)), (1, .int (nI q)), (2, .int (nI f))]) hx hb dX7_sum_82 hl (by decide) rfl (fun ls hl => ?_)
          refine lv_iload hx hb dX7_sum_84 (lv_at hl 0 rfl) ?_
          refine lv_bipush (v := nI 31) hx hb dX7_sum_86 (by decide) ?_
          refine lv_imul hx hb dX7_sum_88 ?_
          refine lv_aload_n hx hb dX7_sum_89 rfl (lv_at hl 2 rfl) ?_
          refine m_get hx hb hts inX7 hown hK hP (ci := 7) rfl (k := 0) (by decide) rfl 15 (by decide) (hts (.fieldLink RX7 52 "RollbackPairModel" "place1" "[F") (by decide +kernel)) rfl dX7_sum_90 ?_
          refine lv_iload_n hx hb dX7_sum_93 rfl (lv_at hl 1 rfl) ?_
          refine m_fald hx hb hK hP (k := 14) (by decide) (f := (S.2.1 15)) rfl (i := 600 * q + f) (by omega) (by decide) dX7_sum_94 ?_
          refine lv_ldcf hx hb hown (hts (.constantFloat RX7 155 (1166016512)) (by decide +kernel)) dX7_sum_95 ?_
          refine lv_fmul hx hb dX7_sum_97 (fm_n hBf.2.2.1.1 Fc_4096) ?_
          refine lv_f2i hx hb dX7_sum_98 ?_
          refine lv_iadd hx hb dX7_sum_99 ?_
          refine lv_istore (lv' := [(4, .int ((((((nI (17 * 31)) + (FP.f2i (FP.fmul ((S.2.1 13) (600 * q + f)) 1166016512))) * (nI 31)) + (FP.f2i (FP.fmul ((S.2.1 14) (600 * q + f)) 1166016512))) * (nI 31)) + (FP.f2i (FP.fmul ((S.2.1 15) (600 * q + f)) 1166016512)))), (3, .int (nI (600 * q + f))), (0, .ref (ad 0)), (1, .int (nI q)), (2, .int (nI f))]) hx hb dX7_sum_100 hl (by decide) rfl (fun ls hl => ?_)
          refine lv_iload hx hb dX7_sum_102 (lv_at hl 0 rfl) ?_
          refine lv_bipush (v := nI 31) hx hb dX7_sum_104 (by decide) ?_
          refine lv_imul hx hb dX7_sum_106 ?_
          refine lv_aload_n hx hb dX7_sum_107 rfl (lv_at hl 2 rfl) ?_
          refine m_get hx hb hts inX7 hown hK hP (ci := 7) rfl (k := 0) (by decide) rfl 16 (by decide) (hts (.fieldLink RX7 55 "RollbackPairModel" "speed1" "[F") (by decide +kernel)) rfl dX7_sum_108 ?_
          refine lv_iload_n hx hb dX7_sum_111 rfl (lv_at hl 1 rfl) ?_
          refine m_fald hx hb hK hP (k := 15) (by decide) (f := (S.2.1 16)) rfl (i := 600 * q + f) (by omega) (by decide) dX7_sum_112 ?_
          refine lv_ldcf hx hb hown (hts (.constantFloat RX7 155 (1166016512)) (by decide +kernel)) dX7_sum_113 ?_
          refine lv_fmul hx hb dX7_sum_115 (fm_n hBf.2.2.2.1.1 Fc_4096) ?_
          refine lv_f2i hx hb dX7_sum_116 ?_
          refine lv_iadd hx hb dX7_sum_117 ?_
          refine lv_istore (lv' := [(4, .int ((((((((nI (17 * 31)) + (FP.f2i (FP.fmul ((S.2.1 13) (600 * q + f)) 1166016512))) * (nI 31)) + (FP.f2i (FP.fmul ((S.2.1 14) (600 * q + f)) 1166016512))) * (nI 31)) + (FP.f2i (FP.fmul ((S.2.1 15) (600 * q + f)) 1166016512))) * (nI 31)) + (FP.f2i (FP.fmul ((S.2.1 16) (600 * q + f)) 1166016512)))), (3, .int (nI (600 * q + f))), (0, .ref (ad 0)), (1, .int (nI q)), (2, .int (nI f))]) hx hb dX7_sum_118 hl (by decide) rfl (fun ls hl => ?_)
          refine lv_iload hx hb dX7_sum_120 (lv_at hl 0 rfl) ?_
          refine lv_bipush (v := nI 31) hx hb dX7_sum_122 (by decide) ?_
          refine lv_imul hx hb dX7_sum_124 ?_
          refine lv_aload_n hx hb dX7_sum_125 rfl (lv_at hl 2 rfl) ?_
          refine m_get hx hb hts inX7 hown hK hP (ci := 7) rfl (k := 0) (by decide) rfl 17 (by decide) (hts (.fieldLink RX7 58 "RollbackPairModel" "hits" "[I") (by decide +kernel)) rfl dX7_sum_126 ?_
          refine lv_iload_n hx hb dX7_sum_129 rfl (lv_at hl 1 rfl) ?_
          refine m_iald hx hb hK hP (k := 16) (by decide) (f := (S.1 17)) rfl (i := 600 * q + f) (by omega) (by decide) dX7_sum_130 ?_
          refine lv_iadd hx hb dX7_sum_131 ?_
          refine lv_istore (lv' := [(4, .int ((((((((((nI (17 * 31)) + (FP.f2i (FP.fmul ((S.2.1 13) (600 * q + f)) 1166016512))) * (nI 31)) + (FP.f2i (FP.fmul ((S.2.1 14) (600 * q + f)) 1166016512))) * (nI 31)) + (FP.f2i (FP.fmul ((S.2.1 15) (600 * q + f)) 1166016512))) * (nI 31)) + (FP.f2i (FP.fmul ((S.2.1 16) (600 * q + f)) 1166016512))) * (nI 31)) + ((S.1 17) (600 * q + f)))), (3, .int (nI (600 * q + f))), (0, .ref (ad 0)), (1, .int (nI q)), (2, .int (nI f))]) hx hb dX7_sum_132 hl (by decide) rfl (fun ls hl => ?_)
          refine lv_iload hx hb dX7_sum_134 (lv_at hl 0 rfl) ?_
          refine lv_bipush (v := nI 31) hx hb dX7_sum_136 (by decide) ?_
          refine lv_imul hx hb dX7_sum_138 ?_
          refine lv_aload_n hx hb dX7_sum_139 rfl (lv_at hl 2 rfl) ?_
          refine m_get hx hb hts inX7 hown hK hP (ci := 7) rfl (k := 0) (by decide) rfl 18 (by decide) (hts (.fieldLink RX7 61 "RollbackPairModel" "work" "[D") (by decide +kernel)) rfl dX7_sum_140 ?_
          refine lv_iload_n hx hb dX7_sum_143 rfl (lv_at hl 1 rfl) ?_
          refine m_dald hx hb hK hP (k := 17) (by decide) (f := S.2.2.2) rfl (i := 600 * q + f) (by omega) (by decide) dX7_sum_144 ?_
          refine lv_ldc2d hx hb hown (hts (.constantDouble RX7 156 (4634204016564240384)) (by decide +kernel)) dX7_sum_145 ?_
          refine lv_dmul hx hb dX7_sum_148 (dm_n hBf.2.2.2.2.1 Dc_64) ?_
          refine lv_d2i hx hb dX7_sum_149 ?_
          refine lv_iadd hx hb dX7_sum_150 ?_
          exact r_i hx hb hr hlocks hK hP hS dX7_sum_151 ⟨rfl, by unfold rSu; rw [if_pos ⟨two_in hq, nI_pos hf, by rw [tn_nI hf, hao]; exact c4, by rw [tn_nI hf, hao]; exact (in15 (by omega) hf).mp c5⟩, tn_nI (show q < 2 ^ 31 by omega), tn_nI hf]; rfl⟩
        · refine lv_iconst (v := nI 0) hx hb dX7_sum_34 (by decide) ?_
          exact r_i hx hb hr hlocks hK hP hS dX7_sum_35 ⟨rfl, by unfold rSu; rw [if_neg (fun z => by have h9 := z.2.2.2; rw [tn_nI hf, hao] at h9; exact c5 ((in15 (by omega) hf).mpr h9))]⟩
end
section
theorem wh_c (x : Int32) (n : Nat) (hn : n < 2 ^ 31) : (∃ j : Nat, j ≤ n ∧ x = nI j) ∨ x < 0 ∨ nI n < x := by
  by_cases h : x < 0
  · exact Or.inr (Or.inl h)
  · obtain ⟨j, hj, rfl⟩ := nI_of h
    by_cases h2 : j ≤ n
    · exact Or.inl ⟨j, h2, rfl⟩
    · exact Or.inr (Or.inr (nI_lt (by omega) hj))
theorem out_ne {x : Int32} {n : Nat} (hn : n < 2 ^ 31) (h : x < 0 ∨ nI n < x) : ∀ j : Nat, j ≤ n → x ≠ nI j := by
  intro j hj e
  subst e
  rcases h with h | h
  · exact nI_pos (by omega) h
  · exact nI_nlt hj (by omega) h
def abQ (S : SS) (q : Nat) (wh : Int32) : Int32 := if wh = nI 0 then S.1 2 q else if wh = nI 1 then (if ¬ 0 ≤ S.1 4 q ∧ ¬ S.1 2 q ≤ S.1 12 (2 * q + 1 - q) then S.1 12 (2 * q + 1 - q) else S.1 2 q) else if wh = nI 2 then S.1 3 q else if wh = nI 3 then S.1 4 q else if wh = nI 4 then S.1 19 q else if wh = nI 5 then S.1 5 q else -1
def rAb (S : SS) (pe wh : Int32) : Int32 := if two pe then abQ S (tn pe) wh else -1
theorem abQ_out {S : SS} {q : Nat} {wh : Int32} (h : wh < 0 ∨ nI 5 < wh) : abQ S q wh = -1 := by
  have hn := out_ne (by decide) h
  unfold abQ
  rw [if_neg (hn 0 (by decide)), if_neg (hn 1 (by decide)), if_neg (hn 2 (by decide)), if_neg (hn 3 (by decide)), if_neg (hn 4 (by decide)), if_neg (hn 5 (by decide))]
set_option maxHeartbeats 4000000 in
set_option maxRecDepth 100000 in
/-- about(pe, wh) -/
theorem c_about (l : Launch) (D : va_G) (cs : Nat → ClassId) (ad : Nat → Nat) (hJ : Inj ad 26) (d w : Int32) (S : SS) (np ns : UInt32) (pe wh : Int32) : CTi l yX7_about wsX7_about ({ frames := 1, cells := 0, slots := 0, locals := 20 }) D cs ad 26 (mm ad cs d w S np ns) [.ref (ad 0), .int pe, .int wh] (fun r M2 => M2 = (mm ad cs d w S np ns) ∧ r = rAb S pe wh) := by
  refine Met.ofW (cc := cX7_about) (maxL := 4) (ret := (some .int)) (by decide) rfl ?_
  intro p e s m args below meth c s₁ B hml hv
  obtain ⟨rfl, hP, hK⟩ := hv
  have hx := B.exec
  have hb := B.bytes
  have hr := B.returns
  have hts := atoms_spec (ws := wsX7_about) B.pre
  have hown : s.vm.findClass RX7 = some m.cls := findClass_of_methodNamed B.named
  have hlocks := B.notSynchronized
  have hS : va_S (Ad ad 26) s.heap s.heap [] := va_S.rf
  have hl := lv_entry ([.ref (ad 0), .int pe, .int wh]) (n := 4) (Nat.le_of_ble_eq_true rfl)
  rw [lg_entry_eq]
  generalize (lg_sl ([.ref (ad 0), .int pe, .int wh]) ++ List.replicate (4 - (lg_sl ([.ref (ad 0), .int pe, .int wh])).length) Slot.unset).toArray = ls at hl ⊢
  have hl : lv_has ls 4 [(0, .ref (ad 0)), (1, .int pe), (2, .int wh)] := hl
  have inX7 : ∀ w ∈ u_ws RX7 TX7 29, w ∈ wsX7_about := fun w h => List.mem_cons_of_mem _ (List.mem_append_right _ h)
  have hM0 := hP
  rcases wh_c wh 5 (by decide) with ⟨j, hj, rfl⟩ | ho
  · rcases (show j = 0 ∨ j = 1 ∨ j = 2 ∨ j = 3 ∨ j = 4 ∨ j = 5 by omega) with rfl | rfl | rfl | rfl | rfl | rfl
    · refine lv_iload_n hx hb dX7_about_0 rfl (lv_at hl 1 rfl) ?_
      refine k_Si (As := [.int pe]) (rest := []) ⟨hx, hb, hml, hown, hts⟩ hK hP hS Ad_le (c_isTwo l D cs ad 26 (mm ad cs d w S np ns) pe) (va_cwS 1 hts gX7_about_X7_isTwo rfl rfl rfl (by decide +kernel) ⟨Nat.le_of_ble_eq_true rfl, Nat.le_of_ble_eq_true rfl⟩) rfl rfl hl.1 (Nat.le_of_ble_eq_true rfl) dX7_about_1 ⟨Nat.le_of_ble_eq_true rfl, Nat.le_of_ble_eq_true rfl⟩ (fun r_1 M1 H locs hpo hP hS _ _ => ?_)
      obtain ⟨rfl, rfl⟩ := hpo
      refine lv_if_eq (tgt := 16) hx hb dX7_about_4 (by decide) (fun c1 => ?_) (fun c1 => ?_)
      · have hno := two_no c1
        refine lv_iconst (v := (-1)) hx hb dX7_about_16 (by decide) ?_
        exact r_i hx hb hr hlocks hK hP hS dX7_about_17 ⟨rfl, by unfold rAb; rw [if_neg hno]⟩
      · obtain ⟨q, hq, rfl⟩ := two_of c1
        refine lv_iload_n hx hb dX7_about_7 rfl (lv_at hl 2 rfl) ?_
        refine lv_if_lt (tgt := 16) hx hb dX7_about_8 (by decide) (fun c2 => absurd c2 (by decide)) (fun c2 => ?_)
        refine lv_iload_n hx hb dX7_about_11 rfl (lv_at hl 2 rfl) ?_
        refine lv_iconst (v := nI 5) hx hb dX7_about_12 (by decide) ?_
        refine n_cmp_le (tgt := 18) hx hb dX7_about_13 (by decide) (by omega) (by omega) (fun c_2 => ?_) (fun c_2 => absurd c_2 (by decide))
        refine lv_iload_n hx hb dX7_about_18 rfl (lv_at hl 2 rfl) ?_
        refine lv_iconst (v := nI 1) hx hb dX7_about_19 (by decide) ?_
        refine n_cmp_ne (tgt := 66) hx hb dX7_about_20 (by decide) (by omega) (by omega) (fun c_3 => ?_) (fun c_3 => absurd c_3 (by decide))
        refine lv_iload_n hx hb dX7_about_66 rfl (lv_at hl 2 rfl) ?_
        refine n_if_ne (tgt := 79) hx hb dX7_about_67 (by decide) (by omega) (fun c_4 => absurd c_4 (by decide)) (fun c_4 => ?_)
        refine lv_aload_n hx hb dX7_about_70 rfl (lv_at hl 0 rfl) ?_
        refine m_get hx hb hts inX7 hown hK hP (ci := 7) rfl (k := 0) (by decide) rfl 2 (by decide) (hts (.fieldLink RX7 7 "RollbackPairModel" "at" "[I") (by decide +kernel)) rfl dX7_about_71 ?_
        refine lv_iload_n hx hb dX7_about_74 rfl (lv_at hl 1 rfl) ?_
        refine m_iald hx hb hK hP (k := 1) (by decide) (f := (S.1 2)) rfl (i := q) (by omega) (by decide) dX7_about_75 ?_
        refine lv_goto (tgt := 127) hx hb dX7_about_76 (by decide) ?_
        exact r_i hx hb hr hlocks hK hP hS dX7_about_127 ⟨rfl, by unfold rAb; rw [if_pos (two_in hq), tn_nI (show q < 2 ^ 31 by omega)]; unfold abQ; rw [if_pos rfl]⟩
    · refine lv_iload_n hx hb dX7_about_0 rfl (lv_at hl 1 rfl) ?_
      refine k_Si (As := [.int pe]) (rest := []) ⟨hx, hb, hml, hown, hts⟩ hK hP hS Ad_le (c_isTwo l D cs ad 26 (mm ad cs d w S np ns) pe) (va_cwS 1 hts gX7_about_X7_isTwo rfl rfl rfl (by decide +kernel) ⟨Nat.le_of_ble_eq_true rfl, Nat.le_of_ble_eq_true rfl⟩) rfl rfl hl.1 (Nat.le_of_ble_eq_true rfl) dX7_about_1 ⟨Nat.le_of_ble_eq_true rfl, Nat.le_of_ble_eq_true rfl⟩ (fun r_1 M1 H locs hpo hP hS _ _ => ?_)
      obtain ⟨rfl, rfl⟩ := hpo
      refine lv_if_eq (tgt := 16) hx hb dX7_about_4 (by decide) (fun c1 => ?_) (fun c1 => ?_)
      · have hno := two_no c1
        refine lv_iconst (v := (-1)) hx hb dX7_about_16 (by decide) ?_
        exact r_i hx hb hr hlocks hK hP hS dX7_about_17 ⟨rfl, by unfold rAb; rw [if_neg hno]⟩
      · obtain ⟨q, hq, rfl⟩ := two_of c1
        refine lv_iload_n hx hb dX7_about_7 rfl (lv_at hl 2 rfl) ?_
        refine lv_if_lt (tgt := 16) hx hb dX7_about_8 (by decide) (fun c2 => absurd c2 (by decide)) (fun c2 => ?_)
        refine lv_iload_n hx hb dX7_about_11 rfl (lv_at hl 2 rfl) ?_
        refine lv_iconst (v := nI 5) hx hb dX7_about_12 (by decide) ?_
        refine n_cmp_le (tgt := 18) hx hb dX7_about_13 (by decide) (by omega) (by omega) (fun c_2 => ?_) (fun c_2 => absurd c_2 (by decide))
        refine lv_iload_n hx hb dX7_about_18 rfl (lv_at hl 2 rfl) ?_
        refine lv_iconst (v := nI 1) hx hb dX7_about_19 (by decide) ?_
        refine n_cmp_ne (tgt := 66) hx hb dX7_about_20 (by decide) (by omega) (by omega) (fun c_3 => absurd c_3 (by decide)) (fun c_3 => ?_)
        refine lv_aload_n hx hb dX7_about_23 rfl (lv_at hl 0 rfl) ?_
        refine m_get hx hb hts inX7 hown hK hP (ci := 7) rfl (k := 0) (by decide) rfl 12 (by decide) (hts (.fieldLink RX7 43 "RollbackPairModel" "known" "[I") (by decide +kernel)) rfl dX7_about_24 ?_
        refine lv_iconst (v := nI 2) hx hb dX7_about_27 (by decide) ?_
        refine lv_iload_n hx hb dX7_about_28 rfl (lv_at hl 1 rfl) ?_
        refine n_mul hx hb dX7_about_29 ?_
        refine lv_iconst (v := nI 1) hx hb dX7_about_30 (by decide) ?_
        refine n_add hx hb dX7_about_31 ?_
        refine lv_iload_n hx hb dX7_about_32 rfl (lv_at hl 1 rfl) ?_
        refine n_sub hx hb (by omega) dX7_about_33 ?_
        refine m_iald hx hb hK hP (k := 11) (by decide) (f := (S.1 12)) rfl (i := 2 * q + 1 - q) (by omega) (by decide) dX7_about_34 ?_
        refine lv_istore_n (lv' := [(3, .int ((S.1 12) (2 * q + 1 - q))), (0, .ref (ad 0)), (1, .int (nI q)), (2, .int (nI 1))]) hx hb dX7_about_35 rfl hl (by decide) rfl (fun ls hl => ?_)
        refine lv_aload_n hx hb dX7_about_36 rfl (lv_at hl 1 rfl) ?_
        refine m_get hx hb hts inX7 hown hK hP (ci := 7) rfl (k := 0) (by decide) rfl 4 (by decide) (hts (.fieldLink RX7 16 "RollbackPairModel" "cut" "[I") (by decide +kernel)) rfl dX7_about_37 ?_
        refine lv_iload_n hx hb dX7_about_40 rfl (lv_at hl 2 rfl) ?_
        refine m_iald hx hb hK hP (k := 3) (by decide) (f := (S.1 4)) rfl (i := q) (by omega) (by decide) dX7_about_41 ?_
        refine lv_if_ge (tgt := 59) hx hb dX7_about_42 (by decide) (fun c4 => ?_) (fun c4 => ?_)
        · refine lv_aload_n hx hb dX7_about_59 rfl (lv_at hl 1 rfl) ?_
          refine m_get hx hb hts inX7 hown hK hP (ci := 7) rfl (k := 0) (by decide) rfl 2 (by decide) (hts (.fieldLink RX7 7 "RollbackPairModel" "at" "[I") (by decide +kernel)) rfl dX7_about_60 ?_
          refine lv_iload_n hx hb dX7_about_63 rfl (lv_at hl 2 rfl) ?_
          refine m_iald hx hb hK hP (k := 1) (by decide) (f := (S.1 2)) rfl (i := q) (by omega) (by decide) dX7_about_64 ?_
          exact r_i hx hb hr hlocks hK hP hS dX7_about_65 ⟨rfl, by unfold rAb; rw [if_pos (two_in hq), tn_nI (show q < 2 ^ 31 by omega)]; unfold abQ; rw [if_neg (by decide), if_pos rfl]; rw [if_neg (fun z => z.1 c4)]⟩
        · refine lv_iload_n hx hb dX7_about_45 rfl (lv_at hl 0 rfl) ?_
          refine lv_aload_n hx hb dX7_about_46 rfl (lv_at hl 1 rfl) ?_
          refine m_get hx hb hts inX7 hown hK hP (ci := 7) rfl (k := 0) (by decide) rfl 2 (by decide) (hts (.fieldLink RX7 7 "RollbackPairModel" "at" "[I") (by decide +kernel)) rfl dX7_about_47 ?_
          refine lv_iload_n hx hb dX7_about_50 rfl (lv_at hl 2 rfl) ?_
          refine m_iald hx hb hK hP (k := 1) (by decide) (f := (S.1 2)) rfl (i := q) (by omega) (by decide) dX7_about_51 ?_
          refine lv_icmp_ge (tgt := 59) hx hb dX7_about_52 (by decide) (fun c5 => ?_) (fun c5 => ?_)
          · refine lv_aload_n hx hb dX7_about_59 rfl (lv_at hl 1 rfl) ?_
            refine m_get hx hb hts inX7 hown hK hP (ci := 7) rfl (k := 0) (by decide) rfl 2 (by decide) (hts (.fieldLink RX7 7 "RollbackPairModel" "at" "[I") (by decide +kernel)) rfl dX7_about_60 ?_
            refine lv_iload_n hx hb dX7_about_63 rfl (lv_at hl 2 rfl) ?_
            refine m_iald hx hb hK hP (k := 1) (by decide) (f := (S.1 2)) rfl (i := q) (by omega) (by decide) dX7_about_64 ?_
            exact r_i hx hb hr hlocks hK hP hS dX7_about_65 ⟨rfl, by unfold rAb; rw [if_pos (two_in hq), tn_nI (show q < 2 ^ 31 by omega)]; unfold abQ; rw [if_neg (by decide), if_pos rfl]; rw [if_neg (fun z => z.2 c5)]⟩
          · refine lv_iload_n hx hb dX7_about_55 rfl (lv_at hl 0 rfl) ?_
            refine lv_goto (tgt := 65) hx hb dX7_about_56 (by decide) ?_
            exact r_i hx hb hr hlocks hK hP hS dX7_about_65 ⟨rfl, by unfold rAb; rw [if_pos (two_in hq), tn_nI (show q < 2 ^ 31 by omega)]; unfold abQ; rw [if_neg (by decide), if_pos rfl]; rw [if_pos ⟨c4, c5⟩]⟩
    · refine lv_iload_n hx hb dX7_about_0 rfl (lv_at hl 1 rfl) ?_
      refine k_Si (As := [.int pe]) (rest := []) ⟨hx, hb, hml, hown, hts⟩ hK hP hS Ad_le (c_isTwo l D cs ad 26 (mm ad cs d w S np ns) pe) (va_cwS 1 hts gX7_about_X7_isTwo rfl rfl rfl (by decide +kernel) ⟨Nat.le_of_ble_eq_true rfl, Nat.le_of_ble_eq_true rfl⟩) rfl rfl hl.1 (Nat.le_of_ble_eq_true rfl) dX7_about_1 ⟨Nat.le_of_ble_eq_true rfl, Nat.le_of_ble_eq_true rfl⟩ (fun r_1 M1 H locs hpo hP hS _ _ => ?_)
      obtain ⟨rfl, rfl⟩ := hpo
      refine lv_if_eq (tgt := 16) hx hb dX7_about_4 (by decide) (fun c1 => ?_) (fun c1 => ?_)
      · have hno := two_no c1
        refine lv_iconst (v := (-1)) hx hb dX7_about_16 (by decide) ?_
        exact r_i hx hb hr hlocks hK hP hS dX7_about_17 ⟨rfl, by unfold rAb; rw [if_neg hno]⟩
      · obtain ⟨q, hq, rfl⟩ := two_of c1
        refine lv_iload_n hx hb dX7_about_7 rfl (lv_at hl 2 rfl) ?_
        refine lv_if_lt (tgt := 16) hx hb dX7_about_8 (by decide) (fun c2 => absurd c2 (by decide)) (fun c2 => ?_)
        refine lv_iload_n hx hb dX7_about_11 rfl (lv_at hl 2 rfl) ?_
        refine lv_iconst (v := nI 5) hx hb dX7_about_12 (by decide) ?_
        refine n_cmp_le (tgt := 18) hx hb dX7_about_13 (by decide) (by omega) (by omega) (fun c_2 => ?_) (fun c_2 => absurd c_2 (by decide))
        refine lv_iload_n hx hb dX7_about_18 rfl (lv_at hl 2 rfl) ?_
        refine lv_iconst (v := nI 1) hx hb dX7_about_19 (by decide) ?_
        refine n_cmp_ne (tgt := 66) hx hb dX7_about_20 (by decide) (by omega) (by omega) (fun c_3 => ?_) (fun c_3 => absurd c_3 (by decide))
        refine lv_iload_n hx hb dX7_about_66 rfl (lv_at hl 2 rfl) ?_
        refine n_if_ne (tgt := 79) hx hb dX7_about_67 (by decide) (by omega) (fun c_4 => ?_) (fun c_4 => absurd c_4 (by decide))
        refine lv_iload_n hx hb dX7_about_79 rfl (lv_at hl 2 rfl) ?_
        refine lv_iconst (v := nI 2) hx hb dX7_about_80 (by decide) ?_
        refine n_cmp_ne (tgt := 93) hx hb dX7_about_81 (by decide) (by omega) (by omega) (fun c_5 => absurd c_5 (by decide)) (fun c_5 => ?_)
        refine lv_aload_n hx hb dX7_about_84 rfl (lv_at hl 0 rfl) ?_
        refine m_get hx hb hts inX7 hown hK hP (ci := 7) rfl (k := 0) (by decide) rfl 3 (by decide) (hts (.fieldLink RX7 13 "RollbackPairModel" "stalls" "[I") (by decide +kernel)) rfl dX7_about_85 ?_
        refine lv_iload_n hx hb dX7_about_88 rfl (lv_at hl 1 rfl) ?_
        refine m_iald hx hb hK hP (k := 2) (by decide) (f := (S.1 3)) rfl (i := q) (by omega) (by decide) dX7_about_89 ?_
        refine lv_goto (tgt := 127) hx hb dX7_about_90 (by decide) ?_
        exact r_i hx hb hr hlocks hK hP hS dX7_about_127 ⟨rfl, by unfold rAb; rw [if_pos (two_in hq), tn_nI (show q < 2 ^ 31 by omega)]; unfold abQ; rw [if_neg (by decide), if_neg (by decide), if_pos rfl]⟩
    · refine lv_iload_n hx hb dX7_about_0 rfl (lv_at hl 1 rfl) ?_
      refine k_Si (As := [.int pe]) (rest := []) ⟨hx, hb, hml, hown, hts⟩ hK hP hS Ad_le (c_isTwo l D cs ad 26 (mm ad cs d w S np ns) pe) (va_cwS 1 hts gX7_about_X7_isTwo rfl rfl rfl (by decide +kernel) ⟨Nat.le_of_ble_eq_true rfl, Nat.le_of_ble_eq_true rfl⟩) rfl rfl hl.1 (Nat.le_of_ble_eq_true rfl) dX7_about_1 ⟨Nat.le_of_ble_eq_true rfl, Nat.le_of_ble_eq_true rfl⟩ (fun r_1 M1 H locs hpo hP hS _ _ => ?_)
      obtain ⟨rfl, rfl⟩ := hpo
      refine lv_if_eq (tgt := 16) hx hb dX7_about_4 (by decide) (fun c1 => ?_) (fun c1 => ?_)
      · have hno := two_no c1
        refine lv_iconst (v := (-1)) hx hb dX7_about_16 (by decide) ?_
        exact r_i hx hb hr hlocks hK hP hS dX7_about_17 ⟨rfl, by unfold rAb; rw [if_neg hno]⟩
      · obtain ⟨q, hq, rfl⟩ := two_of c1
        refine lv_iload_n hx hb dX7_about_7 rfl (lv_at hl 2 rfl) ?_
        refine lv_if_lt (tgt := 16) hx hb dX7_about_8 (by decide) (fun c2 => absurd c2 (by decide)) (fun c2 => ?_)
        refine lv_iload_n hx hb dX7_about_11 rfl (lv_at hl 2 rfl) ?_
        refine lv_iconst (v := nI 5) hx hb dX7_about_12 (by decide) ?_
        refine n_cmp_le (tgt := 18) hx hb dX7_about_13 (by decide) (by omega) (by omega) (fun c_2 => ?_) (fun c_2 => absurd c_2 (by decide))
        refine lv_iload_n hx hb dX7_about_18 rfl (lv_at hl 2 rfl) ?_
        refine lv_iconst (v := nI 1) hx hb dX7_about_19 (by decide) ?_
        refine n_cmp_ne (tgt := 66) hx hb dX7_about_20 (by decide) (by omega) (by omega) (fun c_3 => ?_) (fun c_3 => absurd c_3 (by decide))
        refine lv_iload_n hx hb dX7_about_66 rfl (lv_at hl 2 rfl) ?_
        refine n_if_ne (tgt := 79) hx hb dX7_about_67 (by decide) (by omega) (fun c_4 => ?_) (fun c_4 => absurd c_4 (by decide))
        refine lv_iload_n hx hb dX7_about_79 rfl (lv_at hl 2 rfl) ?_
        refine lv_iconst (v := nI 2) hx hb dX7_about_80 (by decide) ?_
        refine n_cmp_ne (tgt := 93) hx hb dX7_about_81 (by decide) (by omega) (by omega) (fun c_5 => ?_) (fun c_5 => absurd c_5 (by decide))
        refine lv_iload_n hx hb dX7_about_93 rfl (lv_at hl 2 rfl) ?_
        refine lv_iconst (v := nI 3) hx hb dX7_about_94 (by decide) ?_
        refine n_cmp_ne (tgt := 107) hx hb dX7_about_95 (by decide) (by omega) (by omega) (fun c_6 => absurd c_6 (by decide)) (fun c_6 => ?_)
        refine lv_aload_n hx hb dX7_about_98 rfl (lv_at hl 0 rfl) ?_
        refine m_get hx hb hts inX7 hown hK hP (ci := 7) rfl (k := 0) (by decide) rfl 4 (by decide) (hts (.fieldLink RX7 16 "RollbackPairModel" "cut" "[I") (by decide +kernel)) rfl dX7_about_99 ?_
        refine lv_iload_n hx hb dX7_about_102 rfl (lv_at hl 1 rfl) ?_
        refine m_iald hx hb hK hP (k := 3) (by decide) (f := (S.1 4)) rfl (i := q) (by omega) (by decide) dX7_about_103 ?_
        refine lv_goto (tgt := 127) hx hb dX7_about_104 (by decide) ?_
        exact r_i hx hb hr hlocks hK hP hS dX7_about_127 ⟨rfl, by unfold rAb; rw [if_pos (two_in hq), tn_nI (show q < 2 ^ 31 by omega)]; unfold abQ; rw [if_neg (by decide), if_neg (by decide), if_neg (by decide), if_pos rfl]⟩
    · refine lv_iload_n hx hb dX7_about_0 rfl (lv_at hl 1 rfl) ?_
      refine k_Si (As := [.int pe]) (rest := []) ⟨hx, hb, hml, hown, hts⟩ hK hP hS Ad_le (c_isTwo l D cs ad 26 (mm ad cs d w S np ns) pe) (va_cwS 1 hts gX7_about_X7_isTwo rfl rfl rfl (by decide +kernel) ⟨Nat.le_of_ble_eq_true rfl, Nat.le_of_ble_eq_true rfl⟩) rfl rfl hl.1 (Nat.le_of_ble_eq_true rfl) dX7_about_1 ⟨Nat.le_of_ble_eq_true rfl, Nat.le_of_ble_eq_true rfl⟩ (fun r_1 M1 H locs hpo hP hS _ _ => ?_)
      obtain ⟨rfl, rfl⟩ := hpo
      refine lv_if_eq (tgt := 16) hx hb dX7_about_4 (by decide) (fun c1 => ?_) (fun c1 => ?_)
      · have hno := two_no c1
        refine lv_iconst (v := (-1)) hx hb dX7_about_16 (by decide) ?_
        exact r_i hx hb hr hlocks hK hP hS dX7_about_17 ⟨rfl, by unfold rAb; rw [if_neg hno]⟩
      · obtain ⟨q, hq, rfl⟩ := two_of c1
        refine lv_iload_n hx hb dX7_about_7 rfl (lv_at hl 2 rfl) ?_
        refine lv_if_lt (tgt := 16) hx hb dX7_about_8 (by decide) (fun c2 => absurd c2 (by decide)) (fun c2 => ?_)
        refine lv_iload_n hx hb dX7_about_11 rfl (lv_at hl 2 rfl) ?_
        refine lv_iconst (v := nI 5) hx hb dX7_about_12 (by decide) ?_
        refine n_cmp_le (tgt := 18) hx hb dX7_about_13 (by decide) (by omega) (by omega) (fun c_2 => ?_) (fun c_2 => absurd c_2 (by decide))
        refine lv_iload_n hx hb dX7_about_18 rfl (lv_at hl 2 rfl) ?_
        refine lv_iconst (v := nI 1) hx hb dX7_about_19 (by decide) ?_
        refine n_cmp_ne (tgt := 66) hx hb dX7_about_20 (by decide) (by omega) (by omega) (fun c_3 => ?_) (fun c_3 => absurd c_3 (by decide))
        refine lv_iload_n hx hb dX7_about_66 rfl (lv_at hl 2 rfl) ?_
        refine n_if_ne (tgt := 79) hx hb dX7_about_67 (by decide) (by omega) (fun c_4 => ?_) (fun c_4 => absurd c_4 (by decide))
        refine lv_iload_n hx hb dX7_about_79 rfl (lv_at hl 2 rfl) ?_
        refine lv_iconst (v := nI 2) hx hb dX7_about_80 (by decide) ?_
        refine n_cmp_ne (tgt := 93) hx hb dX7_about_81 (by decide) (by omega) (by omega) (fun c_5 => ?_) (fun c_5 => absurd c_5 (by decide))
        refine lv_iload_n hx hb dX7_about_93 rfl (lv_at hl 2 rfl) ?_
        refine lv_iconst (v := nI 3) hx hb dX7_about_94 (by decide) ?_
        refine n_cmp_ne (tgt := 107) hx hb dX7_about_95 (by decide) (by omega) (by omega) (fun c_6 => ?_) (fun c_6 => absurd c_6 (by decide))
        refine lv_iload_n hx hb dX7_about_107 rfl (lv_at hl 2 rfl) ?_
        refine lv_iconst (v := nI 4) hx hb dX7_about_108 (by decide) ?_
        refine n_cmp_ne (tgt := 121) hx hb dX7_about_109 (by decide) (by omega) (by omega) (fun c_7 => absurd c_7 (by decide)) (fun c_7 => ?_)
        refine lv_aload_n hx hb dX7_about_112 rfl (lv_at hl 0 rfl) ?_
        refine m_get hx hb hts inX7 hown hK hP (ci := 7) rfl (k := 0) (by decide) rfl 19 (by decide) (hts (.fieldLink RX7 65 "RollbackPairModel" "rows" "[I") (by decide +kernel)) rfl dX7_about_113 ?_
        refine lv_iload_n hx hb dX7_about_116 rfl (lv_at hl 1 rfl) ?_
        refine m_iald hx hb hK hP (k := 18) (by decide) (f := (S.1 19)) rfl (i := q) (by omega) (by decide) dX7_about_117 ?_
        refine lv_goto (tgt := 127) hx hb dX7_about_118 (by decide) ?_
        exact r_i hx hb hr hlocks hK hP hS dX7_about_127 ⟨rfl, by unfold rAb; rw [if_pos (two_in hq), tn_nI (show q < 2 ^ 31 by omega)]; unfold abQ; rw [if_neg (by decide), if_neg (by decide), if_neg (by decide), if_neg (by decide), if_pos rfl]⟩
    · refine lv_iload_n hx hb dX7_about_0 rfl (lv_at hl 1 rfl) ?_
      refine k_Si (As := [.int pe]) (rest := []) ⟨hx, hb, hml, hown, hts⟩ hK hP hS Ad_le (c_isTwo l D cs ad 26 (mm ad cs d w S np ns) pe) (va_cwS 1 hts gX7_about_X7_isTwo rfl rfl rfl (by decide +kernel) ⟨Nat.le_of_ble_eq_true rfl, Nat.le_of_ble_eq_true rfl⟩) rfl rfl hl.1 (Nat.le_of_ble_eq_true rfl) dX7_about_1 ⟨Nat.le_of_ble_eq_true rfl, Nat.le_of_ble_eq_true rfl⟩ (fun r_1 M1 H locs hpo hP hS _ _ => ?_)
      obtain ⟨rfl, rfl⟩ := hpo
      refine lv_if_eq (tgt := 16) hx hb dX7_about_4 (by decide) (fun c1 => ?_) (fun c1 => ?_)
      · have hno := two_no c1
        refine lv_iconst (v := (-1)) hx hb dX7_about_16 (by decide) ?_
        exact r_i hx hb hr hlocks hK hP hS dX7_about_17 ⟨rfl, by unfold rAb; rw [if_neg hno]⟩
      · obtain ⟨q, hq, rfl⟩ := two_of c1
        refine lv_iload_n hx hb dX7_about_7 rfl (lv_at hl 2 rfl) ?_
        refine lv_if_lt (tgt := 16) hx hb dX7_about_8 (by decide) (fun c2 => absurd c2 (by decide)) (fun c2 => ?_)
        refine lv_iload_n hx hb dX7_about_11 rfl (lv_at hl 2 rfl) ?_
        refine lv_iconst (v := nI 5) hx hb dX7_about_12 (by decide) ?_
        refine n_cmp_le (tgt := 18) hx hb dX7_about_13 (by decide) (by omega) (by omega) (fun c_2 => ?_) (fun c_2 => absurd c_2 (by decide))
        refine lv_iload_n hx hb dX7_about_18 rfl (lv_at hl 2 rfl) ?_
        refine lv_iconst (v := nI 1) hx hb dX7_about_19 (by decide) ?_
        refine n_cmp_ne (tgt := 66) hx hb dX7_about_20 (by decide) (by omega) (by omega) (fun c_3 => ?_) (fun c_3 => absurd c_3 (by decide))
        refine lv_iload_n hx hb dX7_about_66 rfl (lv_at hl 2 rfl) ?_
        refine n_if_ne (tgt := 79) hx hb dX7_about_67 (by decide) (by omega) (fun c_4 => ?_) (fun c_4 => absurd c_4 (by decide))
        refine lv_iload_n hx hb dX7_about_79 rfl (lv_at hl 2 rfl) ?_
        refine lv_iconst (v := nI 2) hx hb dX7_about_80 (by decide) ?_
        refine n_cmp_ne (tgt := 93) hx hb dX7_about_81 (by decide) (by omega) (by omega) (fun c_5 => ?_) (fun c_5 => absurd c_5 (by decide))
        refine lv_iload_n hx hb dX7_about_93 rfl (lv_at hl 2 rfl) ?_
        refine lv_iconst (v := nI 3) hx hb dX7_about_94 (by decide) ?_
        refine n_cmp_ne (tgt := 107) hx hb dX7_about_95 (by decide) (by omega) (by omega) (fun c_6 => ?_) (fun c_6 => absurd c_6 (by decide))
        refine lv_iload_n hx hb dX7_about_107 rfl (lv_at hl 2 rfl) ?_
        refine lv_iconst (v := nI 4) hx hb dX7_about_108 (by decide) ?_
        refine n_cmp_ne (tgt := 121) hx hb dX7_about_109 (by decide) (by omega) (by omega) (fun c_7 => ?_) (fun c_7 => absurd c_7 (by decide))
        refine lv_aload_n hx hb dX7_about_121 rfl (lv_at hl 0 rfl) ?_
        refine m_get hx hb hts inX7 hown hK hP (ci := 7) rfl (k := 0) (by decide) rfl 5 (by decide) (hts (.fieldLink RX7 19 "RollbackPairModel" "told" "[I") (by decide +kernel)) rfl dX7_about_122 ?_
        refine lv_iload_n hx hb dX7_about_125 rfl (lv_at hl 1 rfl) ?_
        refine m_iald hx hb hK hP (k := 4) (by decide) (f := (S.1 5)) rfl (i := q) (by omega) (by decide) dX7_about_126 ?_
        exact r_i hx hb hr hlocks hK hP hS dX7_about_127 ⟨rfl, by unfold rAb; rw [if_pos (two_in hq), tn_nI (show q < 2 ^ 31 by omega)]; unfold abQ; rw [if_neg (by decide), if_neg (by decide), if_neg (by decide), if_neg (by decide), if_neg (by decide), if_pos rfl]⟩
  · refine lv_iload_n hx hb dX7_about_0 rfl (lv_at hl 1 rfl) ?_
    refine k_Si (As := [.int pe]) (rest := []) ⟨hx, hb, hml, hown, hts⟩ hK hP hS Ad_le (c_isTwo l D cs ad 26 (mm ad cs d w S np ns) pe) (va_cwS 1 hts gX7_about_X7_isTwo rfl rfl rfl (by decide +kernel) ⟨Nat.le_of_ble_eq_true rfl, Nat.le_of_ble_eq_true rfl⟩) rfl rfl hl.1 (Nat.le_of_ble_eq_true rfl) dX7_about_1 ⟨Nat.le_of_ble_eq_true rfl, Nat.le_of_ble_eq_true rfl⟩ (fun r_1 M1 H locs hpo hP hS _ _ => ?_)
    obtain ⟨rfl, rfl⟩ := hpo
    refine lv_if_eq (tgt := 16) hx hb dX7_about_4 (by decide) (fun c1 => ?_) (fun c1 => ?_)
    · have hno := two_no c1
      refine lv_iconst (v := (-1)) hx hb dX7_about_16 (by decide) ?_
      exact r_i hx hb hr hlocks hK hP hS dX7_about_17 ⟨rfl, by unfold rAb; rw [if_neg hno]⟩
    · obtain ⟨q, hq, rfl⟩ := two_of c1
      refine lv_iload_n hx hb dX7_about_7 rfl (lv_at hl 2 rfl) ?_
      refine lv_if_lt (tgt := 16) hx hb dX7_about_8 (by decide) (fun c2 => ?_) (fun c2 => ?_)
      · refine lv_iconst (v := (-1)) hx hb dX7_about_16 (by decide) ?_
        exact r_i hx hb hr hlocks hK hP hS dX7_about_17 ⟨rfl, by unfold rAb; rw [if_pos (two_in hq), abQ_out ho]⟩
      · refine lv_iload_n hx hb dX7_about_11 rfl (lv_at hl 2 rfl) ?_
        refine lv_iconst (v := nI 5) hx hb dX7_about_12 (by decide) ?_
        refine lv_icmp_le (tgt := 18) hx hb dX7_about_13 (by decide) (fun c3 => ?_) (fun c3 => ?_)
        · exact absurd ho (fun z => z.elim c2 (fun z => Int32.not_lt.mpr c3 z))
        · refine lv_iconst (v := (-1)) hx hb dX7_about_16 (by decide) ?_
          exact r_i hx hb hr hlocks hK hP hS dX7_about_17 ⟨rfl, by unfold rAb; rw [if_pos (two_in hq), abQ_out ho]⟩
def mDbl (S : SS) (q : Nat) : SS := sI (mCopy S (12 * q) (12 * q + tn (S.1 19 q))) 19 (upd (S.1 19) q (nI (tn (S.1 19 q) + 1)))
def mEnd (S : SS) (q : Nat) : SS := sI (mCopy (mTake S q) 24 (12 * q + (tn (S.1 19 q) - 1))) 19 (upd ((mTake S q).1 19) q (nI (tn (S.1 19 q) - 1 + 1)))
theorem mTake_19 (S : SS) (q : Nat) : (mTake S q).1 19 = upd (S.1 19) q (nI (tn (S.1 19 q) - 1)) := by
  unfold mTake
  rw [mShift_k _ _ _ 19 (by omega)]
  rfl
def mAl (S : SS) (q how : Nat) : SS := if how = 1 then mDbl S q else if how = 2 then mEnd S q else mTake S q
abbrev noAl (S : SS) (pe how : Int32) : Prop := ¬ two pe ∨ how < 0 ∨ nI 2 < how ∨ S.1 19 (tn pe) = 0 ∨ (how = nI 1 ∧ S.1 19 (tn pe) = nI 12)
/-- the part's number j of the packet in the place k is spoilt -/
def mSpl (S : SS) (k j : Nat) (bits : Int32) : SS :=
  sI (sB (sI (sI (sI (sI (sI S 20 (upd (S.1 20) k (if j = 0 then (S.1 20 k ^^^ bits).toInt16.toInt32 else S.1 20 k))) 21 (upd (S.1 21) k (if j = 1 then S.1 21 k ^^^ bits else S.1 21 k))) 22 (upd (S.1 22) k (if j = 2 then S.1 22 k ^^^ bits else S.1 22 k))) 23 (upd (S.1 23) k (if j = 3 then S.1 23 k ^^^ bits else S.1 23 k))) 24 (upd (S.1 24) k (if j = 4 then S.1 24 k ^^^ bits else S.1 24 k))) (vp_updL S.2.2.1 k (if j = 5 then S.2.2.1 k ^^^ (bits.toInt64 &&& (4294967295 : Int64)) else S.2.2.1 k))) 26 (upd (S.1 26) k (if j = 6 then S.1 26 k ^^^ bits else S.1 26 k))
abbrev noSl (S : SS) (pe part : Int32) : Prop := ¬ two pe ∨ part < 0 ∨ nI 6 < part ∨ S.1 19 (tn pe) = 0
set_option maxHeartbeats 4000000 in
set_option maxRecDepth 100000 in
/-- alter, refused -/
theorem c_alter_no (l : Launch) (D : va_G) (cs : Nat → ClassId) (ad : Nat → Nat) (hJ : Inj ad 26) (d w : Int32) (S : SS) (np ns : UInt32) (pe how : Int32) (hz : noAl S pe how) : CTi l yX7_alter wsX7_alter ({ frames := 1, cells := 0, slots := 0, locals := 20 }) D cs ad 26 (mm ad cs d w S np ns) [.ref (ad 0), .int pe, .int how] (fun r M2 => M2 = (mm ad cs d w S np ns) ∧ r = nI 0) := by
  refine Met.ofW (cc := cX7_alter) (maxL := 3) (ret := (some .boolean)) (by decide) rfl ?_
  intro p e s m args below meth c s₁ B hml hv
  obtain ⟨rfl, hP, hK⟩ := hv
  have hx := B.exec
  have hb := B.bytes
  have hr := B.returns
  have hts := atoms_spec (ws := wsX7_alter) B.pre
  have hown : s.vm.findClass RX7 = some m.cls := findClass_of_methodNamed B.named
  have hlocks := B.notSynchronized
  have hS : va_S (Ad ad 26) s.heap s.heap [] := va_S.rf
  have hl := lv_entry ([.ref (ad 0), .int pe, .int how]) (n := 3) (Nat.le_of_ble_eq_true rfl)
  rw [lg_entry_eq]
  generalize (lg_sl ([.ref (ad 0), .int pe, .int how]) ++ List.replicate (3 - (lg_sl ([.ref (ad 0), .int pe, .int how])).length) Slot.unset).toArray = ls at hl ⊢
  have hl : lv_has ls 3 [(0, .ref (ad 0)), (1, .int pe), (2, .int how)] := hl
  have inX7 : ∀ w ∈ u_ws RX7 TX7 29, w ∈ wsX7_alter := fun w h => List.mem_cons_of_mem _ (List.mem_append_right _ h)
  refine lv_iload_n hx hb dX7_alter_0 rfl (lv_at hl 1 rfl) ?_
  refine k_Si (As := [.int pe]) (rest := []) ⟨hx, hb, hml, hown, hts⟩ hK hP hS Ad_le (c_isTwo l D cs ad 26 (mm ad cs d w S np ns) pe) (va_cwS 1 hts gX7_alter_X7_isTwo rfl rfl rfl (by decide +kernel) ⟨Nat.le_of_ble_eq_true rfl, Nat.le_of_ble_eq_true rfl⟩) rfl rfl hl.1 (Nat.le_of_ble_eq_true rfl) dX7_alter_1 ⟨Nat.le_of_ble_eq_true rfl, Nat.le_of_ble_eq_true rfl⟩ (fun r_1 M1 H locs hpo hP hS _ _ => ?_)
  obtain ⟨rfl, rfl⟩ := hpo
  refine lv_if_eq (tgt := 41) hx hb dX7_alter_4 (by decide) (fun c1 => ?_) (fun c1 => ?_)
  · have hno := two_no c1
    refine lv_iconst (v := nI 0) hx hb dX7_alter_41 (by decide) ?_
    exact r_z hx hb hr hlocks hK hP hS dX7_alter_42 (by first | rfl | decide) ⟨rfl, rfl⟩
  · obtain ⟨q, hq, rfl⟩ := two_of c1
    refine lv_iload_n hx hb dX7_alter_7 rfl (lv_at hl 2 rfl) ?_
    refine lv_if_lt (tgt := 41) hx hb dX7_alter_8 (by decide) (fun c2 => ?_) (fun c2 => ?_)
    · refine lv_iconst (v := nI 0) hx hb dX7_alter_41 (by decide) ?_
      exact r_z hx hb hr hlocks hK hP hS dX7_alter_42 (by first | rfl | decide) ⟨rfl, rfl⟩
    · refine lv_iload_n hx hb dX7_alter_11 rfl (lv_at hl 2 rfl) ?_
      refine lv_iconst (v := nI 2) hx hb dX7_alter_12 (by decide) ?_
      refine lv_icmp_gt (tgt := 41) hx hb dX7_alter_13 (by decide) (fun c3 => ?_) (fun c3 => ?_)
      · refine lv_iconst (v := nI 0) hx hb dX7_alter_41 (by decide) ?_
        exact r_z hx hb hr hlocks hK hP hS dX7_alter_42 (by first | rfl | decide) ⟨rfl, rfl⟩
      · refine lv_aload_n hx hb dX7_alter_16 rfl (lv_at hl 0 rfl) ?_
        refine m_get hx hb hts inX7 hown hK hP (ci := 7) rfl (k := 0) (by decide) rfl 19 (by decide) (hts (.fieldLink RX7 65 "RollbackPairModel" "rows" "[I") (by decide +kernel)) rfl dX7_alter_17 ?_
        refine lv_iload_n hx hb dX7_alter_20 rfl (lv_at hl 1 rfl) ?_
        refine m_iald hx hb hK hP (k := 18) (by decide) (f := (S.1 19)) rfl (i := q) (by omega) (by decide) dX7_alter_21 ?_
        refine lv_if_eq (tgt := 41) hx hb dX7_alter_22 (by decide) (fun c4 => ?_) (fun c4 => ?_)
        · refine lv_iconst (v := nI 0) hx hb dX7_alter_41 (by decide) ?_
          exact r_z hx hb hr hlocks hK hP hS dX7_alter_42 (by first | rfl | decide) ⟨rfl, rfl⟩
        · refine lv_iload_n hx hb dX7_alter_25 rfl (lv_at hl 2 rfl) ?_
          refine lv_iconst (v := nI 1) hx hb dX7_alter_26 (by decide) ?_
          refine lv_icmp_ne (tgt := 43) hx hb dX7_alter_27 (by decide) (fun c5 => ?_) (fun c5 => ?_)
          · refine absurd hz (fun z => ?_)
            unfold noAl at z
            rw [tn_nI (show q < 2 ^ 31 by omega)] at z
            exact z.elim (fun z => z (two_in hq)) (fun z => z.elim c2 (fun z => z.elim c3 (fun z => z.elim c4 (fun z => c5 z.1))))
          · refine lv_aload_n hx hb dX7_alter_30 rfl (lv_at hl 0 rfl) ?_
            refine m_get hx hb hts inX7 hown hK hP (ci := 7) rfl (k := 0) (by decide) rfl 19 (by decide) (hts (.fieldLink RX7 65 "RollbackPairModel" "rows" "[I") (by decide +kernel)) rfl dX7_alter_31 ?_
            refine lv_iload_n hx hb dX7_alter_34 rfl (lv_at hl 1 rfl) ?_
            refine m_iald hx hb hK hP (k := 18) (by decide) (f := (S.1 19)) rfl (i := q) (by omega) (by decide) dX7_alter_35 ?_
            refine lv_bipush (v := nI 12) hx hb dX7_alter_36 (by decide) ?_
            refine lv_icmp_ne (tgt := 43) hx hb dX7_alter_38 (by decide) (fun c6 => ?_) (fun c6 => ?_)
            · refine absurd hz (fun z => ?_)
              unfold noAl at z
              rw [tn_nI (show q < 2 ^ 31 by omega)] at z
              exact z.elim (fun z => z (two_in hq)) (fun z => z.elim c2 (fun z => z.elim c3 (fun z => z.elim c4 (fun z => c6 z.2))))
            · refine lv_iconst (v := nI 0) hx hb dX7_alter_41 (by decide) ?_
              exact r_z hx hb hr hlocks hK hP hS dX7_alter_42 (by first | rfl | decide) ⟨rfl, rfl⟩
set_option maxHeartbeats 4000000 in
set_option maxRecDepth 100000 in
/-- alter(q, how) -/
theorem c_alter (l : Launch) (D : va_G) (cs : Nat → ClassId) (ad : Nat → Nat) (hJ : Inj ad 26) (d w : Int32) (S : SS) (np ns : UInt32) (q r how : Nat) (hq : q < 2) (hh : how ≤ 2) (hr0 : S.1 19 q = nI r) (hr1 : 1 ≤ r) (hr2 : r ≤ 12) (hr3 : how = 1 → r ≠ 12) (hsh : ∀ i, sh (S.1 20 i)) : CTi l yX7_alter wsX7_alter ({ frames := 2, cells := 0, slots := 0, locals := 44 }) D cs ad 26 (mm ad cs d w S np ns) [.ref (ad 0), .int (nI q), .int (nI how)] (fun r M2 => r = nI 1 ∧ M2 = mm ad cs d w (mAl S q how) np ns) := by
  refine Met.ofW (cc := cX7_alter) (maxL := 3) (ret := (some .boolean)) (by decide) rfl ?_
  intro p e s m args below meth c s₁ B hml hv
  obtain ⟨rfl, hP, hK⟩ := hv
  have hx := B.exec
  have hb := B.bytes
  have hr := B.returns
  have hts := atoms_spec (ws := wsX7_alter) B.pre
  have hown : s.vm.findClass RX7 = some m.cls := findClass_of_methodNamed B.named
  have hlocks := B.notSynchronized
  have hS : va_S (Ad ad 26) s.heap s.heap [] := va_S.rf
  have hl := lv_entry ([.ref (ad 0), .int (nI q), .int (nI how)]) (n := 3) (Nat.le_of_ble_eq_true rfl)
  rw [lg_entry_eq]
  generalize (lg_sl ([.ref (ad 0), .int (nI q), .int (nI how)]) ++ List.replicate (3 - (lg_sl ([.ref (ad 0), .int (nI q), .int (nI how)])).length) Slot.unset).toArray = ls at hl ⊢
  have hl : lv_has ls 3 [(0, .ref (ad 0)), (1, .int (nI q)), (2, .int (nI how))] := hl
  have inX7 : ∀ w ∈ u_ws RX7 TX7 29, w ∈ wsX7_alter := fun w h => List.mem_cons_of_mem _ (List.mem_append_right _ h)
  have hrt : tn (S.1 19 q) = r := by rw [hr0, tn_nI (by omega)]
  have g3 : (mTake S q).1 19 q = nI (r - 1) := by rw [mTake_19, hrt]; exact if_pos rfl
  rcases (show how = 0 ∨ how = 1 ∨ how = 2 by omega) with rfl | rfl | rfl
  · refine lv_iload_n hx hb dX7_alter_0 rfl (lv_at hl 1 rfl) ?_
    refine k_Si (As := [.int (nI q)]) (rest := []) ⟨hx, hb, hml, hown, hts⟩ hK hP hS Ad_le (c_isTwo l D cs ad 26 (mm ad cs d w S np ns) (nI q)) (va_cwS 1 hts gX7_alter_X7_isTwo rfl rfl rfl (by decide +kernel) ⟨Nat.le_of_ble_eq_true rfl, Nat.le_of_ble_eq_true rfl⟩) rfl rfl hl.1 (Nat.le_of_ble_eq_true rfl) dX7_alter_1 ⟨Nat.le_of_ble_eq_true rfl, Nat.le_of_ble_eq_true rfl⟩ (fun r_1 M1 H locs hpo hP hS _ _ => ?_)
    obtain ⟨rfl, rfl⟩ := hpo
    refine n_val (two_ok hq) ?_
    refine n_if_eq (tgt := 41) hx hb dX7_alter_4 (by decide) (by omega) (fun c_2 => absurd c_2 (by decide)) (fun c_2 => ?_)
    refine lv_iload_n hx hb dX7_alter_7 rfl (lv_at hl 2 rfl) ?_
    refine lv_if_lt (tgt := 41) hx hb dX7_alter_8 (by decide) (fun c2 => absurd c2 (by decide)) (fun c2 => ?_)
    refine lv_iload_n hx hb dX7_alter_11 rfl (lv_at hl 2 rfl) ?_
    refine lv_iconst (v := nI 2) hx hb dX7_alter_12 (by decide) ?_
    refine n_cmp_gt (tgt := 41) hx hb dX7_alter_13 (by decide) (by omega) (by omega) (fun c_3 => absurd c_3 (by decide)) (fun c_3 => ?_)
    refine lv_aload_n hx hb dX7_alter_16 rfl (lv_at hl 0 rfl) ?_
    refine m_get hx hb hts inX7 hown hK hP (ci := 7) rfl (k := 0) (by decide) rfl 19 (by decide) (hts (.fieldLink RX7 65 "RollbackPairModel" "rows" "[I") (by decide +kernel)) rfl dX7_alter_17 ?_
    refine lv_iload_n hx hb dX7_alter_20 rfl (lv_at hl 1 rfl) ?_
    refine m_iald hx hb hK hP (k := 18) (by decide) (f := (S.1 19)) rfl (i := q) (by omega) (by decide) dX7_alter_21 ?_
    refine n_val hr0 ?_
    refine n_if_eq (tgt := 41) hx hb dX7_alter_22 (by decide) (by omega) (fun c4 => absurd c4 (by omega)) (fun c4 => ?_)
    refine lv_iload_n hx hb dX7_alter_25 rfl (lv_at hl 2 rfl) ?_
    refine lv_iconst (v := nI 1) hx hb dX7_alter_26 (by decide) ?_
    refine n_cmp_ne (tgt := 43) hx hb dX7_alter_27 (by decide) (by omega) (by omega) (fun c_4 => ?_) (fun c_4 => absurd c_4 (by decide))
    refine lv_iload_n hx hb dX7_alter_43 rfl (lv_at hl 2 rfl) ?_
    refine lv_iconst (v := nI 1) hx hb dX7_alter_44 (by decide) ?_
    refine n_cmp_ne (tgt := 79) hx hb dX7_alter_45 (by decide) (by omega) (by omega) (fun c_5 => ?_) (fun c_5 => absurd c_5 (by decide))
    refine lv_aload_n hx hb dX7_alter_79 rfl (lv_at hl 0 rfl) ?_
    refine lv_iload_n hx hb dX7_alter_80 rfl (lv_at hl 1 rfl) ?_
    refine k_Vv (As := [.int (nI q)]) (rest := []) (k := 0) (ci := 7) ⟨hx, hb, hml, hown, hts⟩ hK hP hS Ad_le (c_take l D cs ad hJ d w S np ns q r hq hr0 hr1 hr2 hsh) (cwV 1 hts gX7_alter_X7_take rfl rfl rfl (by decide +kernel) ⟨Nat.le_of_ble_eq_true rfl, Nat.le_of_ble_eq_true rfl⟩) (by decide) rfl rfl rfl rfl hl.1 (Nat.le_of_ble_eq_true rfl) dX7_alter_81 ⟨Nat.le_of_ble_eq_true rfl, Nat.le_of_ble_eq_true rfl⟩ (fun M1 H locs hpo hP hS _ _ => ?_)
    subst hpo
    refine lv_iload_n hx hb dX7_alter_84 rfl (lv_at hl 2 rfl) ?_
    refine lv_iconst (v := nI 2) hx hb dX7_alter_85 (by decide) ?_
    refine n_cmp_ne (tgt := 116) hx hb dX7_alter_86 (by decide) (by omega) (by omega) (fun c_7 => ?_) (fun c_7 => absurd c_7 (by decide))
    refine lv_iconst (v := nI 1) hx hb dX7_alter_116 (by decide) ?_
    exact r_z hx hb hr hlocks hK hP hS dX7_alter_117 (by first | rfl | decide) ⟨rfl, by show _ = mm ad cs d w (mTake S q) np ns; rfl⟩
  · refine lv_iload_n hx hb dX7_alter_0 rfl (lv_at hl 1 rfl) ?_
    refine k_Si (As := [.int (nI q)]) (rest := []) ⟨hx, hb, hml, hown, hts⟩ hK hP hS Ad_le (c_isTwo l D cs ad 26 (mm ad cs d w S np ns) (nI q)) (va_cwS 1 hts gX7_alter_X7_isTwo rfl rfl rfl (by decide +kernel) ⟨Nat.le_of_ble_eq_true rfl, Nat.le_of_ble_eq_true rfl⟩) rfl rfl hl.1 (Nat.le_of_ble_eq_true rfl) dX7_alter_1 ⟨Nat.le_of_ble_eq_true rfl, Nat.le_of_ble_eq_true rfl⟩ (fun r_1 M1 H locs hpo hP hS _ _ => ?_)
    obtain ⟨rfl, rfl⟩ := hpo
    refine n_val (two_ok hq) ?_
    refine n_if_eq (tgt := 41) hx hb dX7_alter_4 (by decide) (by omega) (fun c_2 => absurd c_2 (by decide)) (fun c_2 => ?_)
    refine lv_iload_n hx hb dX7_alter_7 rfl (lv_at hl 2 rfl) ?_
    refine lv_if_lt (tgt := 41) hx hb dX7_alter_8 (by decide) (fun c2 => absurd c2 (by decide)) (fun c2 => ?_)
    refine lv_iload_n hx hb dX7_alter_11 rfl (lv_at hl 2 rfl) ?_
    refine lv_iconst (v := nI 2) hx hb dX7_alter_12 (by decide) ?_
    refine n_cmp_gt (tgt := 41) hx hb dX7_alter_13 (by decide) (by omega) (by omega) (fun c_3 => absurd c_3 (by decide)) (fun c_3 => ?_)
    refine lv_aload_n hx hb dX7_alter_16 rfl (lv_at hl 0 rfl) ?_
    refine m_get hx hb hts inX7 hown hK hP (ci := 7) rfl (k := 0) (by decide) rfl 19 (by decide) (hts (.fieldLink RX7 65 "RollbackPairModel" "rows" "[I") (by decide +kernel)) rfl dX7_alter_17 ?_
    refine lv_iload_n hx hb dX7_alter_20 rfl (lv_at hl 1 rfl) ?_
    refine m_iald hx hb hK hP (k := 18) (by decide) (f := (S.1 19)) rfl (i := q) (by omega) (by decide) dX7_alter_21 ?_
    refine n_val hr0 ?_
    refine n_if_eq (tgt := 41) hx hb dX7_alter_22 (by decide) (by omega) (fun c4 => absurd c4 (by omega)) (fun c4 => ?_)
    refine lv_iload_n hx hb dX7_alter_25 rfl (lv_at hl 2 rfl) ?_
    refine lv_iconst (v := nI 1) hx hb dX7_alter_26 (by decide) ?_
    refine n_cmp_ne (tgt := 43) hx hb dX7_alter_27 (by decide) (by omega) (by omega) (fun c_4 => absurd c_4 (by decide)) (fun c_4 => ?_)
    refine lv_aload_n hx hb dX7_alter_30 rfl (lv_at hl 0 rfl) ?_
    refine m_get hx hb hts inX7 hown hK hP (ci := 7) rfl (k := 0) (by decide) rfl 19 (by decide) (hts (.fieldLink RX7 65 "RollbackPairModel" "rows" "[I") (by decide +kernel)) rfl dX7_alter_31 ?_
    refine lv_iload_n hx hb dX7_alter_34 rfl (lv_at hl 1 rfl) ?_
    refine m_iald hx hb hK hP (k := 18) (by decide) (f := (S.1 19)) rfl (i := q) (by omega) (by decide) dX7_alter_35 ?_
    refine n_val hr0 ?_
    refine lv_bipush (v := nI 12) hx hb dX7_alter_36 (by decide) ?_
    refine n_cmp_ne (tgt := 43) hx hb dX7_alter_38 (by decide) (by omega) (by omega) (fun c6 => ?_) (fun c6 => absurd c6 (hr3 rfl))
    refine lv_iload_n hx hb dX7_alter_43 rfl (lv_at hl 2 rfl) ?_
    refine lv_iconst (v := nI 1) hx hb dX7_alter_44 (by decide) ?_
    refine n_cmp_ne (tgt := 79) hx hb dX7_alter_45 (by decide) (by omega) (by omega) (fun c_5 => absurd c_5 (by decide)) (fun c_5 => ?_)
    refine lv_aload_n hx hb dX7_alter_48 rfl (lv_at hl 0 rfl) ?_
    refine lv_bipush (v := nI 12) hx hb dX7_alter_49 (by decide) ?_
    refine lv_iload_n hx hb dX7_alter_51 rfl (lv_at hl 1 rfl) ?_
    refine n_mul hx hb dX7_alter_52 ?_
    refine lv_bipush (v := nI 12) hx hb dX7_alter_53 (by decide) ?_
    refine lv_iload_n hx hb dX7_alter_55 rfl (lv_at hl 1 rfl) ?_
    refine n_mul hx hb dX7_alter_56 ?_
    refine lv_aload_n hx hb dX7_alter_57 rfl (lv_at hl 0 rfl) ?_
    refine m_get hx hb hts inX7 hown hK hP (ci := 7) rfl (k := 0) (by decide) rfl 19 (by decide) (hts (.fieldLink RX7 65 "RollbackPairModel" "rows" "[I") (by decide +kernel)) rfl dX7_alter_58 ?_
    refine lv_iload_n hx hb dX7_alter_61 rfl (lv_at hl 1 rfl) ?_
    refine m_iald hx hb hK hP (k := 18) (by decide) (f := (S.1 19)) rfl (i := q) (by omega) (by decide) dX7_alter_62 ?_
    refine n_val hr0 ?_
    refine n_add hx hb dX7_alter_63 ?_
    refine k_Vv (As := [.int (nI (12 * q)), .int (nI (12 * q + r))]) (rest := []) (k := 0) (ci := 7) ⟨hx, hb, hml, hown, hts⟩ hK hP hS Ad_le (c_copy l D cs ad hJ d w S np ns (12 * q) (12 * q + r) (by omega) (by omega) (hsh _)) (cwV 2 hts gX7_alter_X7_copy rfl rfl rfl (by decide +kernel) ⟨Nat.le_of_ble_eq_true rfl, Nat.le_of_ble_eq_true rfl⟩) (by decide) rfl rfl rfl rfl hl.1 (Nat.le_of_ble_eq_true rfl) dX7_alter_64 ⟨Nat.le_of_ble_eq_true rfl, Nat.le_of_ble_eq_true rfl⟩ (fun M1 H locs hpo hP hS _ _ => ?_)
    subst hpo
    refine lv_aload_n hx hb dX7_alter_67 rfl (lv_at hl 0 rfl) ?_
    refine m_get hx hb hts inX7 hown hK hP (ci := 7) rfl (k := 0) (by decide) rfl 19 (by decide) (hts (.fieldLink RX7 65 "RollbackPairModel" "rows" "[I") (by decide +kernel)) rfl dX7_alter_68 ?_
    refine lv_iload_n hx hb dX7_alter_71 rfl (lv_at hl 1 rfl) ?_
    refine lv_dup2_11 hx hb dX7_alter_72 rfl rfl ?_
    refine m_iald hx hb hK hP (k := 18) (by decide) (f := (S.1 19)) rfl (i := q) (by omega) (by decide) dX7_alter_73 ?_
    refine n_val hr0 ?_
    refine lv_iconst (v := nI 1) hx hb dX7_alter_74 (by decide) ?_
    refine n_add hx hb dX7_alter_75 ?_
    refine m_iast hx hb hK hP hJ hS (k := 18) (by decide) (f := (S.1 19)) rfl (i := q) (by omega) (by decide) dX7_alter_76 (fun H locs hP hS => ?_)
    rw [mm_up19] at hP
    refine lv_iconst (v := nI 1) hx hb dX7_alter_77 (by decide) ?_
    exact r_z hx hb hr hlocks hK hP hS dX7_alter_78 (by first | rfl | decide) ⟨rfl, by show _ = mm ad cs d w (mDbl S q) np ns; unfold mDbl; rw [hrt]⟩
  · refine lv_iload_n hx hb dX7_alter_0 rfl (lv_at hl 1 rfl) ?_
    refine k_Si (As := [.int (nI q)]) (rest := []) ⟨hx, hb, hml, hown, hts⟩ hK hP hS Ad_le (c_isTwo l D cs ad 26 (mm ad cs d w S np ns) (nI q)) (va_cwS 1 hts gX7_alter_X7_isTwo rfl rfl rfl (by decide +kernel) ⟨Nat.le_of_ble_eq_true rfl, Nat.le_of_ble_eq_true rfl⟩) rfl rfl hl.1 (Nat.le_of_ble_eq_true rfl) dX7_alter_1 ⟨Nat.le_of_ble_eq_true rfl, Nat.le_of_ble_eq_true rfl⟩ (fun r_1 M1 H locs hpo hP hS _ _ => ?_)
    obtain ⟨rfl, rfl⟩ := hpo
    refine n_val (two_ok hq) ?_
    refine n_if_eq (tgt := 41) hx hb dX7_alter_4 (by decide) (by omega) (fun c_2 => absurd c_2 (by decide)) (fun c_2 => ?_)
    refine lv_iload_n hx hb dX7_alter_7 rfl (lv_at hl 2 rfl) ?_
    refine lv_if_lt (tgt := 41) hx hb dX7_alter_8 (by decide) (fun c2 => absurd c2 (by decide)) (fun c2 => ?_)
    refine lv_iload_n hx hb dX7_alter_11 rfl (lv_at hl 2 rfl) ?_
    refine lv_iconst (v := nI 2) hx hb dX7_alter_12 (by decide) ?_
    refine n_cmp_gt (tgt := 41) hx hb dX7_alter_13 (by decide) (by omega) (by omega) (fun c_3 => absurd c_3 (by decide)) (fun c_3 => ?_)
    refine lv_aload_n hx hb dX7_alter_16 rfl (lv_at hl 0 rfl) ?_
    refine m_get hx hb hts inX7 hown hK hP (ci := 7) rfl (k := 0) (by decide) rfl 19 (by decide) (hts (.fieldLink RX7 65 "RollbackPairModel" "rows" "[I") (by decide +kernel)) rfl dX7_alter_17 ?_
    refine lv_iload_n hx hb dX7_alter_20 rfl (lv_at hl 1 rfl) ?_
    refine m_iald hx hb hK hP (k := 18) (by decide) (f := (S.1 19)) rfl (i := q) (by omega) (by decide) dX7_alter_21 ?_
    refine n_val hr0 ?_
    refine n_if_eq (tgt := 41) hx hb dX7_alter_22 (by decide) (by omega) (fun c4 => absurd c4 (by omega)) (fun c4 => ?_)
    refine lv_iload_n hx hb dX7_alter_25 rfl (lv_at hl 2 rfl) ?_
    refine lv_iconst (v := nI 1) hx hb dX7_alter_26 (by decide) ?_
    refine n_cmp_ne (tgt := 43) hx hb dX7_alter_27 (by decide) (by omega) (by omega) (fun c_4 => ?_) (fun c_4 => absurd c_4 (by decide))
    refine lv_iload_n hx hb dX7_alter_43 rfl (lv_at hl 2 rfl) ?_
    refine lv_iconst (v := nI 1) hx hb dX7_alter_44 (by decide) ?_
    refine n_cmp_ne (tgt := 79) hx hb dX7_alter_45 (by decide) (by omega) (by omega) (fun c_5 => ?_) (fun c_5 => absurd c_5 (by decide))
    refine lv_aload_n hx hb dX7_alter_79 rfl (lv_at hl 0 rfl) ?_
    refine lv_iload_n hx hb dX7_alter_80 rfl (lv_at hl 1 rfl) ?_
    refine k_Vv (As := [.int (nI q)]) (rest := []) (k := 0) (ci := 7) ⟨hx, hb, hml, hown, hts⟩ hK hP hS Ad_le (c_take l D cs ad hJ d w S np ns q r hq hr0 hr1 hr2 hsh) (cwV 1 hts gX7_alter_X7_take rfl rfl rfl (by decide +kernel) ⟨Nat.le_of_ble_eq_true rfl, Nat.le_of_ble_eq_true rfl⟩) (by decide) rfl rfl rfl rfl hl.1 (Nat.le_of_ble_eq_true rfl) dX7_alter_81 ⟨Nat.le_of_ble_eq_true rfl, Nat.le_of_ble_eq_true rfl⟩ (fun M1 H locs hpo hP hS _ _ => ?_)
    subst hpo
    refine lv_iload_n hx hb dX7_alter_84 rfl (lv_at hl 2 rfl) ?_
    refine lv_iconst (v := nI 2) hx hb dX7_alter_85 (by decide) ?_
    refine n_cmp_ne (tgt := 116) hx hb dX7_alter_86 (by decide) (by omega) (by omega) (fun c_7 => absurd c_7 (by decide)) (fun c_7 => ?_)
    refine lv_aload_n hx hb dX7_alter_89 rfl (lv_at hl 0 rfl) ?_
    refine lv_bipush (v := nI 24) hx hb dX7_alter_90 (by decide) ?_
    refine lv_bipush (v := nI 12) hx hb dX7_alter_92 (by decide) ?_
    refine lv_iload_n hx hb dX7_alter_94 rfl (lv_at hl 1 rfl) ?_
    refine n_mul hx hb dX7_alter_95 ?_
    refine lv_aload_n hx hb dX7_alter_96 rfl (lv_at hl 0 rfl) ?_
    refine m_get hx hb hts inX7 hown hK hP (ci := 7) rfl (k := 0) (by decide) rfl 19 (by decide) (hts (.fieldLink RX7 65 "RollbackPairModel" "rows" "[I") (by decide +kernel)) rfl dX7_alter_97 ?_
    refine lv_iload_n hx hb dX7_alter_100 rfl (lv_at hl 1 rfl) ?_
    refine m_iald hx hb hK hP (k := 18) (by decide) (f := ((mTake S q).1 19)) rfl (i := q) (by omega) (by decide) dX7_alter_101 ?_
    refine n_val g3 ?_
    refine n_add hx hb dX7_alter_102 ?_
    refine k_Vv (As := [.int (nI 24), .int (nI (12 * q + (r - 1)))]) (rest := []) (k := 0) (ci := 7) ⟨hx, hb, hml, hown, hts⟩ hK hP hS Ad_le (c_copy l D cs ad hJ d w (mTake S q) np ns 24 (12 * q + (r - 1)) (by omega) (by omega) (mTake_sh hsh _)) (cwV 2 hts gX7_alter_X7_copy rfl rfl rfl (by decide +kernel) ⟨Nat.le_of_ble_eq_true rfl, Nat.le_of_ble_eq_true rfl⟩) (by decide) rfl rfl rfl rfl hl.1 (Nat.le_of_ble_eq_true rfl) dX7_alter_103 ⟨Nat.le_of_ble_eq_true rfl, Nat.le_of_ble_eq_true rfl⟩ (fun M1 H locs hpo hP hS _ _ => ?_)
    subst hpo
    refine lv_aload_n hx hb dX7_alter_106 rfl (lv_at hl 0 rfl) ?_
    refine m_get hx hb hts inX7 hown hK hP (ci := 7) rfl (k := 0) (by decide) rfl 19 (by decide) (hts (.fieldLink RX7 65 "RollbackPairModel" "rows" "[I") (by decide +kernel)) rfl dX7_alter_107 ?_
    refine lv_iload_n hx hb dX7_alter_110 rfl (lv_at hl 1 rfl) ?_
    refine lv_dup2_11 hx hb dX7_alter_111 rfl rfl ?_
    refine m_iald hx hb hK hP (k := 18) (by decide) (f := ((mTake S q).1 19)) rfl (i := q) (by omega) (by decide) dX7_alter_112 ?_
    refine n_val g3 ?_
    refine lv_iconst (v := nI 1) hx hb dX7_alter_113 (by decide) ?_
    refine n_add hx hb dX7_alter_114 ?_
    refine m_iast hx hb hK hP hJ hS (k := 18) (by decide) (f := ((mTake S q).1 19)) rfl (i := q) (by omega) (by decide) dX7_alter_115 (fun H locs hP hS => ?_)
    rw [mm_up19] at hP
    refine lv_iconst (v := nI 1) hx hb dX7_alter_116 (by decide) ?_
    exact r_z hx hb hr hlocks hK hP hS dX7_alter_117 (by first | rfl | decide) ⟨rfl, by show _ = mm ad cs d w (mEnd S q) np ns; unfold mEnd; rw [hrt]⟩
set_option maxHeartbeats 4000000 in
set_option maxRecDepth 100000 in
/-- spoil, refused -/
theorem c_spoil_no (l : Launch) (D : va_G) (cs : Nat → ClassId) (ad : Nat → Nat) (hJ : Inj ad 26) (d w : Int32) (S : SS) (np ns : UInt32) (pe part bits : Int32) (hz : noSl S pe part) : CTi l yX7_spoil wsX7_spoil ({ frames := 1, cells := 0, slots := 0, locals := 20 }) D cs ad 26 (mm ad cs d w S np ns) [.ref (ad 0), .int pe, .int part, .int bits] (fun r M2 => M2 = (mm ad cs d w S np ns) ∧ r = nI 0) := by
  refine Met.ofW (cc := cX7_spoil) (maxL := 5) (ret := (some .boolean)) (by decide) rfl ?_
  intro p e s m args below meth c s₁ B hml hv
  obtain ⟨rfl, hP, hK⟩ := hv
  have hx := B.exec
  have hb := B.bytes
  have hr := B.returns
  have hts := atoms_spec (ws := wsX7_spoil) B.pre
  have hown : s.vm.findClass RX7 = some m.cls := findClass_of_methodNamed B.named
  have hlocks := B.notSynchronized
  have hS : va_S (Ad ad 26) s.heap s.heap [] := va_S.rf
  have hl := lv_entry ([.ref (ad 0), .int pe, .int part, .int bits]) (n := 5) (Nat.le_of_ble_eq_true rfl)
  rw [lg_entry_eq]
  generalize (lg_sl ([.ref (ad 0), .int pe, .int part, .int bits]) ++ List.replicate (5 - (lg_sl ([.ref (ad 0), .int pe, .int part, .int bits])).length) Slot.unset).toArray = ls at hl ⊢
  have hl : lv_has ls 5 [(0, .ref (ad 0)), (1, .int pe), (2, .int part), (3, .int bits)] := hl
  have inX7 : ∀ w ∈ u_ws RX7 TX7 29, w ∈ wsX7_spoil := fun w h => List.mem_cons_of_mem _ (List.mem_append_right _ h)
  refine lv_iload_n hx hb dX7_spoil_0 rfl (lv_at hl 1 rfl) ?_
  refine k_Si (As := [.int pe]) (rest := []) ⟨hx, hb, hml, hown, hts⟩ hK hP hS Ad_le (c_isTwo l D cs ad 26 (mm ad cs d w S np ns) pe) (va_cwS 1 hts gX7_spoil_X7_isTwo rfl rfl rfl (by decide +kernel) ⟨Nat.le_of_ble_eq_true rfl, Nat.le_of_ble_eq_true rfl⟩) rfl rfl hl.1 (Nat.le_of_ble_eq_true rfl) dX7_spoil_1 ⟨Nat.le_of_ble_eq_true rfl, Nat.le_of_ble_eq_true rfl⟩ (fun r_1 M1 H locs hpo hP hS _ _ => ?_)
  obtain ⟨rfl, rfl⟩ := hpo
  refine lv_if_eq (tgt := 26) hx hb dX7_spoil_4 (by decide) (fun c1 => ?_) (fun c1 => ?_)
  · have hno := two_no c1
    refine lv_iconst (v := nI 0) hx hb dX7_spoil_26 (by decide) ?_
    exact r_z hx hb hr hlocks hK hP hS dX7_spoil_27 (by first | rfl | decide) ⟨rfl, rfl⟩
  · obtain ⟨q, hq, rfl⟩ := two_of c1
    refine lv_iload_n hx hb dX7_spoil_7 rfl (lv_at hl 2 rfl) ?_
    refine lv_if_lt (tgt := 26) hx hb dX7_spoil_8 (by decide) (fun c2 => ?_) (fun c2 => ?_)
    · refine lv_iconst (v := nI 0) hx hb dX7_spoil_26 (by decide) ?_
      exact r_z hx hb hr hlocks hK hP hS dX7_spoil_27 (by first | rfl | decide) ⟨rfl, rfl⟩
    · refine lv_iload_n hx hb dX7_spoil_11 rfl (lv_at hl 2 rfl) ?_
      refine lv_bipush (v := nI 6) hx hb dX7_spoil_12 (by decide) ?_
      refine lv_icmp_gt (tgt := 26) hx hb dX7_spoil_14 (by decide) (fun c3 => ?_) (fun c3 => ?_)
      · refine lv_iconst (v := nI 0) hx hb dX7_spoil_26 (by decide) ?_
        exact r_z hx hb hr hlocks hK hP hS dX7_spoil_27 (by first | rfl | decide) ⟨rfl, rfl⟩
      · refine lv_aload_n hx hb dX7_spoil_17 rfl (lv_at hl 0 rfl) ?_
        refine m_get hx hb hts inX7 hown hK hP (ci := 7) rfl (k := 0) (by decide) rfl 19 (by decide) (hts (.fieldLink RX7 65 "RollbackPairModel" "rows" "[I") (by decide +kernel)) rfl dX7_spoil_18 ?_
        refine lv_iload_n hx hb dX7_spoil_21 rfl (lv_at hl 1 rfl) ?_
        refine m_iald hx hb hK hP (k := 18) (by decide) (f := (S.1 19)) rfl (i := q) (by omega) (by decide) dX7_spoil_22 ?_
        refine lv_if_ne (tgt := 28) hx hb dX7_spoil_23 (by decide) (fun c4 => ?_) (fun c4 => ?_)
        · refine absurd hz (fun z => ?_)
          unfold noSl at z
          rw [tn_nI (show q < 2 ^ 31 by omega)] at z
          exact z.elim (fun z => z (two_in hq)) (fun z => z.elim c2 (fun z => z.elim c3 c4))
        · refine lv_iconst (v := nI 0) hx hb dX7_spoil_26 (by decide) ?_
          exact r_z hx hb hr hlocks hK hP hS dX7_spoil_27 (by first | rfl | decide) ⟨rfl, rfl⟩
set_option maxHeartbeats 4000000 in
set_option maxRecDepth 100000 in
/-- spoil(q, j, bits) -/
theorem c_spoil (l : Launch) (D : va_G) (cs : Nat → ClassId) (ad : Nat → Nat) (hJ : Inj ad 26) (d w : Int32) (S : SS) (np ns : UInt32) (q r j : Nat) (bits : Int32) (hq : q < 2) (hj : j ≤ 6) (hr0 : S.1 19 q = nI r) (hr1 : 1 ≤ r) (hr2 : r ≤ 12) (hsh : ∀ i, sh (S.1 20 i)) : CTi l yX7_spoil wsX7_spoil ({ frames := 1, cells := 0, slots := 0, locals := 20 }) D cs ad 26 (mm ad cs d w S np ns) [.ref (ad 0), .int (nI q), .int (nI j), .int bits] (fun r M2 => r = nI 1 ∧ M2 = mm ad cs d w (mSpl S (12 * q) j bits) np ns) := by
  refine Met.ofW (cc := cX7_spoil) (maxL := 5) (ret := (some .boolean)) (by decide) rfl ?_
  intro p e s m args below meth c s₁ B hml hv
  obtain ⟨rfl, hP, hK⟩ := hv
  have hx := B.exec
  have hb := B.bytes
  have hr := B.returns
  have hts := atoms_spec (ws := wsX7_spoil) B.pre
  have hown : s.vm.findClass RX7 = some m.cls := findClass_of_methodNamed B.named
  have hlocks := B.notSynchronized
  have hS : va_S (Ad ad 26) s.heap s.heap [] := va_S.rf
  have hl := lv_entry ([.ref (ad 0), .int (nI q), .int (nI j), .int bits]) (n := 5) (Nat.le_of_ble_eq_true rfl)
  rw [lg_entry_eq]
  generalize (lg_sl ([.ref (ad 0), .int (nI q), .int (nI j), .int bits]) ++ List.replicate (5 - (lg_sl ([.ref (ad 0), .int (nI q), .int (nI j), .int bits])).length) Slot.unset).toArray = ls at hl ⊢
  have hl : lv_has ls 5 [(0, .ref (ad 0)), (1, .int (nI q)), (2, .int (nI j)), (3, .int bits)] := hl
  have inX7 : ∀ w ∈ u_ws RX7 TX7 29, w ∈ wsX7_spoil := fun w h => List.mem_cons_of_mem _ (List.mem_append_right _ h)
  rcases (show j = 0 ∨ j = 1 ∨ j = 2 ∨ j = 3 ∨ j = 4 ∨ j = 5 ∨ j = 6 by omega) with rfl | rfl | rfl | rfl | rfl | rfl | rfl
  · refine lv_iload_n hx hb dX7_spoil_0 rfl (lv_at hl 1 rfl) ?_
    refine k_Si (As := [.int (nI q)]) (rest := []) ⟨hx, hb, hml, hown, hts⟩ hK hP hS Ad_le (c_isTwo l D cs ad 26 (mm ad cs d w S np ns) (nI q)) (va_cwS 1 hts gX7_spoil_X7_isTwo rfl rfl rfl (by decide +kernel) ⟨Nat.le_of_ble_eq_true rfl, Nat.le_of_ble_eq_true rfl⟩) rfl rfl hl.1 (Nat.le_of_ble_eq_true rfl) dX7_spoil_1 ⟨Nat.le_of_ble_eq_true rfl, Nat.le_of_ble_eq_true rfl⟩ (fun r_1 M1 H locs hpo hP hS _ _ => ?_)
    obtain ⟨rfl, rfl⟩ := hpo
    refine n_val (two_ok hq) ?_
    refine n_if_eq (tgt := 26) hx hb dX7_spoil_4 (by decide) (by omega) (fun c_2 => absurd c_2 (by decide)) (fun c_2 => ?_)
    refine lv_iload_n hx hb dX7_spoil_7 rfl (lv_at hl 2 rfl) ?_
    refine lv_if_lt (tgt := 26) hx hb dX7_spoil_8 (by decide) (fun c2 => absurd c2 (by decide)) (fun c2 => ?_)
    refine lv_iload_n hx hb dX7_spoil_11 rfl (lv_at hl 2 rfl) ?_
    refine lv_bipush (v := nI 6) hx hb dX7_spoil_12 (by decide) ?_
    refine n_cmp_gt (tgt := 26) hx hb dX7_spoil_14 (by decide) (by omega) (by omega) (fun c_3 => absurd c_3 (by decide)) (fun c_3 => ?_)
    refine lv_aload_n hx hb dX7_spoil_17 rfl (lv_at hl 0 rfl) ?_
    refine m_get hx hb hts inX7 hown hK hP (ci := 7) rfl (k := 0) (by decide) rfl 19 (by decide) (hts (.fieldLink RX7 65 "RollbackPairModel" "rows" "[I") (by decide +kernel)) rfl dX7_spoil_18 ?_
    refine lv_iload_n hx hb dX7_spoil_21 rfl (lv_at hl 1 rfl) ?_
    refine m_iald hx hb hK hP (k := 18) (by decide) (f := (S.1 19)) rfl (i := q) (by omega) (by decide) dX7_spoil_22 ?_
    refine n_val hr0 ?_
    refine n_if_ne (tgt := 28) hx hb dX7_spoil_23 (by decide) (by omega) (fun c4 => ?_) (fun c4 => absurd c4 (by omega))
    refine lv_bipush (v := nI 12) hx hb dX7_spoil_28 (by decide) ?_
    refine lv_iload_n hx hb dX7_spoil_30 rfl (lv_at hl 1 rfl) ?_
    refine n_mul hx hb dX7_spoil_31 ?_
    refine lv_istore (lv' := [(4, .int (nI (12 * q))), (0, .ref (ad 0)), (1, .int (nI q)), (2, .int (nI 0)), (3, .int bits)]) hx hb dX7_spoil_32 hl (by decide) rfl (fun ls hl => ?_)
    refine lv_aload_n hx hb dX7_spoil_34 rfl (lv_at hl 1 rfl) ?_
    refine m_get hx hb hts inX7 hown hK hP (ci := 7) rfl (k := 0) (by decide) rfl 20 (by decide) (hts (.fieldLink RX7 68 "RollbackPairModel" "pNumber" "[S") (by decide +kernel)) rfl dX7_spoil_35 ?_
    refine lv_iload hx hb dX7_spoil_38 (lv_at hl 0 rfl) ?_
    refine lv_iload_n hx hb dX7_spoil_40 rfl (lv_at hl 3 rfl) ?_
    refine n_if_ne (tgt := 57) hx hb dX7_spoil_41 (by decide) (by omega) (fun c_4 => absurd c_4 (by decide)) (fun c_4 => ?_)
    refine lv_aload_n hx hb dX7_spoil_44 rfl (lv_at hl 1 rfl) ?_
    refine m_get hx hb hts inX7 hown hK hP (ci := 7) rfl (k := 0) (by decide) rfl 20 (by decide) (hts (.fieldLink RX7 68 "RollbackPairModel" "pNumber" "[S") (by decide +kernel)) rfl dX7_spoil_45 ?_
    refine lv_iload hx hb dX7_spoil_48 (lv_at hl 0 rfl) ?_
    refine m_sald hx hb hK hP (k := 19) (by decide) (f := (S.1 20)) rfl (i := 12 * q) (by omega) (by decide) dX7_spoil_50 ?_
    refine lv_iload_n hx hb dX7_spoil_51 rfl (lv_at hl 4 rfl) ?_
    refine lv_ixor hx hb dX7_spoil_52 ?_
    refine lv_i2s hx hb dX7_spoil_53 rfl ?_
    refine lv_goto (tgt := 64) hx hb dX7_spoil_54 (by decide) ?_
    refine m_sast hx hb hK hP hJ hS (k := 19) (by decide) (f := (S.1 20)) rfl (i := 12 * q) (y := (S.1 20 (12 * q) ^^^ bits).toInt16.toInt32) (by omega) (by decide) (pk_vs _) dX7_spoil_64 (fun H locs hP hS => ?_)
    rw [mm_up20] at hP
    refine lv_aload_n hx hb dX7_spoil_65 rfl (lv_at hl 1 rfl) ?_
    refine m_get hx hb hts inX7 hown hK hP (ci := 7) rfl (k := 0) (by decide) rfl 21 (by decide) (hts (.fieldLink RX7 71 "RollbackPairModel" "pFrame" "[I") (by decide +kernel)) rfl dX7_spoil_66 ?_
    refine lv_iload hx hb dX7_spoil_69 (lv_at hl 0 rfl) ?_
    refine lv_iload_n hx hb dX7_spoil_71 rfl (lv_at hl 3 rfl) ?_
    refine lv_iconst (v := nI 1) hx hb dX7_spoil_72 (by decide) ?_
    refine n_cmp_ne (tgt := 88) hx hb dX7_spoil_73 (by decide) (by omega) (by omega) (fun c_5 => ?_) (fun c_5 => absurd c_5 (by decide))
    refine lv_aload_n hx hb dX7_spoil_88 rfl (lv_at hl 1 rfl) ?_
    refine m_get hx hb hts inX7 hown hK hP (ci := 7) rfl (k := 0) (by decide) rfl 21 (by decide) (hts (.fieldLink RX7 71 "RollbackPairModel" "pFrame" "[I") (by decide +kernel)) rfl dX7_spoil_89 ?_
    refine lv_iload hx hb dX7_spoil_92 (lv_at hl 0 rfl) ?_
    refine m_iald hx hb hK hP (k := 20) (by decide) (f := (S.1 21)) rfl (i := 12 * q) (by omega) (by decide) dX7_spoil_94 ?_
    refine m_iast hx hb hK hP hJ hS (k := 20) (by decide) (f := (S.1 21)) rfl (i := 12 * q) (by omega) (by decide) dX7_spoil_95 (fun H locs hP hS => ?_)
    rw [mm_up21] at hP
    refine lv_aload_n hx hb dX7_spoil_96 rfl (lv_at hl 1 rfl) ?_
    refine m_get hx hb hts inX7 hown hK hP (ci := 7) rfl (k := 0) (by decide) rfl 22 (by decide) (hts (.fieldLink RX7 74 "RollbackPairModel" "pAck" "[I") (by decide +kernel)) rfl dX7_spoil_97 ?_
    refine lv_iload hx hb dX7_spoil_100 (lv_at hl 0 rfl) ?_
    refine lv_iload_n hx hb dX7_spoil_102 rfl (lv_at hl 3 rfl) ?_
    refine lv_iconst (v := nI 2) hx hb dX7_spoil_103 (by decide) ?_
    refine n_cmp_ne (tgt := 119) hx hb dX7_spoil_104 (by decide) (by omega) (by omega) (fun c_6 => ?_) (fun c_6 => absurd c_6 (by decide))
    refine lv_aload_n hx hb dX7_spoil_119 rfl (lv_at hl 1 rfl) ?_
    refine m_get hx hb hts inX7 hown hK hP (ci := 7) rfl (k := 0) (by decide) rfl 22 (by decide) (hts (.fieldLink RX7 74 "RollbackPairModel" "pAck" "[I") (by decide +kernel)) rfl dX7_spoil_120 ?_
    refine lv_iload hx hb dX7_spoil_123 (lv_at hl 0 rfl) ?_
    refine m_iald hx hb hK hP (k := 21) (by decide) (f := (S.1 22)) rfl (i := 12 * q) (by omega) (by decide) dX7_spoil_125 ?_
    refine m_iast hx hb hK hP hJ hS (k := 21) (by decide) (f := (S.1 22)) rfl (i := 12 * q) (by omega) (by decide) dX7_spoil_126 (fun H locs hP hS => ?_)
    rw [mm_up22] at hP
    refine lv_aload_n hx hb dX7_spoil_127 rfl (lv_at hl 1 rfl) ?_
    refine m_get hx hb hts inX7 hown hK hP (ci := 7) rfl (k := 0) (by decide) rfl 23 (by decide) (hts (.fieldLink RX7 77 "RollbackPairModel" "pFirst" "[I") (by decide +kernel)) rfl dX7_spoil_128 ?_
    refine lv_iload hx hb dX7_spoil_131 (lv_at hl 0 rfl) ?_
    refine lv_iload_n hx hb dX7_spoil_133 rfl (lv_at hl 3 rfl) ?_
    refine lv_iconst (v := nI 3) hx hb dX7_spoil_134 (by decide) ?_
    refine n_cmp_ne (tgt := 150) hx hb dX7_spoil_135 (by decide) (by omega) (by omega) (fun c_7 => ?_) (fun c_7 => absurd c_7 (by decide))
    refine lv_aload_n hx hb dX7_spoil_150 rfl (lv_at hl 1 rfl) ?_
    refine m_get hx hb hts inX7 hown hK hP (ci := 7) rfl (k := 0) (by decide) rfl 23 (by decide) (hts (.fieldLink RX7 77 "RollbackPairModel" "pFirst" "[I") (by decide +kernel)) rfl dX7_spoil_151 ?_
    refine lv_iload hx hb dX7_spoil_154 (lv_at hl 0 rfl) ?_
    refine m_iald hx hb hK hP (k := 22) (by decide) (f := (S.1 23)) rfl (i := 12 * q) (by omega) (by decide) dX7_spoil_156 ?_
    refine m_iast hx hb hK hP hJ hS (k := 22) (by decide) (f := (S.1 23)) rfl (i := 12 * q) (by omega) (by decide) dX7_spoil_157 (fun H locs hP hS => ?_)
    rw [mm_up23] at hP
    refine lv_aload_n hx hb dX7_spoil_158 rfl (lv_at hl 1 rfl) ?_
    refine m_get hx hb hts inX7 hown hK hP (ci := 7) rfl (k := 0) (by decide) rfl 24 (by decide) (hts (.fieldLink RX7 80 "RollbackPairModel" "pCount" "[I") (by decide +kernel)) rfl dX7_spoil_159 ?_
    refine lv_iload hx hb dX7_spoil_162 (lv_at hl 0 rfl) ?_
    refine lv_iload_n hx hb dX7_spoil_164 rfl (lv_at hl 3 rfl) ?_
    refine lv_iconst (v := nI 4) hx hb dX7_spoil_165 (by decide) ?_
    refine n_cmp_ne (tgt := 181) hx hb dX7_spoil_166 (by decide) (by omega) (by omega) (fun c_8 => ?_) (fun c_8 => absurd c_8 (by decide))
    refine lv_aload_n hx hb dX7_spoil_181 rfl (lv_at hl 1 rfl) ?_
    refine m_get hx hb hts inX7 hown hK hP (ci := 7) rfl (k := 0) (by decide) rfl 24 (by decide) (hts (.fieldLink RX7 80 "RollbackPairModel" "pCount" "[I") (by decide +kernel)) rfl dX7_spoil_182 ?_
    refine lv_iload hx hb dX7_spoil_185 (lv_at hl 0 rfl) ?_
    refine m_iald hx hb hK hP (k := 23) (by decide) (f := (S.1 24)) rfl (i := 12 * q) (by omega) (by decide) dX7_spoil_187 ?_
    refine m_iast hx hb hK hP hJ hS (k := 23) (by decide) (f := (S.1 24)) rfl (i := 12 * q) (by omega) (by decide) dX7_spoil_188 (fun H locs hP hS => ?_)
    rw [mm_up24] at hP
    refine lv_aload_n hx hb dX7_spoil_189 rfl (lv_at hl 1 rfl) ?_
    refine m_get hx hb hts inX7 hown hK hP (ci := 7) rfl (k := 0) (by decide) rfl 25 (by decide) (hts (.fieldLink RX7 83 "RollbackPairModel" "pBits" "[J") (by decide +kernel)) rfl dX7_spoil_190 ?_
    refine lv_iload hx hb dX7_spoil_193 (lv_at hl 0 rfl) ?_
    refine lv_iload_n hx hb dX7_spoil_195 rfl (lv_at hl 3 rfl) ?_
    refine lv_iconst (v := nI 5) hx hb dX7_spoil_196 (by decide) ?_
    refine n_cmp_ne (tgt := 217) hx hb dX7_spoil_197 (by decide) (by omega) (by omega) (fun c_9 => ?_) (fun c_9 => absurd c_9 (by decide))
    refine lv_aload_n hx hb dX7_spoil_217 rfl (lv_at hl 1 rfl) ?_
    refine m_get hx hb hts inX7 hown hK hP (ci := 7) rfl (k := 0) (by decide) rfl 25 (by decide) (hts (.fieldLink RX7 83 "RollbackPairModel" "pBits" "[J") (by decide +kernel)) rfl dX7_spoil_218 ?_
    refine lv_iload hx hb dX7_spoil_221 (lv_at hl 0 rfl) ?_
    refine m_lald hx hb hK hP (k := 24) (by decide) (f := S.2.2.1) rfl (i := 12 * q) (by omega) (by decide) dX7_spoil_223 ?_
    refine m_last hx hb hK hP hJ hS (k := 24) (by decide) (f := S.2.2.1) rfl (i := 12 * q) (by omega) (by decide) dX7_spoil_224 (fun H locs hP hS => ?_)
    rw [mm_up25] at hP
    refine lv_aload_n hx hb dX7_spoil_225 rfl (lv_at hl 1 rfl) ?_
    refine m_get hx hb hts inX7 hown hK hP (ci := 7) rfl (k := 0) (by decide) rfl 26 (by decide) (hts (.fieldLink RX7 87 "RollbackPairModel" "pCheck" "[I") (by decide +kernel)) rfl dX7_spoil_226 ?_
    refine lv_iload hx hb dX7_spoil_229 (lv_at hl 0 rfl) ?_
    refine lv_iload_n hx hb dX7_spoil_231 rfl (lv_at hl 3 rfl) ?_
    refine lv_bipush (v := nI 6) hx hb dX7_spoil_232 (by decide) ?_
    refine n_cmp_ne (tgt := 249) hx hb dX7_spoil_234 (by decide) (by omega) (by omega) (fun c_10 => ?_) (fun c_10 => absurd c_10 (by decide))
    refine lv_aload_n hx hb dX7_spoil_249 rfl (lv_at hl 1 rfl) ?_
    refine m_get hx hb hts inX7 hown hK hP (ci := 7) rfl (k := 0) (by decide) rfl 26 (by decide) (hts (.fieldLink RX7 87 "RollbackPairModel" "pCheck" "[I") (by decide +kernel)) rfl dX7_spoil_250 ?_
    refine lv_iload hx hb dX7_spoil_253 (lv_at hl 0 rfl) ?_
    refine m_iald hx hb hK hP (k := 25) (by decide) (f := (S.1 26)) rfl (i := 12 * q) (by omega) (by decide) dX7_spoil_255 ?_
    refine m_iast hx hb hK hP hJ hS (k := 25) (by decide) (f := (S.1 26)) rfl (i := 12 * q) (by omega) (by decide) dX7_spoil_256 (fun H locs hP hS => ?_)
    rw [mm_up26] at hP
    refine lv_iconst (v := nI 1) hx hb dX7_spoil_257 (by decide) ?_
    exact r_z hx hb hr hlocks hK hP hS dX7_spoil_258 (by first | rfl | decide) ⟨rfl, rfl⟩
  · refine lv_iload_n hx hb dX7_spoil_0 rfl (lv_at hl 1 rfl) ?_
    refine k_Si (As := [.int (nI q)]) (rest := []) ⟨hx, hb, hml, hown, hts⟩ hK hP hS Ad_le (c_isTwo l D cs ad 26 (mm ad cs d w S np ns) (nI q)) (va_cwS 1 hts gX7_spoil_X7_isTwo rfl rfl rfl (by decide +kernel) ⟨Nat.le_of_ble_eq_true rfl, Nat.le_of_ble_eq_true rfl⟩) rfl rfl hl.1 (Nat.le_of_ble_eq_true rfl) dX7_spoil_1 ⟨Nat.le_of_ble_eq_true rfl, Nat.le_of_ble_eq_true rfl⟩ (fun r_1 M1 H locs hpo hP hS _ _ => ?_)
    obtain ⟨rfl, rfl⟩ := hpo
    refine n_val (two_ok hq) ?_
    refine n_if_eq (tgt := 26) hx hb dX7_spoil_4 (by decide) (by omega) (fun c_2 => absurd c_2 (by decide)) (fun c_2 => ?_)
    refine lv_iload_n hx hb dX7_spoil_7 rfl (lv_at hl 2 rfl) ?_
    refine lv_if_lt (tgt := 26) hx hb dX7_spoil_8 (by decide) (fun c2 => absurd c2 (by decide)) (fun c2 => ?_)
    refine lv_iload_n hx hb dX7_spoil_11 rfl (lv_at hl 2 rfl) ?_
    refine lv_bipush (v := nI 6) hx hb dX7_spoil_12 (by decide) ?_
    refine n_cmp_gt (tgt := 26) hx hb dX7_spoil_14 (by decide) (by omega) (by omega) (fun c_3 => absurd c_3 (by decide)) (fun c_3 => ?_)
    refine lv_aload_n hx hb dX7_spoil_17 rfl (lv_at hl 0 rfl) ?_
    refine m_get hx hb hts inX7 hown hK hP (ci := 7) rfl (k := 0) (by decide) rfl 19 (by decide) (hts (.fieldLink RX7 65 "RollbackPairModel" "rows" "[I") (by decide +kernel)) rfl dX7_spoil_18 ?_
    refine lv_iload_n hx hb dX7_spoil_21 rfl (lv_at hl 1 rfl) ?_
    refine m_iald hx hb hK hP (k := 18) (by decide) (f := (S.1 19)) rfl (i := q) (by omega) (by decide) dX7_spoil_22 ?_
    refine n_val hr0 ?_
    refine n_if_ne (tgt := 28) hx hb dX7_spoil_23 (by decide) (by omega) (fun c4 => ?_) (fun c4 => absurd c4 (by omega))
    refine lv_bipush (v := nI 12) hx hb dX7_spoil_28 (by decide) ?_
    refine lv_iload_n hx hb dX7_spoil_30 rfl (lv_at hl 1 rfl) ?_
    refine n_mul hx hb dX7_spoil_31 ?_
    refine lv_istore (lv' := [(4, .int (nI (12 * q))), (0, .ref (ad 0)), (1, .int (nI q)), (2, .int (nI 1)), (3, .int bits)]) hx hb dX7_spoil_32 hl (by decide) rfl (fun ls hl => ?_)
    refine lv_aload_n hx hb dX7_spoil_34 rfl (lv_at hl 1 rfl) ?_
    refine m_get hx hb hts inX7 hown hK hP (ci := 7) rfl (k := 0) (by decide) rfl 20 (by decide) (hts (.fieldLink RX7 68 "RollbackPairModel" "pNumber" "[S") (by decide +kernel)) rfl dX7_spoil_35 ?_
    refine lv_iload hx hb dX7_spoil_38 (lv_at hl 0 rfl) ?_
    refine lv_iload_n hx hb dX7_spoil_40 rfl (lv_at hl 3 rfl) ?_
    refine n_if_ne (tgt := 57) hx hb dX7_spoil_41 (by decide) (by omega) (fun c_4 => ?_) (fun c_4 => absurd c_4 (by decide))
    refine lv_aload_n hx hb dX7_spoil_57 rfl (lv_at hl 1 rfl) ?_
    refine m_get hx hb hts inX7 hown hK hP (ci := 7) rfl (k := 0) (by decide) rfl 20 (by decide) (hts (.fieldLink RX7 68 "RollbackPairModel" "pNumber" "[S") (by decide +kernel)) rfl dX7_spoil_58 ?_
    refine lv_iload hx hb dX7_spoil_61 (lv_at hl 0 rfl) ?_
    refine m_sald hx hb hK hP (k := 19) (by decide) (f := (S.1 20)) rfl (i := 12 * q) (by omega) (by decide) dX7_spoil_63 ?_
    refine m_sast hx hb hK hP hJ hS (k := 19) (by decide) (f := (S.1 20)) rfl (i := 12 * q) (y := S.1 20 (12 * q)) (by omega) (by decide) (hsh _) dX7_spoil_64 (fun H locs hP hS => ?_)
    rw [mm_up20] at hP
    refine lv_aload_n hx hb dX7_spoil_65 rfl (lv_at hl 1 rfl) ?_
    refine m_get hx hb hts inX7 hown hK hP (ci := 7) rfl (k := 0) (by decide) rfl 21 (by decide) (hts (.fieldLink RX7 71 "RollbackPairModel" "pFrame" "[I") (by decide +kernel)) rfl dX7_spoil_66 ?_
    refine lv_iload hx hb dX7_spoil_69 (lv_at hl 0 rfl) ?_
    refine lv_iload_n hx hb dX7_spoil_71 rfl (lv_at hl 3 rfl) ?_
    refine lv_iconst (v := nI 1) hx hb dX7_spoil_72 (by decide) ?_
    refine n_cmp_ne (tgt := 88) hx hb dX7_spoil_73 (by decide) (by omega) (by omega) (fun c_5 => absurd c_5 (by decide)) (fun c_5 => ?_)
    refine lv_aload_n hx hb dX7_spoil_76 rfl (lv_at hl 1 rfl) ?_
    refine m_get hx hb hts inX7 hown hK hP (ci := 7) rfl (k := 0) (by decide) rfl 21 (by decide) (hts (.fieldLink RX7 71 "RollbackPairModel" "pFrame" "[I") (by decide +kernel)) rfl dX7_spoil_77 ?_
    refine lv_iload hx hb dX7_spoil_80 (lv_at hl 0 rfl) ?_
    refine m_iald hx hb hK hP (k := 20) (by decide) (f := (S.1 21)) rfl (i := 12 * q) (by omega) (by decide) dX7_spoil_82 ?_
    refine lv_iload_n hx hb dX7_spoil_83 rfl (lv_at hl 4 rfl) ?_
    refine lv_ixor hx hb dX7_spoil_84 ?_
    refine lv_goto (tgt := 95) hx hb dX7_spoil_85 (by decide) ?_
    refine m_iast hx hb hK hP hJ hS (k := 20) (by decide) (f := (S.1 21)) rfl (i := 12 * q) (by omega) (by decide) dX7_spoil_95 (fun H locs hP hS => ?_)
    rw [mm_up21] at hP
    refine lv_aload_n hx hb dX7_spoil_96 rfl (lv_at hl 1 rfl) ?_
    refine m_get hx hb hts inX7 hown hK hP (ci := 7) rfl (k := 0) (by decide) rfl 22 (by decide) (hts (.fieldLink RX7 74 "RollbackPairModel" "pAck" "[I") (by decide +kernel)) rfl dX7_spoil_97 ?_
    refine lv_iload hx hb dX7_spoil_100 (lv_at hl 0 rfl) ?_
    refine lv_iload_n hx hb dX7_spoil_102 rfl (lv_at hl 3 rfl) ?_
    refine lv_iconst (v := nI 2) hx hb dX7_spoil_103 (by decide) ?_
    refine n_cmp_ne (tgt := 119) hx hb dX7_spoil_104 (by decide) (by omega) (by omega) (fun c_6 => ?_) (fun c_6 => absurd c_6 (by decide))
    refine lv_aload_n hx hb dX7_spoil_119 rfl (lv_at hl 1 rfl) ?_
    refine m_get hx hb hts inX7 hown hK hP (ci := 7) rfl (k := 0) (by decide) rfl 22 (by decide) (hts (.fieldLink RX7 74 "RollbackPairModel" "pAck" "[I") (by decide +kernel)) rfl dX7_spoil_120 ?_
    refine lv_iload hx hb dX7_spoil_123 (lv_at hl 0 rfl) ?_
    refine m_iald hx hb hK hP (k := 21) (by decide) (f := (S.1 22)) rfl (i := 12 * q) (by omega) (by decide) dX7_spoil_125 ?_
    refine m_iast hx hb hK hP hJ hS (k := 21) (by decide) (f := (S.1 22)) rfl (i := 12 * q) (by omega) (by decide) dX7_spoil_126 (fun H locs hP hS => ?_)
    rw [mm_up22] at hP
    refine lv_aload_n hx hb dX7_spoil_127 rfl (lv_at hl 1 rfl) ?_
    refine m_get hx hb hts inX7 hown hK hP (ci := 7) rfl (k := 0) (by decide) rfl 23 (by decide) (hts (.fieldLink RX7 77 "RollbackPairModel" "pFirst" "[I") (by decide +kernel)) rfl dX7_spoil_128 ?_
    refine lv_iload hx hb dX7_spoil_131 (lv_at hl 0 rfl) ?_
    refine lv_iload_n hx hb dX7_spoil_133 rfl (lv_at hl 3 rfl) ?_
    refine lv_iconst (v := nI 3) hx hb dX7_spoil_134 (by decide) ?_
    refine n_cmp_ne (tgt := 150) hx hb dX7_spoil_135 (by decide) (by omega) (by omega) (fun c_7 => ?_) (fun c_7 => absurd c_7 (by decide))
    refine lv_aload_n hx hb dX7_spoil_150 rfl (lv_at hl 1 rfl) ?_
    refine m_get hx hb hts inX7 hown hK hP (ci := 7) rfl (k := 0) (by decide) rfl 23 (by decide) (hts (.fieldLink RX7 77 "RollbackPairModel" "pFirst" "[I") (by decide +kernel)) rfl dX7_spoil_151 ?_
    refine lv_iload hx hb dX7_spoil_154 (lv_at hl 0 rfl) ?_
    refine m_iald hx hb hK hP (k := 22) (by decide) (f := (S.1 23)) rfl (i := 12 * q) (by omega) (by decide) dX7_spoil_156 ?_
    refine m_iast hx hb hK hP hJ hS (k := 22) (by decide) (f := (S.1 23)) rfl (i := 12 * q) (by omega) (by decide) dX7_spoil_157 (fun H locs hP hS => ?_)
    rw [mm_up23] at hP
    refine lv_aload_n hx hb dX7_spoil_158 rfl (lv_at hl 1 rfl) ?_
    refine m_get hx hb hts inX7 hown hK hP (ci := 7) rfl (k := 0) (by decide) rfl 24 (by decide) (hts (.fieldLink RX7 80 "RollbackPairModel" "pCount" "[I") (by decide +kernel)) rfl dX7_spoil_159 ?_
    refine lv_iload hx hb dX7_spoil_162 (lv_at hl 0 rfl) ?_
    refine lv_iload_n hx hb dX7_spoil_164 rfl (lv_at hl 3 rfl) ?_
    refine lv_iconst (v := nI 4) hx hb dX7_spoil_165 (by decide) ?_
    refine n_cmp_ne (tgt := 181) hx hb dX7_spoil_166 (by decide) (by omega) (by omega) (fun c_8 => ?_) (fun c_8 => absurd c_8 (by decide))
    refine lv_aload_n hx hb dX7_spoil_181 rfl (lv_at hl 1 rfl) ?_
    refine m_get hx hb hts inX7 hown hK hP (ci := 7) rfl (k := 0) (by decide) rfl 24 (by decide) (hts (.fieldLink RX7 80 "RollbackPairModel" "pCount" "[I") (by decide +kernel)) rfl dX7_spoil_182 ?_
    refine lv_iload hx hb dX7_spoil_185 (lv_at hl 0 rfl) ?_
    refine m_iald hx hb hK hP (k := 23) (by decide) (f := (S.1 24)) rfl (i := 12 * q) (by omega) (by decide) dX7_spoil_187 ?_
    refine m_iast hx hb hK hP hJ hS (k := 23) (by decide) (f := (S.1 24)) rfl (i := 12 * q) (by omega) (by decide) dX7_spoil_188 (fun H locs hP hS => ?_)
    rw [mm_up24] at hP
    refine lv_aload_n hx hb dX7_spoil_189 rfl (lv_at hl 1 rfl) ?_
    refine m_get hx hb hts inX7 hown hK hP (ci := 7) rfl (k := 0) (by decide) rfl 25 (by decide) (hts (.fieldLink RX7 83 "RollbackPairModel" "pBits" "[J") (by decide +kernel)) rfl dX7_spoil_190 ?_
    refine lv_iload hx hb dX7_spoil_193 (lv_at hl 0 rfl) ?_
    refine lv_iload_n hx hb dX7_spoil_195 rfl (lv_at hl 3 rfl) ?_
    refine lv_iconst (v := nI 5) hx hb dX7_spoil_196 (by decide) ?_
    refine n_cmp_ne (tgt := 217) hx hb dX7_spoil_197 (by decide) (by omega) (by omega) (fun c_9 => ?_) (fun c_9 => absurd c_9 (by decide))
    refine lv_aload_n hx hb dX7_spoil_217 rfl (lv_at hl 1 rfl) ?_
    refine m_get hx hb hts inX7 hown hK hP (ci := 7) rfl (k := 0) (by decide) rfl 25 (by decide) (hts (.fieldLink RX7 83 "RollbackPairModel" "pBits" "[J") (by decide +kernel)) rfl dX7_spoil_218 ?_
    refine lv_iload hx hb dX7_spoil_221 (lv_at hl 0 rfl) ?_
    refine m_lald hx hb hK hP (k := 24) (by decide) (f := S.2.2.1) rfl (i := 12 * q) (by omega) (by decide) dX7_spoil_223 ?_
    refine m_last hx hb hK hP hJ hS (k := 24) (by decide) (f := S.2.2.1) rfl (i := 12 * q) (by omega) (by decide) dX7_spoil_224 (fun H locs hP hS => ?_)
    rw [mm_up25] at hP
    refine lv_aload_n hx hb dX7_spoil_225 rfl (lv_at hl 1 rfl) ?_
    refine m_get hx hb hts inX7 hown hK hP (ci := 7) rfl (k := 0) (by decide) rfl 26 (by decide) (hts (.fieldLink RX7 87 "RollbackPairModel" "pCheck" "[I") (by decide +kernel)) rfl dX7_spoil_226 ?_
    refine lv_iload hx hb dX7_spoil_229 (lv_at hl 0 rfl) ?_
    refine lv_iload_n hx hb dX7_spoil_231 rfl (lv_at hl 3 rfl) ?_
    refine lv_bipush (v := nI 6) hx hb dX7_spoil_232 (by decide) ?_
    refine n_cmp_ne (tgt := 249) hx hb dX7_spoil_234 (by decide) (by omega) (by omega) (fun c_10 => ?_) (fun c_10 => absurd c_10 (by decide))
    refine lv_aload_n hx hb dX7_spoil_249 rfl (lv_at hl 1 rfl) ?_
    refine m_get hx hb hts inX7 hown hK hP (ci := 7) rfl (k := 0) (by decide) rfl 26 (by decide) (hts (.fieldLink RX7 87 "RollbackPairModel" "pCheck" "[I") (by decide +kernel)) rfl dX7_spoil_250 ?_
    refine lv_iload hx hb dX7_spoil_253 (lv_at hl 0 rfl) ?_
    refine m_iald hx hb hK hP (k := 25) (by decide) (f := (S.1 26)) rfl (i := 12 * q) (by omega) (by decide) dX7_spoil_255 ?_
    refine m_iast hx hb hK hP hJ hS (k := 25) (by decide) (f := (S.1 26)) rfl (i := 12 * q) (by omega) (by decide) dX7_spoil_256 (fun H locs hP hS => ?_)
    rw [mm_up26] at hP
    refine lv_iconst (v := nI 1) hx hb dX7_spoil_257 (by decide) ?_
    exact r_z hx hb hr hlocks hK hP hS dX7_spoil_258 (by first | rfl | decide) ⟨rfl, rfl⟩
  · refine lv_iload_n hx hb dX7_spoil_0 rfl (lv_at hl 1 rfl) ?_
    refine k_Si (As := [.int (nI q)]) (rest := []) ⟨hx, hb, hml, hown, hts⟩ hK hP hS Ad_le (c_isTwo l D cs ad 26 (mm ad cs d w S np ns) (nI q)) (va_cwS 1 hts gX7_spoil_X7_isTwo rfl rfl rfl (by decide +kernel) ⟨Nat.le_of_ble_eq_true rfl, Nat.le_of_ble_eq_true rfl⟩) rfl rfl hl.1 (Nat.le_of_ble_eq_true rfl) dX7_spoil_1 ⟨Nat.le_of_ble_eq_true rfl, Nat.le_of_ble_eq_true rfl⟩ (fun r_1 M1 H locs hpo hP hS _ _ => ?_)
    obtain ⟨rfl, rfl⟩ := hpo
    refine n_val (two_ok hq) ?_
    refine n_if_eq (tgt := 26) hx hb dX7_spoil_4 (by decide) (by omega) (fun c_2 => absurd c_2 (by decide)) (fun c_2 => ?_)
    refine lv_iload_n hx hb dX7_spoil_7 rfl (lv_at hl 2 rfl) ?_
    refine lv_if_lt (tgt := 26) hx hb dX7_spoil_8 (by decide) (fun c2 => absurd c2 (by decide)) (fun c2 => ?_)
    refine lv_iload_n hx hb dX7_spoil_11 rfl (lv_at hl 2 rfl) ?_
    refine lv_bipush (v := nI 6) hx hb dX7_spoil_12 (by decide) ?_
    refine n_cmp_gt (tgt := 26) hx hb dX7_spoil_14 (by decide) (by omega) (by omega) (fun c_3 => absurd c_3 (by decide)) (fun c_3 => ?_)
    refine lv_aload_n hx hb dX7_spoil_17 rfl (lv_at hl 0 rfl) ?_
    refine m_get hx hb hts inX7 hown hK hP (ci := 7) rfl (k := 0) (by decide) rfl 19 (by decide) (hts (.fieldLink RX7 65 "RollbackPairModel" "rows" "[I") (by decide +kernel)) rfl dX7_spoil_18 ?_
    refine lv_iload_n hx hb dX7_spoil_21 rfl (lv_at hl 1 rfl) ?_
    refine m_iald hx hb hK hP (k := 18) (by decide) (f := (S.1 19)) rfl (i := q) (by omega) (by decide) dX7_spoil_22 ?_
    refine n_val hr0 ?_
    refine n_if_ne (tgt := 28) hx hb dX7_spoil_23 (by decide) (by omega) (fun c4 => ?_) (fun c4 => absurd c4 (by omega))
    refine lv_bipush (v := nI 12) hx hb dX7_spoil_28 (by decide) ?_
    refine lv_iload_n hx hb dX7_spoil_30 rfl (lv_at hl 1 rfl) ?_
    refine n_mul hx hb dX7_spoil_31 ?_
    refine lv_istore (lv' := [(4, .int (nI (12 * q))), (0, .ref (ad 0)), (1, .int (nI q)), (2, .int (nI 2)), (3, .int bits)]) hx hb dX7_spoil_32 hl (by decide) rfl (fun ls hl => ?_)
    refine lv_aload_n hx hb dX7_spoil_34 rfl (lv_at hl 1 rfl) ?_
    refine m_get hx hb hts inX7 hown hK hP (ci := 7) rfl (k := 0) (by decide) rfl 20 (by decide) (hts (.fieldLink RX7 68 "RollbackPairModel" "pNumber" "[S") (by decide +kernel)) rfl dX7_spoil_35 ?_
    refine lv_iload hx hb dX7_spoil_38 (lv_at hl 0 rfl) ?_
    refine lv_iload_n hx hb dX7_spoil_40 rfl (lv_at hl 3 rfl) ?_
    refine n_if_ne (tgt := 57) hx hb dX7_spoil_41 (by decide) (by omega) (fun c_4 => ?_) (fun c_4 => absurd c_4 (by decide))
    refine lv_aload_n hx hb dX7_spoil_57 rfl (lv_at hl 1 rfl) ?_
    refine m_get hx hb hts inX7 hown hK hP (ci := 7) rfl (k := 0) (by decide) rfl 20 (by decide) (hts (.fieldLink RX7 68 "RollbackPairModel" "pNumber" "[S") (by decide +kernel)) rfl dX7_spoil_58 ?_
    refine lv_iload hx hb dX7_spoil_61 (lv_at hl 0 rfl) ?_
    refine m_sald hx hb hK hP (k := 19) (by decide) (f := (S.1 20)) rfl (i := 12 * q) (by omega) (by decide) dX7_spoil_63 ?_
    refine m_sast hx hb hK hP hJ hS (k := 19) (by decide) (f := (S.1 20)) rfl (i := 12 * q) (y := S.1 20 (12 * q)) (by omega) (by decide) (hsh _) dX7_spoil_64 (fun H locs hP hS => ?_)
    rw [mm_up20] at hP
    refine lv_aload_n hx hb dX7_spoil_65 rfl (lv_at hl 1 rfl) ?_
    refine m_get hx hb hts inX7 hown hK hP (ci := 7) rfl (k := 0) (by decide) rfl 21 (by decide) (hts (.fieldLink RX7 71 "RollbackPairModel" "pFrame" "[I") (by decide +kernel)) rfl dX7_spoil_66 ?_
    refine lv_iload hx hb dX7_spoil_69 (lv_at hl 0 rfl) ?_
    refine lv_iload_n hx hb dX7_spoil_71 rfl (lv_at hl 3 rfl) ?_
    refine lv_iconst (v := nI 1) hx hb dX7_spoil_72 (by decide) ?_
    refine n_cmp_ne (tgt := 88) hx hb dX7_spoil_73 (by decide) (by omega) (by omega) (fun c_5 => ?_) (fun c_5 => absurd c_5 (by decide))
    refine lv_aload_n hx hb dX7_spoil_88 rfl (lv_at hl 1 rfl) ?_
    refine m_get hx hb hts inX7 hown hK hP (ci := 7) rfl (k := 0) (by decide) rfl 21 (by decide) (hts (.fieldLink RX7 71 "RollbackPairModel" "pFrame" "[I") (by decide +kernel)) rfl dX7_spoil_89 ?_
    refine lv_iload hx hb dX7_spoil_92 (lv_at hl 0 rfl) ?_
    refine m_iald hx hb hK hP (k := 20) (by decide) (f := (S.1 21)) rfl (i := 12 * q) (by omega) (by decide) dX7_spoil_94 ?_
    refine m_iast hx hb hK hP hJ hS (k := 20) (by decide) (f := (S.1 21)) rfl (i := 12 * q) (by omega) (by decide) dX7_spoil_95 (fun H locs hP hS => ?_)
    rw [mm_up21] at hP
    refine lv_aload_n hx hb dX7_spoil_96 rfl (lv_at hl 1 rfl) ?_
    refine m_get hx hb hts inX7 hown hK hP (ci := 7) rfl (k := 0) (by decide) rfl 22 (by decide) (hts (.fieldLink RX7 74 "RollbackPairModel" "pAck" "[I") (by decide +kernel)) rfl dX7_spoil_97 ?_
    refine lv_iload hx hb dX7_spoil_100 (lv_at hl 0 rfl) ?_
    refine lv_iload_n hx hb dX7_spoil_102 rfl (lv_at hl 3 rfl) ?_
    refine lv_iconst (v := nI 2) hx hb dX7_spoil_103 (by decide) ?_
    refine n_cmp_ne (tgt := 119) hx hb dX7_spoil_104 (by decide) (by omega) (by omega) (fun c_6 => absurd c_6 (by decide)) (fun c_6 => ?_)
    refine lv_aload_n hx hb dX7_spoil_107 rfl (lv_at hl 1 rfl) ?_
    refine m_get hx hb hts inX7 hown hK hP (ci := 7) rfl (k := 0) (by decide) rfl 22 (by decide) (hts (.fieldLink RX7 74 "RollbackPairModel" "pAck" "[I") (by decide +kernel)) rfl dX7_spoil_108 ?_
    refine lv_iload hx hb dX7_spoil_111 (lv_at hl 0 rfl) ?_
    refine m_iald hx hb hK hP (k := 21) (by decide) (f := (S.1 22)) rfl (i := 12 * q) (by omega) (by decide) dX7_spoil_113 ?_
    refine lv_iload_n hx hb dX7_spoil_114 rfl (lv_at hl 4 rfl) ?_
    refine lv_ixor hx hb dX7_spoil_115 ?_
    refine lv_goto (tgt := 126) hx hb dX7_spoil_116 (by decide) ?_
    refine m_iast hx hb hK hP hJ hS (k := 21) (by decide) (f := (S.1 22)) rfl (i := 12 * q) (by omega) (by decide) dX7_spoil_126 (fun H locs hP hS => ?_)
    rw [mm_up22] at hP
    refine lv_aload_n hx hb dX7_spoil_127 rfl (lv_at hl 1 rfl) ?_
    refine m_get hx hb hts inX7 hown hK hP (ci := 7) rfl (k := 0) (by decide) rfl 23 (by decide) (hts (.fieldLink RX7 77 "RollbackPairModel" "pFirst" "[I") (by decide +kernel)) rfl dX7_spoil_128 ?_
    refine lv_iload hx hb dX7_spoil_131 (lv_at hl 0 rfl) ?_
    refine lv_iload_n hx hb dX7_spoil_133 rfl (lv_at hl 3 rfl) ?_
    refine lv_iconst (v := nI 3) hx hb dX7_spoil_134 (by decide) ?_
    refine n_cmp_ne (tgt := 150) hx hb dX7_spoil_135 (by decide) (by omega) (by omega) (fun c_7 => ?_) (fun c_7 => absurd c_7 (by decide))
    refine lv_aload_n hx hb dX7_spoil_150 rfl (lv_at hl 1 rfl) ?_
    refine m_get hx hb hts inX7 hown hK hP (ci := 7) rfl (k := 0) (by decide) rfl 23 (by decide) (hts (.fieldLink RX7 77 "RollbackPairModel" "pFirst" "[I") (by decide +kernel)) rfl dX7_spoil_151 ?_
    refine lv_iload hx hb dX7_spoil_154 (lv_at hl 0 rfl) ?_
    refine m_iald hx hb hK hP (k := 22) (by decide) (f := (S.1 23)) rfl (i := 12 * q) (by omega) (by decide) dX7_spoil_156 ?_
    refine m_iast hx hb hK hP hJ hS (k := 22) (by decide) (f := (S.1 23)) rfl (i := 12 * q) (by omega) (by decide) dX7_spoil_157 (fun H locs hP hS => ?_)
    rw [mm_up23] at hP
    refine lv_aload_n hx hb dX7_spoil_158 rfl (lv_at hl 1 rfl) ?_
    refine m_get hx hb hts inX7 hown hK hP (ci := 7) rfl (k := 0) (by decide) rfl 24 (by decide) (hts (.fieldLink RX7 80 "RollbackPairModel" "pCount" "[I") (by decide +kernel)) rfl dX7_spoil_159 ?_
    refine lv_iload hx hb dX7_spoil_162 (lv_at hl 0 rfl) ?_
    refine lv_iload_n hx hb dX7_spoil_164 rfl (lv_at hl 3 rfl) ?_
    refine lv_iconst (v := nI 4) hx hb dX7_spoil_165 (by decide) ?_
    refine n_cmp_ne (tgt := 181) hx hb dX7_spoil_166 (by decide) (by omega) (by omega) (fun c_8 => ?_) (fun c_8 => absurd c_8 (by decide))
    refine lv_aload_n hx hb dX7_spoil_181 rfl (lv_at hl 1 rfl) ?_
    refine m_get hx hb hts inX7 hown hK hP (ci := 7) rfl (k := 0) (by decide) rfl 24 (by decide) (hts (.fieldLink RX7 80 "RollbackPairModel" "pCount" "[I") (by decide +kernel)) rfl dX7_spoil_182 ?_
    refine lv_iload hx hb dX7_spoil_185 (lv_at hl 0 rfl) ?_
    refine m_iald hx hb hK hP (k := 23) (by decide) (f := (S.1 24)) rfl (i := 12 * q) (by omega) (by decide) dX7_spoil_187 ?_
    refine m_iast hx hb hK hP hJ hS (k := 23) (by decide) (f := (S.1 24)) rfl (i := 12 * q) (by omega) (by decide) dX7_spoil_188 (fun H locs hP hS => ?_)
    rw [mm_up24] at hP
    refine lv_aload_n hx hb dX7_spoil_189 rfl (lv_at hl 1 rfl) ?_
    refine m_get hx hb hts inX7 hown hK hP (ci := 7) rfl (k := 0) (by decide) rfl 25 (by decide) (hts (.fieldLink RX7 83 "RollbackPairModel" "pBits" "[J") (by decide +kernel)) rfl dX7_spoil_190 ?_
    refine lv_iload hx hb dX7_spoil_193 (lv_at hl 0 rfl) ?_
    refine lv_iload_n hx hb dX7_spoil_195 rfl (lv_at hl 3 rfl) ?_
    refine lv_iconst (v := nI 5) hx hb dX7_spoil_196 (by decide) ?_
    refine n_cmp_ne (tgt := 217) hx hb dX7_spoil_197 (by decide) (by omega) (by omega) (fun c_9 => ?_) (fun c_9 => absurd c_9 (by decide))
    refine lv_aload_n hx hb dX7_spoil_217 rfl (lv_at hl 1 rfl) ?_
    refine m_get hx hb hts inX7 hown hK hP (ci := 7) rfl (k := 0) (by decide) rfl 25 (by decide) (hts (.fieldLink RX7 83 "RollbackPairModel" "pBits" "[J") (by decide +kernel)) rfl dX7_spoil_218 ?_
    refine lv_iload hx hb dX7_spoil_221 (lv_at hl 0 rfl) ?_
    refine m_lald hx hb hK hP (k := 24) (by decide) (f := S.2.2.1) rfl (i := 12 * q) (by omega) (by decide) dX7_spoil_223 ?_
    refine m_last hx hb hK hP hJ hS (k := 24) (by decide) (f := S.2.2.1) rfl (i := 12 * q) (by omega) (by decide) dX7_spoil_224 (fun H locs hP hS => ?_)
    rw [mm_up25] at hP
    refine lv_aload_n hx hb dX7_spoil_225 rfl (lv_at hl 1 rfl) ?_
    refine m_get hx hb hts inX7 hown hK hP (ci := 7) rfl (k := 0) (by decide) rfl 26 (by decide) (hts (.fieldLink RX7 87 "RollbackPairModel" "pCheck" "[I") (by decide +kernel)) rfl dX7_spoil_226 ?_
    refine lv_iload hx hb dX7_spoil_229 (lv_at hl 0 rfl) ?_
    refine lv_iload_n hx hb dX7_spoil_231 rfl (lv_at hl 3 rfl) ?_
    refine lv_bipush (v := nI 6) hx hb dX7_spoil_232 (by decide) ?_
    refine n_cmp_ne (tgt := 249) hx hb dX7_spoil_234 (by decide) (by omega) (by omega) (fun c_10 => ?_) (fun c_10 => absurd c_10 (by decide))
    refine lv_aload_n hx hb dX7_spoil_249 rfl (lv_at hl 1 rfl) ?_
    refine m_get hx hb hts inX7 hown hK hP (ci := 7) rfl (k := 0) (by decide) rfl 26 (by decide) (hts (.fieldLink RX7 87 "RollbackPairModel" "pCheck" "[I") (by decide +kernel)) rfl dX7_spoil_250 ?_
    refine lv_iload hx hb dX7_spoil_253 (lv_at hl 0 rfl) ?_
    refine m_iald hx hb hK hP (k := 25) (by decide) (f := (S.1 26)) rfl (i := 12 * q) (by omega) (by decide) dX7_spoil_255 ?_
    refine m_iast hx hb hK hP hJ hS (k := 25) (by decide) (f := (S.1 26)) rfl (i := 12 * q) (by omega) (by decide) dX7_spoil_256 (fun H locs hP hS => ?_)
    rw [mm_up26] at hP
    refine lv_iconst (v := nI 1) hx hb dX7_spoil_257 (by decide) ?_
    exact r_z hx hb hr hlocks hK hP hS dX7_spoil_258 (by first | rfl | decide) ⟨rfl, rfl⟩
  · refine lv_iload_n hx hb dX7_spoil_0 rfl (lv_at hl 1 rfl) ?_
    refine k_Si (As := [.int (nI q)]) (rest := []) ⟨hx, hb, hml, hown, hts⟩ hK hP hS Ad_le (c_isTwo l D cs ad 26 (mm ad cs d w S np ns) (nI q)) (va_cwS 1 hts gX7_spoil_X7_isTwo rfl rfl rfl (by decide +kernel) ⟨Nat.le_of_ble_eq_true rfl, Nat.le_of_ble_eq_true rfl⟩) rfl rfl hl.1 (Nat.le_of_ble_eq_true rfl) dX7_spoil_1 ⟨Nat.le_of_ble_eq_true rfl, Nat.le_of_ble_eq_true rfl⟩ (fun r_1 M1 H locs hpo hP hS _ _ => ?_)
    obtain ⟨rfl, rfl⟩ := hpo
    refine n_val (two_ok hq) ?_
    refine n_if_eq (tgt := 26) hx hb dX7_spoil_4 (by decide) (by omega) (fun c_2 => absurd c_2 (by decide)) (fun c_2 => ?_)
    refine lv_iload_n hx hb dX7_spoil_7 rfl (lv_at hl 2 rfl) ?_
    refine lv_if_lt (tgt := 26) hx hb dX7_spoil_8 (by decide) (fun c2 => absurd c2 (by decide)) (fun c2 => ?_)
    refine lv_iload_n hx hb dX7_spoil_11 rfl (lv_at hl 2 rfl) ?_
    refine lv_bipush (v := nI 6) hx hb dX7_spoil_12 (by decide) ?_
    refine n_cmp_gt (tgt := 26) hx hb dX7_spoil_14 (by decide) (by omega) (by omega) (fun c_3 => absurd c_3 (by decide)) (fun c_3 => ?_)
    refine lv_aload_n hx hb dX7_spoil_17 rfl (lv_at hl 0 rfl) ?_
    refine m_get hx hb hts inX7 hown hK hP (ci := 7) rfl (k := 0) (by decide) rfl 19 (by decide) (hts (.fieldLink RX7 65 "RollbackPairModel" "rows" "[I") (by decide +kernel)) rfl dX7_spoil_18 ?_
    refine lv_iload_n hx hb dX7_spoil_21 rfl (lv_at hl 1 rfl) ?_
    refine m_iald hx hb hK hP (k := 18) (by decide) (f := (S.1 19)) rfl (i := q) (by omega) (by decide) dX7_spoil_22 ?_
    refine n_val hr0 ?_
    refine n_if_ne (tgt := 28) hx hb dX7_spoil_23 (by decide) (by omega) (fun c4 => ?_) (fun c4 => absurd c4 (by omega))
    refine lv_bipush (v := nI 12) hx hb dX7_spoil_28 (by decide) ?_
    refine lv_iload_n hx hb dX7_spoil_30 rfl (lv_at hl 1 rfl) ?_
    refine n_mul hx hb dX7_spoil_31 ?_
    refine lv_istore (lv' := [(4, .int (nI (12 * q))), (0, .ref (ad 0)), (1, .int (nI q)), (2, .int (nI 3)), (3, .int bits)]) hx hb dX7_spoil_32 hl (by decide) rfl (fun ls hl => ?_)
    refine lv_aload_n hx hb dX7_spoil_34 rfl (lv_at hl 1 rfl) ?_
    refine m_get hx hb hts inX7 hown hK hP (ci := 7) rfl (k := 0) (by decide) rfl 20 (by decide) (hts (.fieldLink RX7 68 "RollbackPairModel" "pNumber" "[S") (by decide +kernel)) rfl dX7_spoil_35 ?_
    refine lv_iload hx hb dX7_spoil_38 (lv_at hl 0 rfl) ?_
    refine lv_iload_n hx hb dX7_spoil_40 rfl (lv_at hl 3 rfl) ?_
    refine n_if_ne (tgt := 57) hx hb dX7_spoil_41 (by decide) (by omega) (fun c_4 => ?_) (fun c_4 => absurd c_4 (by decide))
    refine lv_aload_n hx hb dX7_spoil_57 rfl (lv_at hl 1 rfl) ?_
    refine m_get hx hb hts inX7 hown hK hP (ci := 7) rfl (k := 0) (by decide) rfl 20 (by decide) (hts (.fieldLink RX7 68 "RollbackPairModel" "pNumber" "[S") (by decide +kernel)) rfl dX7_spoil_58 ?_
    refine lv_iload hx hb dX7_spoil_61 (lv_at hl 0 rfl) ?_
    refine m_sald hx hb hK hP (k := 19) (by decide) (f := (S.1 20)) rfl (i := 12 * q) (by omega) (by decide) dX7_spoil_63 ?_
    refine m_sast hx hb hK hP hJ hS (k := 19) (by decide) (f := (S.1 20)) rfl (i := 12 * q) (y := S.1 20 (12 * q)) (by omega) (by decide) (hsh _) dX7_spoil_64 (fun H locs hP hS => ?_)
    rw [mm_up20] at hP
    refine lv_aload_n hx hb dX7_spoil_65 rfl (lv_at hl 1 rfl) ?_
    refine m_get hx hb hts inX7 hown hK hP (ci := 7) rfl (k := 0) (by decide) rfl 21 (by decide) (hts (.fieldLink RX7 71 "RollbackPairModel" "pFrame" "[I") (by decide +kernel)) rfl dX7_spoil_66 ?_
    refine lv_iload hx hb dX7_spoil_69 (lv_at hl 0 rfl) ?_
    refine lv_iload_n hx hb dX7_spoil_71 rfl (lv_at hl 3 rfl) ?_
    refine lv_iconst (v := nI 1) hx hb dX7_spoil_72 (by decide) ?_
    refine n_cmp_ne (tgt := 88) hx hb dX7_spoil_73 (by decide) (by omega) (by omega) (fun c_5 => ?_) (fun c_5 => absurd c_5 (by decide))
    refine lv_aload_n hx hb dX7_spoil_88 rfl (lv_at hl 1 rfl) ?_
    refine m_get hx hb hts inX7 hown hK hP (ci := 7) rfl (k := 0) (by decide) rfl 21 (by decide) (hts (.fieldLink RX7 71 "RollbackPairModel" "pFrame" "[I") (by decide +kernel)) rfl dX7_spoil_89 ?_
    refine lv_iload hx hb dX7_spoil_92 (lv_at hl 0 rfl) ?_
    refine m_iald hx hb hK hP (k := 20) (by decide) (f := (S.1 21)) rfl (i := 12 * q) (by omega) (by decide) dX7_spoil_94 ?_
    refine m_iast hx hb hK hP hJ hS (k := 20) (by decide) (f := (S.1 21)) rfl (i := 12 * q) (by omega) (by decide) dX7_spoil_95 (fun H locs hP hS => ?_)
    rw [mm_up21] at hP
    refine lv_aload_n hx hb dX7_spoil_96 rfl (lv_at hl 1 rfl) ?_
    refine m_get hx hb hts inX7 hown hK hP (ci := 7) rfl (k := 0) (by decide) rfl 22 (by decide) (hts (.fieldLink RX7 74 "RollbackPairModel" "pAck" "[I") (by decide +kernel)) rfl dX7_spoil_97 ?_
    refine lv_iload hx hb dX7_spoil_100 (lv_at hl 0 rfl) ?_
    refine lv_iload_n hx hb dX7_spoil_102 rfl (lv_at hl 3 rfl) ?_
    refine lv_iconst (v := nI 2) hx hb dX7_spoil_103 (by decide) ?_
    refine n_cmp_ne (tgt := 119) hx hb dX7_spoil_104 (by decide) (by omega) (by omega) (fun c_6 => ?_) (fun c_6 => absurd c_6 (by decide))
    refine lv_aload_n hx hb dX7_spoil_119 rfl (lv_at hl 1 rfl) ?_
    refine m_get hx hb hts inX7 hown hK hP (ci := 7) rfl (k := 0) (by decide) rfl 22 (by decide) (hts (.fieldLink RX7 74 "RollbackPairModel" "pAck" "[I") (by decide +kernel)) rfl dX7_spoil_120 ?_
    refine lv_iload hx hb dX7_spoil_123 (lv_at hl 0 rfl) ?_
    refine m_iald hx hb hK hP (k := 21) (by decide) (f := (S.1 22)) rfl (i := 12 * q) (by omega) (by decide) dX7_spoil_125 ?_
    refine m_iast hx hb hK hP hJ hS (k := 21) (by decide) (f := (S.1 22)) rfl (i := 12 * q) (by omega) (by decide) dX7_spoil_126 (fun H locs hP hS => ?_)
    rw [mm_up22] at hP
    refine lv_aload_n hx hb dX7_spoil_127 rfl (lv_at hl 1 rfl) ?_
    refine m_get hx hb hts inX7 hown hK hP (ci := 7) rfl (k := 0) (by decide) rfl 23 (by decide) (hts (.fieldLink RX7 77 "RollbackPairModel" "pFirst" "[I") (by decide +kernel)) rfl dX7_spoil_128 ?_
    refine lv_iload hx hb dX7_spoil_131 (lv_at hl 0 rfl) ?_
    refine lv_iload_n hx hb dX7_spoil_133 rfl (lv_at hl 3 rfl) ?_
    refine lv_iconst (v := nI 3) hx hb dX7_spoil_134 (by decide) ?_
    refine n_cmp_ne (tgt := 150) hx hb dX7_spoil_135 (by decide) (by omega) (by omega) (fun c_7 => absurd c_7 (by decide)) (fun c_7 => ?_)
    refine lv_aload_n hx hb dX7_spoil_138 rfl (lv_at hl 1 rfl) ?_
    refine m_get hx hb hts inX7 hown hK hP (ci := 7) rfl (k := 0) (by decide) rfl 23 (by decide) (hts (.fieldLink RX7 77 "RollbackPairModel" "pFirst" "[I") (by decide +kernel)) rfl dX7_spoil_139 ?_
    refine lv_iload hx hb dX7_spoil_142 (lv_at hl 0 rfl) ?_
    refine m_iald hx hb hK hP (k := 22) (by decide) (f := (S.1 23)) rfl (i := 12 * q) (by omega) (by decide) dX7_spoil_144 ?_
    refine lv_iload_n hx hb dX7_spoil_145 rfl (lv_at hl 4 rfl) ?_
    refine lv_ixor hx hb dX7_spoil_146 ?_
    refine lv_goto (tgt := 157) hx hb dX7_spoil_147 (by decide) ?_
    refine m_iast hx hb hK hP hJ hS (k := 22) (by decide) (f := (S.1 23)) rfl (i := 12 * q) (by omega) (by decide) dX7_spoil_157 (fun H locs hP hS => ?_)
    rw [mm_up23] at hP
    refine lv_aload_n hx hb dX7_spoil_158 rfl (lv_at hl 1 rfl) ?_
    refine m_get hx hb hts inX7 hown hK hP (ci := 7) rfl (k := 0) (by decide) rfl 24 (by decide) (hts (.fieldLink RX7 80 "RollbackPairModel" "pCount" "[I") (by decide +kernel)) rfl dX7_spoil_159 ?_
    refine lv_iload hx hb dX7_spoil_162 (lv_at hl 0 rfl) ?_
    refine lv_iload_n hx hb dX7_spoil_164 rfl (lv_at hl 3 rfl) ?_
    refine lv_iconst (v := nI 4) hx hb dX7_spoil_165 (by decide) ?_
    refine n_cmp_ne (tgt := 181) hx hb dX7_spoil_166 (by decide) (by omega) (by omega) (fun c_8 => ?_) (fun c_8 => absurd c_8 (by decide))
    refine lv_aload_n hx hb dX7_spoil_181 rfl (lv_at hl 1 rfl) ?_
    refine m_get hx hb hts inX7 hown hK hP (ci := 7) rfl (k := 0) (by decide) rfl 24 (by decide) (hts (.fieldLink RX7 80 "RollbackPairModel" "pCount" "[I") (by decide +kernel)) rfl dX7_spoil_182 ?_
    refine lv_iload hx hb dX7_spoil_185 (lv_at hl 0 rfl) ?_
    refine m_iald hx hb hK hP (k := 23) (by decide) (f := (S.1 24)) rfl (i := 12 * q) (by omega) (by decide) dX7_spoil_187 ?_
    refine m_iast hx hb hK hP hJ hS (k := 23) (by decide) (f := (S.1 24)) rfl (i := 12 * q) (by omega) (by decide) dX7_spoil_188 (fun H locs hP hS => ?_)
    rw [mm_up24] at hP
    refine lv_aload_n hx hb dX7_spoil_189 rfl (lv_at hl 1 rfl) ?_
    refine m_get hx hb hts inX7 hown hK hP (ci := 7) rfl (k := 0) (by decide) rfl 25 (by decide) (hts (.fieldLink RX7 83 "RollbackPairModel" "pBits" "[J") (by decide +kernel)) rfl dX7_spoil_190 ?_
    refine lv_iload hx hb dX7_spoil_193 (lv_at hl 0 rfl) ?_
    refine lv_iload_n hx hb dX7_spoil_195 rfl (lv_at hl 3 rfl) ?_
    refine lv_iconst (v := nI 5) hx hb dX7_spoil_196 (by decide) ?_
    refine n_cmp_ne (tgt := 217) hx hb dX7_spoil_197 (by decide) (by omega) (by omega) (fun c_9 => ?_) (fun c_9 => absurd c_9 (by decide))
    refine lv_aload_n hx hb dX7_spoil_217 rfl (lv_at hl 1 rfl) ?_
    refine m_get hx hb hts inX7 hown hK hP (ci := 7) rfl (k := 0) (by decide) rfl 25 (by decide) (hts (.fieldLink RX7 83 "RollbackPairModel" "pBits" "[J") (by decide +kernel)) rfl dX7_spoil_218 ?_
    refine lv_iload hx hb dX7_spoil_221 (lv_at hl 0 rfl) ?_
    refine m_lald hx hb hK hP (k := 24) (by decide) (f := S.2.2.1) rfl (i := 12 * q) (by omega) (by decide) dX7_spoil_223 ?_
    refine m_last hx hb hK hP hJ hS (k := 24) (by decide) (f := S.2.2.1) rfl (i := 12 * q) (by omega) (by decide) dX7_spoil_224 (fun H locs hP hS => ?_)
    rw [mm_up25] at hP
    refine lv_aload_n hx hb dX7_spoil_225 rfl (lv_at hl 1 rfl) ?_
    refine m_get hx hb hts inX7 hown hK hP (ci := 7) rfl (k := 0) (by decide) rfl 26 (by decide) (hts (.fieldLink RX7 87 "RollbackPairModel" "pCheck" "[I") (by decide +kernel)) rfl dX7_spoil_226 ?_
    refine lv_iload hx hb dX7_spoil_229 (lv_at hl 0 rfl) ?_
    refine lv_iload_n hx hb dX7_spoil_231 rfl (lv_at hl 3 rfl) ?_
    refine lv_bipush (v := nI 6) hx hb dX7_spoil_232 (by decide) ?_
    refine n_cmp_ne (tgt := 249) hx hb dX7_spoil_234 (by decide) (by omega) (by omega) (fun c_10 => ?_) (fun c_10 => absurd c_10 (by decide))
    refine lv_aload_n hx hb dX7_spoil_249 rfl (lv_at hl 1 rfl) ?_
    refine m_get hx hb hts inX7 hown hK hP (ci := 7) rfl (k := 0) (by decide) rfl 26 (by decide) (hts (.fieldLink RX7 87 "RollbackPairModel" "pCheck" "[I") (by decide +kernel)) rfl dX7_spoil_250 ?_
    refine lv_iload hx hb dX7_spoil_253 (lv_at hl 0 rfl) ?_
    refine m_iald hx hb hK hP (k := 25) (by decide) (f := (S.1 26)) rfl (i := 12 * q) (by omega) (by decide) dX7_spoil_255 ?_
    refine m_iast hx hb hK hP hJ hS (k := 25) (by decide) (f := (S.1 26)) rfl (i := 12 * q) (by omega) (by decide) dX7_spoil_256 (fun H locs hP hS => ?_)
    rw [mm_up26] at hP
    refine lv_iconst (v := nI 1) hx hb dX7_spoil_257 (by decide) ?_
    exact r_z hx hb hr hlocks hK hP hS dX7_spoil_258 (by first | rfl | decide) ⟨rfl, rfl⟩
  · refine lv_iload_n hx hb dX7_spoil_0 rfl (lv_at hl 1 rfl) ?_
    refine k_Si (As := [.int (nI q)]) (rest := []) ⟨hx, hb, hml, hown, hts⟩ hK hP hS Ad_le (c_isTwo l D cs ad 26 (mm ad cs d w S np ns) (nI q)) (va_cwS 1 hts gX7_spoil_X7_isTwo rfl rfl rfl (by decide +kernel) ⟨Nat.le_of_ble_eq_true rfl, Nat.le_of_ble_eq_true rfl⟩) rfl rfl hl.1 (Nat.le_of_ble_eq_true rfl) dX7_spoil_1 ⟨Nat.le_of_ble_eq_true rfl, Nat.le_of_ble_eq_true rfl⟩ (fun r_1 M1 H locs hpo hP hS _ _ => ?_)
    obtain ⟨rfl, rfl⟩ := hpo
    refine n_val (two_ok hq) ?_
    refine n_if_eq (tgt := 26) hx hb dX7_spoil_4 (by decide) (by omega) (fun c_2 => absurd c_2 (by decide)) (fun c_2 => ?_)
    refine lv_iload_n hx hb dX7_spoil_7 rfl (lv_at hl 2 rfl) ?_
    refine lv_if_lt (tgt := 26) hx hb dX7_spoil_8 (by decide) (fun c2 => absurd c2 (by decide)) (fun c2 => ?_)
    refine lv_iload_n hx hb dX7_spoil_11 rfl (lv_at hl 2 rfl) ?_
    refine lv_bipush (v := nI 6) hx hb dX7_spoil_12 (by decide) ?_
    refine n_cmp_gt (tgt := 26) hx hb dX7_spoil_14 (by decide) (by omega) (by omega) (fun c_3 => absurd c_3 (by decide)) (fun c_3 => ?_)
    refine lv_aload_n hx hb dX7_spoil_17 rfl (lv_at hl 0 rfl) ?_
    refine m_get hx hb hts inX7 hown hK hP (ci := 7) rfl (k := 0) (by decide) rfl 19 (by decide) (hts (.fieldLink RX7 65 "RollbackPairModel" "rows" "[I") (by decide +kernel)) rfl dX7_spoil_18 ?_
    refine lv_iload_n hx hb dX7_spoil_21 rfl (lv_at hl 1 rfl) ?_
    refine m_iald hx hb hK hP (k := 18) (by decide) (f := (S.1 19)) rfl (i := q) (by omega) (by decide) dX7_spoil_22 ?_
    refine n_val hr0 ?_
    refine n_if_ne (tgt := 28) hx hb dX7_spoil_23 (by decide) (by omega) (fun c4 => ?_) (fun c4 => absurd c4 (by omega))
    refine lv_bipush (v := nI 12) hx hb dX7_spoil_28 (by decide) ?_
    refine lv_iload_n hx hb dX7_spoil_30 rfl (lv_at hl 1 rfl) ?_
    refine n_mul hx hb dX7_spoil_31 ?_
    refine lv_istore (lv' := [(4, .int (nI (12 * q))), (0, .ref (ad 0)), (1, .int (nI q)), (2, .int (nI 4)), (3, .int bits)]) hx hb dX7_spoil_32 hl (by decide) rfl (fun ls hl => ?_)
    refine lv_aload_n hx hb dX7_spoil_34 rfl (lv_at hl 1 rfl) ?_
    refine m_get hx hb hts inX7 hown hK hP (ci := 7) rfl (k := 0) (by decide) rfl 20 (by decide) (hts (.fieldLink RX7 68 "RollbackPairModel" "pNumber" "[S") (by decide +kernel)) rfl dX7_spoil_35 ?_
    refine lv_iload hx hb dX7_spoil_38 (lv_at hl 0 rfl) ?_
    refine lv_iload_n hx hb dX7_spoil_40 rfl (lv_at hl 3 rfl) ?_
    refine n_if_ne (tgt := 57) hx hb dX7_spoil_41 (by decide) (by omega) (fun c_4 => ?_) (fun c_4 => absurd c_4 (by decide))
    refine lv_aload_n hx hb dX7_spoil_57 rfl (lv_at hl 1 rfl) ?_
    refine m_get hx hb hts inX7 hown hK hP (ci := 7) rfl (k := 0) (by decide) rfl 20 (by decide) (hts (.fieldLink RX7 68 "RollbackPairModel" "pNumber" "[S") (by decide +kernel)) rfl dX7_spoil_58 ?_
    refine lv_iload hx hb dX7_spoil_61 (lv_at hl 0 rfl) ?_
    refine m_sald hx hb hK hP (k := 19) (by decide) (f := (S.1 20)) rfl (i := 12 * q) (by omega) (by decide) dX7_spoil_63 ?_
    refine m_sast hx hb hK hP hJ hS (k := 19) (by decide) (f := (S.1 20)) rfl (i := 12 * q) (y := S.1 20 (12 * q)) (by omega) (by decide) (hsh _) dX7_spoil_64 (fun H locs hP hS => ?_)
    rw [mm_up20] at hP
    refine lv_aload_n hx hb dX7_spoil_65 rfl (lv_at hl 1 rfl) ?_
    refine m_get hx hb hts inX7 hown hK hP (ci := 7) rfl (k := 0) (by decide) rfl 21 (by decide) (hts (.fieldLink RX7 71 "RollbackPairModel" "pFrame" "[I") (by decide +kernel)) rfl dX7_spoil_66 ?_
    refine lv_iload hx hb dX7_spoil_69 (lv_at hl 0 rfl) ?_
    refine lv_iload_n hx hb dX7_spoil_71 rfl (lv_at hl 3 rfl) ?_
    refine lv_iconst (v := nI 1) hx hb dX7_spoil_72 (by decide) ?_
    refine n_cmp_ne (tgt := 88) hx hb dX7_spoil_73 (by decide) (by omega) (by omega) (fun c_5 => ?_) (fun c_5 => absurd c_5 (by decide))
    refine lv_aload_n hx hb dX7_spoil_88 rfl (lv_at hl 1 rfl) ?_
    refine m_get hx hb hts inX7 hown hK hP (ci := 7) rfl (k := 0) (by decide) rfl 21 (by decide) (hts (.fieldLink RX7 71 "RollbackPairModel" "pFrame" "[I") (by decide +kernel)) rfl dX7_spoil_89 ?_
    refine lv_iload hx hb dX7_spoil_92 (lv_at hl 0 rfl) ?_
    refine m_iald hx hb hK hP (k := 20) (by decide) (f := (S.1 21)) rfl (i := 12 * q) (by omega) (by decide) dX7_spoil_94 ?_
    refine m_iast hx hb hK hP hJ hS (k := 20) (by decide) (f := (S.1 21)) rfl (i := 12 * q) (by omega) (by decide) dX7_spoil_95 (fun H locs hP hS => ?_)
    rw [mm_up21] at hP
    refine lv_aload_n hx hb dX7_spoil_96 rfl (lv_at hl 1 rfl) ?_
    refine m_get hx hb hts inX7 hown hK hP (ci := 7) rfl (k := 0) (by decide) rfl 22 (by decide) (hts (.fieldLink RX7 74 "RollbackPairModel" "pAck" "[I") (by decide +kernel)) rfl dX7_spoil_97 ?_
    refine lv_iload hx hb dX7_spoil_100 (lv_at hl 0 rfl) ?_
    refine lv_iload_n hx hb dX7_spoil_102 rfl (lv_at hl 3 rfl) ?_
    refine lv_iconst (v := nI 2) hx hb dX7_spoil_103 (by decide) ?_
    refine n_cmp_ne (tgt := 119) hx hb dX7_spoil_104 (by decide) (by omega) (by omega) (fun c_6 => ?_) (fun c_6 => absurd c_6 (by decide))
    refine lv_aload_n hx hb dX7_spoil_119 rfl (lv_at hl 1 rfl) ?_
    refine m_get hx hb hts inX7 hown hK hP (ci := 7) rfl (k := 0) (by decide) rfl 22 (by decide) (hts (.fieldLink RX7 74 "RollbackPairModel" "pAck" "[I") (by decide +kernel)) rfl dX7_spoil_120 ?_
    refine lv_iload hx hb dX7_spoil_123 (lv_at hl 0 rfl) ?_
    refine m_iald hx hb hK hP (k := 21) (by decide) (f := (S.1 22)) rfl (i := 12 * q) (by omega) (by decide) dX7_spoil_125 ?_
    refine m_iast hx hb hK hP hJ hS (k := 21) (by decide) (f := (S.1 22)) rfl (i := 12 * q) (by omega) (by decide) dX7_spoil_126 (fun H locs hP hS => ?_)
    rw [mm_up22] at hP
    refine lv_aload_n hx hb dX7_spoil_127 rfl (lv_at hl 1 rfl) ?_
    refine m_get hx hb hts inX7 hown hK hP (ci := 7) rfl (k := 0) (by decide) rfl 23 (by decide) (hts (.fieldLink RX7 77 "RollbackPairModel" "pFirst" "[I") (by decide +kernel)) rfl dX7_spoil_128 ?_
    refine lv_iload hx hb dX7_spoil_131 (lv_at hl 0 rfl) ?_
    refine lv_iload_n hx hb dX7_spoil_133 rfl (lv_at hl 3 rfl) ?_
    refine lv_iconst (v := nI 3) hx hb dX7_spoil_134 (by decide) ?_
    refine n_cmp_ne (tgt := 150) hx hb dX7_spoil_135 (by decide) (by omega) (by omega) (fun c_7 => ?_) (fun c_7 => absurd c_7 (by decide))
    refine lv_aload_n hx hb dX7_spoil_150 rfl (lv_at hl 1 rfl) ?_
    refine m_get hx hb hts inX7 hown hK hP (ci := 7) rfl (k := 0) (by decide) rfl 23 (by decide) (hts (.fieldLink RX7 77 "RollbackPairModel" "pFirst" "[I") (by decide +kernel)) rfl dX7_spoil_151 ?_
    refine lv_iload hx hb dX7_spoil_154 (lv_at hl 0 rfl) ?_
    refine m_iald hx hb hK hP (k := 22) (by decide) (f := (S.1 23)) rfl (i := 12 * q) (by omega) (by decide) dX7_spoil_156 ?_
    refine m_iast hx hb hK hP hJ hS (k := 22) (by decide) (f := (S.1 23)) rfl (i := 12 * q) (by omega) (by decide) dX7_spoil_157 (fun H locs hP hS => ?_)
    rw [mm_up23] at hP
    refine lv_aload_n hx hb dX7_spoil_158 rfl (lv_at hl 1 rfl) ?_
    refine m_get hx hb hts inX7 hown hK hP (ci := 7) rfl (k := 0) (by decide) rfl 24 (by decide) (hts (.fieldLink RX7 80 "RollbackPairModel" "pCount" "[I") (by decide +kernel)) rfl dX7_spoil_159 ?_
    refine lv_iload hx hb dX7_spoil_162 (lv_at hl 0 rfl) ?_
    refine lv_iload_n hx hb dX7_spoil_164 rfl (lv_at hl 3 rfl) ?_
    refine lv_iconst (v := nI 4) hx hb dX7_spoil_165 (by decide) ?_
    refine n_cmp_ne (tgt := 181) hx hb dX7_spoil_166 (by decide) (by omega) (by omega) (fun c_8 => absurd c_8 (by decide)) (fun c_8 => ?_)
    refine lv_aload_n hx hb dX7_spoil_169 rfl (lv_at hl 1 rfl) ?_
    refine m_get hx hb hts inX7 hown hK hP (ci := 7) rfl (k := 0) (by decide) rfl 24 (by decide) (hts (.fieldLink RX7 80 "RollbackPairModel" "pCount" "[I") (by decide +kernel)) rfl dX7_spoil_170 ?_
    refine lv_iload hx hb dX7_spoil_173 (lv_at hl 0 rfl) ?_
    refine m_iald hx hb hK hP (k := 23) (by decide) (f := (S.1 24)) rfl (i := 12 * q) (by omega) (by decide) dX7_spoil_175 ?_
    refine lv_iload_n hx hb dX7_spoil_176 rfl (lv_at hl 4 rfl) ?_
    refine lv_ixor hx hb dX7_spoil_177 ?_
    refine lv_goto (tgt := 188) hx hb dX7_spoil_178 (by decide) ?_
    refine m_iast hx hb hK hP hJ hS (k := 23) (by decide) (f := (S.1 24)) rfl (i := 12 * q) (by omega) (by decide) dX7_spoil_188 (fun H locs hP hS => ?_)
    rw [mm_up24] at hP
    refine lv_aload_n hx hb dX7_spoil_189 rfl (lv_at hl 1 rfl) ?_
    refine m_get hx hb hts inX7 hown hK hP (ci := 7) rfl (k := 0) (by decide) rfl 25 (by decide) (hts (.fieldLink RX7 83 "RollbackPairModel" "pBits" "[J") (by decide +kernel)) rfl dX7_spoil_190 ?_
    refine lv_iload hx hb dX7_spoil_193 (lv_at hl 0 rfl) ?_
    refine lv_iload_n hx hb dX7_spoil_195 rfl (lv_at hl 3 rfl) ?_
    refine lv_iconst (v := nI 5) hx hb dX7_spoil_196 (by decide) ?_
    refine n_cmp_ne (tgt := 217) hx hb dX7_spoil_197 (by decide) (by omega) (by omega) (fun c_9 => ?_) (fun c_9 => absurd c_9 (by decide))
    refine lv_aload_n hx hb dX7_spoil_217 rfl (lv_at hl 1 rfl) ?_
    refine m_get hx hb hts inX7 hown hK hP (ci := 7) rfl (k := 0) (by decide) rfl 25 (by decide) (hts (.fieldLink RX7 83 "RollbackPairModel" "pBits" "[J") (by decide +kernel)) rfl dX7_spoil_218 ?_
    refine lv_iload hx hb dX7_spoil_221 (lv_at hl 0 rfl) ?_
    refine m_lald hx hb hK hP (k := 24) (by decide) (f := S.2.2.1) rfl (i := 12 * q) (by omega) (by decide) dX7_spoil_223 ?_
    refine m_last hx hb hK hP hJ hS (k := 24) (by decide) (f := S.2.2.1) rfl (i := 12 * q) (by omega) (by decide) dX7_spoil_224 (fun H locs hP hS => ?_)
    rw [mm_up25] at hP
    refine lv_aload_n hx hb dX7_spoil_225 rfl (lv_at hl 1 rfl) ?_
    refine m_get hx hb hts inX7 hown hK hP (ci := 7) rfl (k := 0) (by decide) rfl 26 (by decide) (hts (.fieldLink RX7 87 "RollbackPairModel" "pCheck" "[I") (by decide +kernel)) rfl dX7_spoil_226 ?_
    refine lv_iload hx hb dX7_spoil_229 (lv_at hl 0 rfl) ?_
    refine lv_iload_n hx hb dX7_spoil_231 rfl (lv_at hl 3 rfl) ?_
    refine lv_bipush (v := nI 6) hx hb dX7_spoil_232 (by decide) ?_
    refine n_cmp_ne (tgt := 249) hx hb dX7_spoil_234 (by decide) (by omega) (by omega) (fun c_10 => ?_) (fun c_10 => absurd c_10 (by decide))
    refine lv_aload_n hx hb dX7_spoil_249 rfl (lv_at hl 1 rfl) ?_
    refine m_get hx hb hts inX7 hown hK hP (ci := 7) rfl (k := 0) (by decide) rfl 26 (by decide) (hts (.fieldLink RX7 87 "RollbackPairModel" "pCheck" "[I") (by decide +kernel)) rfl dX7_spoil_250 ?_
    refine lv_iload hx hb dX7_spoil_253 (lv_at hl 0 rfl) ?_
    refine m_iald hx hb hK hP (k := 25) (by decide) (f := (S.1 26)) rfl (i := 12 * q) (by omega) (by decide) dX7_spoil_255 ?_
    refine m_iast hx hb hK hP hJ hS (k := 25) (by decide) (f := (S.1 26)) rfl (i := 12 * q) (by omega) (by decide) dX7_spoil_256 (fun H locs hP hS => ?_)
    rw [mm_up26] at hP
    refine lv_iconst (v := nI 1) hx hb dX7_spoil_257 (by decide) ?_
    exact r_z hx hb hr hlocks hK hP hS dX7_spoil_258 (by first | rfl | decide) ⟨rfl, rfl⟩
  · refine lv_iload_n hx hb dX7_spoil_0 rfl (lv_at hl 1 rfl) ?_
    refine k_Si (As := [.int (nI q)]) (rest := []) ⟨hx, hb, hml, hown, hts⟩ hK hP hS Ad_le (c_isTwo l D cs ad 26 (mm ad cs d w S np ns) (nI q)) (va_cwS 1 hts gX7_spoil_X7_isTwo rfl rfl rfl (by decide +kernel) ⟨Nat.le_of_ble_eq_true rfl, Nat.le_of_ble_eq_true rfl⟩) rfl rfl hl.1 (Nat.le_of_ble_eq_true rfl) dX7_spoil_1 ⟨Nat.le_of_ble_eq_true rfl, Nat.le_of_ble_eq_true rfl⟩ (fun r_1 M1 H locs hpo hP hS _ _ => ?_)
    obtain ⟨rfl, rfl⟩ := hpo
    refine n_val (two_ok hq) ?_
    refine n_if_eq (tgt := 26) hx hb dX7_spoil_4 (by decide) (by omega) (fun c_2 => absurd c_2 (by decide)) (fun c_2 => ?_)
    refine lv_iload_n hx hb dX7_spoil_7 rfl (lv_at hl 2 rfl) ?_
    refine lv_if_lt (tgt := 26) hx hb dX7_spoil_8 (by decide) (fun c2 => absurd c2 (by decide)) (fun c2 => ?_)
    refine lv_iload_n hx hb dX7_spoil_11 rfl (lv_at hl 2 rfl) ?_
    refine lv_bipush (v := nI 6) hx hb dX7_spoil_12 (by decide) ?_
    refine n_cmp_gt (tgt := 26) hx hb dX7_spoil_14 (by decide) (by omega) (by omega) (fun c_3 => absurd c_3 (by decide)) (fun c_3 => ?_)
    refine lv_aload_n hx hb dX7_spoil_17 rfl (lv_at hl 0 rfl) ?_
    refine m_get hx hb hts inX7 hown hK hP (ci := 7) rfl (k := 0) (by decide) rfl 19 (by decide) (hts (.fieldLink RX7 65 "RollbackPairModel" "rows" "[I") (by decide +kernel)) rfl dX7_spoil_18 ?_
    refine lv_iload_n hx hb dX7_spoil_21 rfl (lv_at hl 1 rfl) ?_
    refine m_iald hx hb hK hP (k := 18) (by decide) (f := (S.1 19)) rfl (i := q) (by omega) (by decide) dX7_spoil_22 ?_
    refine n_val hr0 ?_
    refine n_if_ne (tgt := 28) hx hb dX7_spoil_23 (by decide) (by omega) (fun c4 => ?_) (fun c4 => absurd c4 (by omega))
    refine lv_bipush (v := nI 12) hx hb dX7_spoil_28 (by decide) ?_
    refine lv_iload_n hx hb dX7_spoil_30 rfl (lv_at hl 1 rfl) ?_
    refine n_mul hx hb dX7_spoil_31 ?_
    refine lv_istore (lv' := [(4, .int (nI (12 * q))), (0, .ref (ad 0)), (1, .int (nI q)), (2, .int (nI 5)), (3, .int bits)]) hx hb dX7_spoil_32 hl (by decide) rfl (fun ls hl => ?_)
    refine lv_aload_n hx hb dX7_spoil_34 rfl (lv_at hl 1 rfl) ?_
    refine m_get hx hb hts inX7 hown hK hP (ci := 7) rfl (k := 0) (by decide) rfl 20 (by decide) (hts (.fieldLink RX7 68 "RollbackPairModel" "pNumber" "[S") (by decide +kernel)) rfl dX7_spoil_35 ?_
    refine lv_iload hx hb dX7_spoil_38 (lv_at hl 0 rfl) ?_
    refine lv_iload_n hx hb dX7_spoil_40 rfl (lv_at hl 3 rfl) ?_
    refine n_if_ne (tgt := 57) hx hb dX7_spoil_41 (by decide) (by omega) (fun c_4 => ?_) (fun c_4 => absurd c_4 (by decide))
    refine lv_aload_n hx hb dX7_spoil_57 rfl (lv_at hl 1 rfl) ?_
    refine m_get hx hb hts inX7 hown hK hP (ci := 7) rfl (k := 0) (by decide) rfl 20 (by decide) (hts (.fieldLink RX7 68 "RollbackPairModel" "pNumber" "[S") (by decide +kernel)) rfl dX7_spoil_58 ?_
    refine lv_iload hx hb dX7_spoil_61 (lv_at hl 0 rfl) ?_
    refine m_sald hx hb hK hP (k := 19) (by decide) (f := (S.1 20)) rfl (i := 12 * q) (by omega) (by decide) dX7_spoil_63 ?_
    refine m_sast hx hb hK hP hJ hS (k := 19) (by decide) (f := (S.1 20)) rfl (i := 12 * q) (y := S.1 20 (12 * q)) (by omega) (by decide) (hsh _) dX7_spoil_64 (fun H locs hP hS => ?_)
    rw [mm_up20] at hP
    refine lv_aload_n hx hb dX7_spoil_65 rfl (lv_at hl 1 rfl) ?_
    refine m_get hx hb hts inX7 hown hK hP (ci := 7) rfl (k := 0) (by decide) rfl 21 (by decide) (hts (.fieldLink RX7 71 "RollbackPairModel" "pFrame" "[I") (by decide +kernel)) rfl dX7_spoil_66 ?_
    refine lv_iload hx hb dX7_spoil_69 (lv_at hl 0 rfl) ?_
    refine lv_iload_n hx hb dX7_spoil_71 rfl (lv_at hl 3 rfl) ?_
    refine lv_iconst (v := nI 1) hx hb dX7_spoil_72 (by decide) ?_
    refine n_cmp_ne (tgt := 88) hx hb dX7_spoil_73 (by decide) (by omega) (by omega) (fun c_5 => ?_) (fun c_5 => absurd c_5 (by decide))
    refine lv_aload_n hx hb dX7_spoil_88 rfl (lv_at hl 1 rfl) ?_
    refine m_get hx hb hts inX7 hown hK hP (ci := 7) rfl (k := 0) (by decide) rfl 21 (by decide) (hts (.fieldLink RX7 71 "RollbackPairModel" "pFrame" "[I") (by decide +kernel)) rfl dX7_spoil_89 ?_
    refine lv_iload hx hb dX7_spoil_92 (lv_at hl 0 rfl) ?_
    refine m_iald hx hb hK hP (k := 20) (by decide) (f := (S.1 21)) rfl (i := 12 * q) (by omega) (by decide) dX7_spoil_94 ?_
    refine m_iast hx hb hK hP hJ hS (k := 20) (by decide) (f := (S.1 21)) rfl (i := 12 * q) (by omega) (by decide) dX7_spoil_95 (fun H locs hP hS => ?_)
    rw [mm_up21] at hP
    refine lv_aload_n hx hb dX7_spoil_96 rfl (lv_at hl 1 rfl) ?_
    refine m_get hx hb hts inX7 hown hK hP (ci := 7) rfl (k := 0) (by decide) rfl 22 (by decide) (hts (.fieldLink RX7 74 "RollbackPairModel" "pAck" "[I") (by decide +kernel)) rfl dX7_spoil_97 ?_
    refine lv_iload hx hb dX7_spoil_100 (lv_at hl 0 rfl) ?_
    refine lv_iload_n hx hb dX7_spoil_102 rfl (lv_at hl 3 rfl) ?_
    refine lv_iconst (v := nI 2) hx hb dX7_spoil_103 (by decide) ?_
    refine n_cmp_ne (tgt := 119) hx hb dX7_spoil_104 (by decide) (by omega) (by omega) (fun c_6 => ?_) (fun c_6 => absurd c_6 (by decide))
    refine lv_aload_n hx hb dX7_spoil_119 rfl (lv_at hl 1 rfl) ?_
    refine m_get hx hb hts inX7 hown hK hP (ci := 7) rfl (k := 0) (by decide) rfl 22 (by decide) (hts (.fieldLink RX7 74 "RollbackPairModel" "pAck" "[I") (by decide +kernel)) rfl dX7_spoil_120 ?_
    refine lv_iload hx hb dX7_spoil_123 (lv_at hl 0 rfl) ?_
    refine m_iald hx hb hK hP (k := 21) (by decide) (f := (S.1 22)) rfl (i := 12 * q) (by omega) (by decide) dX7_spoil_125 ?_
    refine m_iast hx hb hK hP hJ hS (k := 21) (by decide) (f := (S.1 22)) rfl (i := 12 * q) (by omega) (by decide) dX7_spoil_126 (fun H locs hP hS => ?_)
    rw [mm_up22] at hP
    refine lv_aload_n hx hb dX7_spoil_127 rfl (lv_at hl 1 rfl) ?_
    refine m_get hx hb hts inX7 hown hK hP (ci := 7) rfl (k := 0) (by decide) rfl 23 (by decide) (hts (.fieldLink RX7 77 "RollbackPairModel" "pFirst" "[I") (by decide +kernel)) rfl dX7_spoil_128 ?_
    refine lv_iload hx hb dX7_spoil_131 (lv_at hl 0 rfl) ?_
    refine lv_iload_n hx hb dX7_spoil_133 rfl (lv_at hl 3 rfl) ?_
    refine lv_iconst (v := nI 3) hx hb dX7_spoil_134 (by decide) ?_
    refine n_cmp_ne (tgt := 150) hx hb dX7_spoil_135 (by decide) (by omega) (by omega) (fun c_7 => ?_) (fun c_7 => absurd c_7 (by decide))
    refine lv_aload_n hx hb dX7_spoil_150 rfl (lv_at hl 1 rfl) ?_
    refine m_get hx hb hts inX7 hown hK hP (ci := 7) rfl (k := 0) (by decide) rfl 23 (by decide) (hts (.fieldLink RX7 77 "RollbackPairModel" "pFirst" "[I") (by decide +kernel)) rfl dX7_spoil_151 ?_
    refine lv_iload hx hb dX7_spoil_154 (lv_at hl 0 rfl) ?_
    refine m_iald hx hb hK hP (k := 22) (by decide) (f := (S.1 23)) rfl (i := 12 * q) (by omega) (by decide) dX7_spoil_156 ?_
    refine m_iast hx hb hK hP hJ hS (k := 22) (by decide) (f := (S.1 23)) rfl (i := 12 * q) (by omega) (by decide) dX7_spoil_157 (fun H locs hP hS => ?_)
    rw [mm_up23] at hP
    refine lv_aload_n hx hb dX7_spoil_158 rfl (lv_at hl 1 rfl) ?_
    refine m_get hx hb hts inX7 hown hK hP (ci := 7) rfl (k := 0) (by decide) rfl 24 (by decide) (hts (.fieldLink RX7 80 "RollbackPairModel" "pCount" "[I") (by decide +kernel)) rfl dX7_spoil_159 ?_
    refine lv_iload hx hb dX7_spoil_162 (lv_at hl 0 rfl) ?_
    refine lv_iload_n hx hb dX7_spoil_164 rfl (lv_at hl 3 rfl) ?_
    refine lv_iconst (v := nI 4) hx hb dX7_spoil_165 (by decide) ?_
    refine n_cmp_ne (tgt := 181) hx hb dX7_spoil_166 (by decide) (by omega) (by omega) (fun c_8 => ?_) (fun c_8 => absurd c_8 (by decide))
    refine lv_aload_n hx hb dX7_spoil_181 rfl (lv_at hl 1 rfl) ?_
    refine m_get hx hb hts inX7 hown hK hP (ci := 7) rfl (k := 0) (by decide) rfl 24 (by decide) (hts (.fieldLink RX7 80 "RollbackPairModel" "pCount" "[I") (by decide +kernel)) rfl dX7_spoil_182 ?_
    refine lv_iload hx hb dX7_spoil_185 (lv_at hl 0 rfl) ?_
    refine m_iald hx hb hK hP (k := 23) (by decide) (f := (S.1 24)) rfl (i := 12 * q) (by omega) (by decide) dX7_spoil_187 ?_
    refine m_iast hx hb hK hP hJ hS (k := 23) (by decide) (f := (S.1 24)) rfl (i := 12 * q) (by omega) (by decide) dX7_spoil_188 (fun H locs hP hS => ?_)
    rw [mm_up24] at hP
    refine lv_aload_n hx hb dX7_spoil_189 rfl (lv_at hl 1 rfl) ?_
    refine m_get hx hb hts inX7 hown hK hP (ci := 7) rfl (k := 0) (by decide) rfl 25 (by decide) (hts (.fieldLink RX7 83 "RollbackPairModel" "pBits" "[J") (by decide +kernel)) rfl dX7_spoil_190 ?_
    refine lv_iload hx hb dX7_spoil_193 (lv_at hl 0 rfl) ?_
    refine lv_iload_n hx hb dX7_spoil_195 rfl (lv_at hl 3 rfl) ?_
    refine lv_iconst (v := nI 5) hx hb dX7_spoil_196 (by decide) ?_
    refine n_cmp_ne (tgt := 217) hx hb dX7_spoil_197 (by decide) (by omega) (by omega) (fun c_9 => absurd c_9 (by decide)) (fun c_9 => ?_)
    refine lv_aload_n hx hb dX7_spoil_200 rfl (lv_at hl 1 rfl) ?_
    refine m_get hx hb hts inX7 hown hK hP (ci := 7) rfl (k := 0) (by decide) rfl 25 (by decide) (hts (.fieldLink RX7 83 "RollbackPairModel" "pBits" "[J") (by decide +kernel)) rfl dX7_spoil_201 ?_
    refine lv_iload hx hb dX7_spoil_204 (lv_at hl 0 rfl) ?_
    refine m_lald hx hb hK hP (k := 24) (by decide) (f := S.2.2.1) rfl (i := 12 * q) (by omega) (by decide) dX7_spoil_206 ?_
    refine lv_iload_n hx hb dX7_spoil_207 rfl (lv_at hl 4 rfl) ?_
    refine lv_i2l hx hb dX7_spoil_208 rfl ?_
    refine lv_ldc2 hx hb hown (hts (.constantLong RX7 153 (4294967295)) (by decide +kernel)) dX7_spoil_209 ?_
    refine lv_land hx hb dX7_spoil_212 ?_
    refine lv_lxor hx hb dX7_spoil_213 ?_
    refine lv_goto (tgt := 224) hx hb dX7_spoil_214 (by decide) ?_
    refine m_last hx hb hK hP hJ hS (k := 24) (by decide) (f := S.2.2.1) rfl (i := 12 * q) (by omega) (by decide) dX7_spoil_224 (fun H locs hP hS => ?_)
    rw [mm_up25] at hP
    refine lv_aload_n hx hb dX7_spoil_225 rfl (lv_at hl 1 rfl) ?_
    refine m_get hx hb hts inX7 hown hK hP (ci := 7) rfl (k := 0) (by decide) rfl 26 (by decide) (hts (.fieldLink RX7 87 "RollbackPairModel" "pCheck" "[I") (by decide +kernel)) rfl dX7_spoil_226 ?_
    refine lv_iload hx hb dX7_spoil_229 (lv_at hl 0 rfl) ?_
    refine lv_iload_n hx hb dX7_spoil_231 rfl (lv_at hl 3 rfl) ?_
    refine lv_bipush (v := nI 6) hx hb dX7_spoil_232 (by decide) ?_
    refine n_cmp_ne (tgt := 249) hx hb dX7_spoil_234 (by decide) (by omega) (by omega) (fun c_10 => ?_) (fun c_10 => absurd c_10 (by decide))
    refine lv_aload_n hx hb dX7_spoil_249 rfl (lv_at hl 1 rfl) ?_
    refine m_get hx hb hts inX7 hown hK hP (ci := 7) rfl (k := 0) (by decide) rfl 26 (by decide) (hts (.fieldLink RX7 87 "RollbackPairModel" "pCheck" "[I") (by decide +kernel)) rfl dX7_spoil_250 ?_
    refine lv_iload hx hb dX7_spoil_253 (lv_at hl 0 rfl) ?_
    refine m_iald hx hb hK hP (k := 25) (by decide) (f := (S.1 26)) rfl (i := 12 * q) (by omega) (by decide) dX7_spoil_255 ?_
    refine m_iast hx hb hK hP hJ hS (k := 25) (by decide) (f := (S.1 26)) rfl (i := 12 * q) (by omega) (by decide) dX7_spoil_256 (fun H locs hP hS => ?_)
    rw [mm_up26] at hP
    refine lv_iconst (v := nI 1) hx hb dX7_spoil_257 (by decide) ?_
    exact r_z hx hb hr hlocks hK hP hS dX7_spoil_258 (by first | rfl | decide) ⟨rfl, rfl⟩
  · refine lv_iload_n hx hb dX7_spoil_0 rfl (lv_at hl 1 rfl) ?_
    refine k_Si (As := [.int (nI q)]) (rest := []) ⟨hx, hb, hml, hown, hts⟩ hK hP hS Ad_le (c_isTwo l D cs ad 26 (mm ad cs d w S np ns) (nI q)) (va_cwS 1 hts gX7_spoil_X7_isTwo rfl rfl rfl (by decide +kernel) ⟨Nat.le_of_ble_eq_true rfl, Nat.le_of_ble_eq_true rfl⟩) rfl rfl hl.1 (Nat.le_of_ble_eq_true rfl) dX7_spoil_1 ⟨Nat.le_of_ble_eq_true rfl, Nat.le_of_ble_eq_true rfl⟩ (fun r_1 M1 H locs hpo hP hS _ _ => ?_)
    obtain ⟨rfl, rfl⟩ := hpo
    refine n_val (two_ok hq) ?_
    refine n_if_eq (tgt := 26) hx hb dX7_spoil_4 (by decide) (by omega) (fun c_2 => absurd c_2 (by decide)) (fun c_2 => ?_)
    refine lv_iload_n hx hb dX7_spoil_7 rfl (lv_at hl 2 rfl) ?_
    refine lv_if_lt (tgt := 26) hx hb dX7_spoil_8 (by decide) (fun c2 => absurd c2 (by decide)) (fun c2 => ?_)
    refine lv_iload_n hx hb dX7_spoil_11 rfl (lv_at hl 2 rfl) ?_
    refine lv_bipush (v := nI 6) hx hb dX7_spoil_12 (by decide) ?_
    refine n_cmp_gt (tgt := 26) hx hb dX7_spoil_14 (by decide) (by omega) (by omega) (fun c_3 => absurd c_3 (by decide)) (fun c_3 => ?_)
    refine lv_aload_n hx hb dX7_spoil_17 rfl (lv_at hl 0 rfl) ?_
    refine m_get hx hb hts inX7 hown hK hP (ci := 7) rfl (k := 0) (by decide) rfl 19 (by decide) (hts (.fieldLink RX7 65 "RollbackPairModel" "rows" "[I") (by decide +kernel)) rfl dX7_spoil_18 ?_
    refine lv_iload_n hx hb dX7_spoil_21 rfl (lv_at hl 1 rfl) ?_
    refine m_iald hx hb hK hP (k := 18) (by decide) (f := (S.1 19)) rfl (i := q) (by omega) (by decide) dX7_spoil_22 ?_
    refine n_val hr0 ?_
    refine n_if_ne (tgt := 28) hx hb dX7_spoil_23 (by decide) (by omega) (fun c4 => ?_) (fun c4 => absurd c4 (by omega))
    refine lv_bipush (v := nI 12) hx hb dX7_spoil_28 (by decide) ?_
    refine lv_iload_n hx hb dX7_spoil_30 rfl (lv_at hl 1 rfl) ?_
    refine n_mul hx hb dX7_spoil_31 ?_
    refine lv_istore (lv' := [(4, .int (nI (12 * q))), (0, .ref (ad 0)), (1, .int (nI q)), (2, .int (nI 6)), (3, .int bits)]) hx hb dX7_spoil_32 hl (by decide) rfl (fun ls hl => ?_)
    refine lv_aload_n hx hb dX7_spoil_34 rfl (lv_at hl 1 rfl) ?_
    refine m_get hx hb hts inX7 hown hK hP (ci := 7) rfl (k := 0) (by decide) rfl 20 (by decide) (hts (.fieldLink RX7 68 "RollbackPairModel" "pNumber" "[S") (by decide +kernel)) rfl dX7_spoil_35 ?_
    refine lv_iload hx hb dX7_spoil_38 (lv_at hl 0 rfl) ?_
    refine lv_iload_n hx hb dX7_spoil_40 rfl (lv_at hl 3 rfl) ?_
    refine n_if_ne (tgt := 57) hx hb dX7_spoil_41 (by decide) (by omega) (fun c_4 => ?_) (fun c_4 => absurd c_4 (by decide))
    refine lv_aload_n hx hb dX7_spoil_57 rfl (lv_at hl 1 rfl) ?_
    refine m_get hx hb hts inX7 hown hK hP (ci := 7) rfl (k := 0) (by decide) rfl 20 (by decide) (hts (.fieldLink RX7 68 "RollbackPairModel" "pNumber" "[S") (by decide +kernel)) rfl dX7_spoil_58 ?_
    refine lv_iload hx hb dX7_spoil_61 (lv_at hl 0 rfl) ?_
    refine m_sald hx hb hK hP (k := 19) (by decide) (f := (S.1 20)) rfl (i := 12 * q) (by omega) (by decide) dX7_spoil_63 ?_
    refine m_sast hx hb hK hP hJ hS (k := 19) (by decide) (f := (S.1 20)) rfl (i := 12 * q) (y := S.1 20 (12 * q)) (by omega) (by decide) (hsh _) dX7_spoil_64 (fun H locs hP hS => ?_)
    rw [mm_up20] at hP
    refine lv_aload_n hx hb dX7_spoil_65 rfl (lv_at hl 1 rfl) ?_
    refine m_get hx hb hts inX7 hown hK hP (ci := 7) rfl (k := 0) (by decide) rfl 21 (by decide) (hts (.fieldLink RX7 71 "RollbackPairModel" "pFrame" "[I") (by decide +kernel)) rfl dX7_spoil_66 ?_
    refine lv_iload hx hb dX7_spoil_69 (lv_at hl 0 rfl) ?_
    refine lv_iload_n hx hb dX7_spoil_71 rfl (lv_at hl 3 rfl) ?_
    refine lv_iconst (v := nI 1) hx hb dX7_spoil_72 (by decide) ?_
    refine n_cmp_ne (tgt := 88) hx hb dX7_spoil_73 (by decide) (by omega) (by omega) (fun c_5 => ?_) (fun c_5 => absurd c_5 (by decide))
    refine lv_aload_n hx hb dX7_spoil_88 rfl (lv_at hl 1 rfl) ?_
    refine m_get hx hb hts inX7 hown hK hP (ci := 7) rfl (k := 0) (by decide) rfl 21 (by decide) (hts (.fieldLink RX7 71 "RollbackPairModel" "pFrame" "[I") (by decide +kernel)) rfl dX7_spoil_89 ?_
    refine lv_iload hx hb dX7_spoil_92 (lv_at hl 0 rfl) ?_
    refine m_iald hx hb hK hP (k := 20) (by decide) (f := (S.1 21)) rfl (i := 12 * q) (by omega) (by decide) dX7_spoil_94 ?_
    refine m_iast hx hb hK hP hJ hS (k := 20) (by decide) (f := (S.1 21)) rfl (i := 12 * q) (by omega) (by decide) dX7_spoil_95 (fun H locs hP hS => ?_)
    rw [mm_up21] at hP
    refine lv_aload_n hx hb dX7_spoil_96 rfl (lv_at hl 1 rfl) ?_
    refine m_get hx hb hts inX7 hown hK hP (ci := 7) rfl (k := 0) (by decide) rfl 22 (by decide) (hts (.fieldLink RX7 74 "RollbackPairModel" "pAck" "[I") (by decide +kernel)) rfl dX7_spoil_97 ?_
    refine lv_iload hx hb dX7_spoil_100 (lv_at hl 0 rfl) ?_
    refine lv_iload_n hx hb dX7_spoil_102 rfl (lv_at hl 3 rfl) ?_
    refine lv_iconst (v := nI 2) hx hb dX7_spoil_103 (by decide) ?_
    refine n_cmp_ne (tgt := 119) hx hb dX7_spoil_104 (by decide) (by omega) (by omega) (fun c_6 => ?_) (fun c_6 => absurd c_6 (by decide))
    refine lv_aload_n hx hb dX7_spoil_119 rfl (lv_at hl 1 rfl) ?_
    refine m_get hx hb hts inX7 hown hK hP (ci := 7) rfl (k := 0) (by decide) rfl 22 (by decide) (hts (.fieldLink RX7 74 "RollbackPairModel" "pAck" "[I") (by decide +kernel)) rfl dX7_spoil_120 ?_
    refine lv_iload hx hb dX7_spoil_123 (lv_at hl 0 rfl) ?_
    refine m_iald hx hb hK hP (k := 21) (by decide) (f := (S.1 22)) rfl (i := 12 * q) (by omega) (by decide) dX7_spoil_125 ?_
    refine m_iast hx hb hK hP hJ hS (k := 21) (by decide) (f := (S.1 22)) rfl (i := 12 * q) (by omega) (by decide) dX7_spoil_126 (fun H locs hP hS => ?_)
    rw [mm_up22] at hP
    refine lv_aload_n hx hb dX7_spoil_127 rfl (lv_at hl 1 rfl) ?_
    refine m_get hx hb hts inX7 hown hK hP (ci := 7) rfl (k := 0) (by decide) rfl 23 (by decide) (hts (.fieldLink RX7 77 "RollbackPairModel" "pFirst" "[I") (by decide +kernel)) rfl dX7_spoil_128 ?_
    refine lv_iload hx hb dX7_spoil_131 (lv_at hl 0 rfl) ?_
    refine lv_iload_n hx hb dX7_spoil_133 rfl (lv_at hl 3 rfl) ?_
    refine lv_iconst (v := nI 3) hx hb dX7_spoil_134 (by decide) ?_
    refine n_cmp_ne (tgt := 150) hx hb dX7_spoil_135 (by decide) (by omega) (by omega) (fun c_7 => ?_) (fun c_7 => absurd c_7 (by decide))
    refine lv_aload_n hx hb dX7_spoil_150 rfl (lv_at hl 1 rfl) ?_
    refine m_get hx hb hts inX7 hown hK hP (ci := 7) rfl (k := 0) (by decide) rfl 23 (by decide) (hts (.fieldLink RX7 77 "RollbackPairModel" "pFirst" "[I") (by decide +kernel)) rfl dX7_spoil_151 ?_
    refine lv_iload hx hb dX7_spoil_154 (lv_at hl 0 rfl) ?_
    refine m_iald hx hb hK hP (k := 22) (by decide) (f := (S.1 23)) rfl (i := 12 * q) (by omega) (by decide) dX7_spoil_156 ?_
    refine m_iast hx hb hK hP hJ hS (k := 22) (by decide) (f := (S.1 23)) rfl (i := 12 * q) (by omega) (by decide) dX7_spoil_157 (fun H locs hP hS => ?_)
    rw [mm_up23] at hP
    refine lv_aload_n hx hb dX7_spoil_158 rfl (lv_at hl 1 rfl) ?_
    refine m_get hx hb hts inX7 hown hK hP (ci := 7) rfl (k := 0) (by decide) rfl 24 (by decide) (hts (.fieldLink RX7 80 "RollbackPairModel" "pCount" "[I") (by decide +kernel)) rfl dX7_spoil_159 ?_
    refine lv_iload hx hb dX7_spoil_162 (lv_at hl 0 rfl) ?_
    refine lv_iload_n hx hb dX7_spoil_164 rfl (lv_at hl 3 rfl) ?_
    refine lv_iconst (v := nI 4) hx hb dX7_spoil_165 (by decide) ?_
    refine n_cmp_ne (tgt := 181) hx hb dX7_spoil_166 (by decide) (by omega) (by omega) (fun c_8 => ?_) (fun c_8 => absurd c_8 (by decide))
    refine lv_aload_n hx hb dX7_spoil_181 rfl (lv_at hl 1 rfl) ?_
    refine m_get hx hb hts inX7 hown hK hP (ci := 7) rfl (k := 0) (by decide) rfl 24 (by decide) (hts (.fieldLink RX7 80 "RollbackPairModel" "pCount" "[I") (by decide +kernel)) rfl dX7_spoil_182 ?_
    refine lv_iload hx hb dX7_spoil_185 (lv_at hl 0 rfl) ?_
    refine m_iald hx hb hK hP (k := 23) (by decide) (f := (S.1 24)) rfl (i := 12 * q) (by omega) (by decide) dX7_spoil_187 ?_
    refine m_iast hx hb hK hP hJ hS (k := 23) (by decide) (f := (S.1 24)) rfl (i := 12 * q) (by omega) (by decide) dX7_spoil_188 (fun H locs hP hS => ?_)
    rw [mm_up24] at hP
    refine lv_aload_n hx hb dX7_spoil_189 rfl (lv_at hl 1 rfl) ?_
    refine m_get hx hb hts inX7 hown hK hP (ci := 7) rfl (k := 0) (by decide) rfl 25 (by decide) (hts (.fieldLink RX7 83 "RollbackPairModel" "pBits" "[J") (by decide +kernel)) rfl dX7_spoil_190 ?_
    refine lv_iload hx hb dX7_spoil_193 (lv_at hl 0 rfl) ?_
    refine lv_iload_n hx hb dX7_spoil_195 rfl (lv_at hl 3 rfl) ?_
    refine lv_iconst (v := nI 5) hx hb dX7_spoil_196 (by decide) ?_
    refine n_cmp_ne (tgt := 217) hx hb dX7_spoil_197 (by decide) (by omega) (by omega) (fun c_9 => ?_) (fun c_9 => absurd c_9 (by decide))
    refine lv_aload_n hx hb dX7_spoil_217 rfl (lv_at hl 1 rfl) ?_
    refine m_get hx hb hts inX7 hown hK hP (ci := 7) rfl (k := 0) (by decide) rfl 25 (by decide) (hts (.fieldLink RX7 83 "RollbackPairModel" "pBits" "[J") (by decide +kernel)) rfl dX7_spoil_218 ?_
    refine lv_iload hx hb dX7_spoil_221 (lv_at hl 0 rfl) ?_
    refine m_lald hx hb hK hP (k := 24) (by decide) (f := S.2.2.1) rfl (i := 12 * q) (by omega) (by decide) dX7_spoil_223 ?_
    refine m_last hx hb hK hP hJ hS (k := 24) (by decide) (f := S.2.2.1) rfl (i := 12 * q) (by omega) (by decide) dX7_spoil_224 (fun H locs hP hS => ?_)
    rw [mm_up25] at hP
    refine lv_aload_n hx hb dX7_spoil_225 rfl (lv_at hl 1 rfl) ?_
    refine m_get hx hb hts inX7 hown hK hP (ci := 7) rfl (k := 0) (by decide) rfl 26 (by decide) (hts (.fieldLink RX7 87 "RollbackPairModel" "pCheck" "[I") (by decide +kernel)) rfl dX7_spoil_226 ?_
    refine lv_iload hx hb dX7_spoil_229 (lv_at hl 0 rfl) ?_
    refine lv_iload_n hx hb dX7_spoil_231 rfl (lv_at hl 3 rfl) ?_
    refine lv_bipush (v := nI 6) hx hb dX7_spoil_232 (by decide) ?_
    refine n_cmp_ne (tgt := 249) hx hb dX7_spoil_234 (by decide) (by omega) (by omega) (fun c_10 => absurd c_10 (by decide)) (fun c_10 => ?_)
    refine lv_aload_n hx hb dX7_spoil_237 rfl (lv_at hl 1 rfl) ?_
    refine m_get hx hb hts inX7 hown hK hP (ci := 7) rfl (k := 0) (by decide) rfl 26 (by decide) (hts (.fieldLink RX7 87 "RollbackPairModel" "pCheck" "[I") (by decide +kernel)) rfl dX7_spoil_238 ?_
    refine lv_iload hx hb dX7_spoil_241 (lv_at hl 0 rfl) ?_
    refine m_iald hx hb hK hP (k := 25) (by decide) (f := (S.1 26)) rfl (i := 12 * q) (by omega) (by decide) dX7_spoil_243 ?_
    refine lv_iload_n hx hb dX7_spoil_244 rfl (lv_at hl 4 rfl) ?_
    refine lv_ixor hx hb dX7_spoil_245 ?_
    refine lv_goto (tgt := 256) hx hb dX7_spoil_246 (by decide) ?_
    refine m_iast hx hb hK hP hJ hS (k := 25) (by decide) (f := (S.1 26)) rfl (i := 12 * q) (by omega) (by decide) dX7_spoil_256 (fun H locs hP hS => ?_)
    rw [mm_up26] at hP
    refine lv_iconst (v := nI 1) hx hb dX7_spoil_257 (by decide) ?_
    exact r_z hx hb hr hlocks hK hP hS dX7_spoil_258 (by first | rfl | decide) ⟨rfl, rfl⟩
end
section
theorem dX1_learn_0 : decode cX1_learn 0 = .ok (.aload_n 0, 1) := by decide +kernel
theorem dX1_learn_1 : decode cX1_learn 1 = .ok (.getfield 7, 3) := by decide +kernel
theorem dX1_learn_4 : decode cX1_learn 4 = .ok (.aload_n 0, 1) := by decide +kernel
theorem dX1_learn_5 : decode cX1_learn 5 = .ok (.getfield 13, 3) := by decide +kernel
theorem dX1_learn_8 : decode cX1_learn 8 = .ok (.aload_n 0, 1) := by decide +kernel
theorem dX1_learn_9 : decode cX1_learn 9 = .ok (.getfield 7, 3) := by decide +kernel
theorem dX1_learn_12 : decode cX1_learn 12 = .ok (.arraylength, 1) := by decide +kernel
theorem dX1_learn_13 : decode cX1_learn 13 = .ok (.iconst 1, 1) := by decide +kernel
theorem dX1_learn_14 : decode cX1_learn 14 = .ok (.isub, 1) := by decide +kernel
theorem dX1_learn_15 : decode cX1_learn 15 = .ok (.iand, 1) := by decide +kernel
theorem dX1_learn_16 : decode cX1_learn 16 = .ok (.iload_n 1, 1) := by decide +kernel
theorem dX1_learn_17 : decode cX1_learn 17 = .ok (.i2b, 1) := by decide +kernel
theorem dX1_learn_18 : decode cX1_learn 18 = .ok (.bastore, 1) := by decide +kernel
theorem dX1_learn_19 : decode cX1_learn 19 = .ok (.aload_n 0, 1) := by decide +kernel
theorem dX1_learn_20 : decode cX1_learn 20 = .ok (.dup, 1) := by decide +kernel
theorem dX1_learn_21 : decode cX1_learn 21 = .ok (.getfield 13, 3) := by decide +kernel
theorem dX1_learn_24 : decode cX1_learn 24 = .ok (.iconst 1, 1) := by decide +kernel
theorem dX1_learn_25 : decode cX1_learn 25 = .ok (.iadd, 1) := by decide +kernel
theorem dX1_learn_26 : decode cX1_learn 26 = .ok (.putfield 13, 3) := by decide +kernel
theorem dX1_learn_29 : decode cX1_learn 29 = .ok (.return_, 1) := by decide +kernel
theorem dX1_use_0 : decode cX1_use 0 = .ok (.iload_n 1, 1) := by decide +kernel
theorem dX1_use_1 : decode cX1_use 1 = .ok (.aload_n 0, 1) := by decide +kernel
theorem dX1_use_2 : decode cX1_use 2 = .ok (.getfield 13, 3) := by decide +kernel
theorem dX1_use_5 : decode cX1_use 5 = .ok (.if_icmp .ge 18, 3) := by decide +kernel
theorem dX1_use_8 : decode cX1_use 8 = .ok (.aload_n 0, 1) := by decide +kernel
theorem dX1_use_9 : decode cX1_use 9 = .ok (.getfield 7, 3) := by decide +kernel
theorem dX1_use_12 : decode cX1_use 12 = .ok (.iload_n 1, 1) := by decide +kernel
theorem dX1_use_13 : decode cX1_use 13 = .ok (.aload_n 0, 1) := by decide +kernel
theorem dX1_use_14 : decode cX1_use 14 = .ok (.getfield 7, 3) := by decide +kernel
theorem dX1_use_17 : decode cX1_use 17 = .ok (.arraylength, 1) := by decide +kernel
theorem dX1_use_18 : decode cX1_use 18 = .ok (.iconst 1, 1) := by decide +kernel
theorem dX1_use_19 : decode cX1_use 19 = .ok (.isub, 1) := by decide +kernel
theorem dX1_use_20 : decode cX1_use 20 = .ok (.iand, 1) := by decide +kernel
theorem dX1_use_21 : decode cX1_use 21 = .ok (.baload, 1) := by decide +kernel
theorem dX1_use_22 : decode cX1_use 22 = .ok (.ireturn, 1) := by decide +kernel
theorem dX1_use_23 : decode cX1_use 23 = .ok (.aload_n 0, 1) := by decide +kernel
theorem dX1_use_24 : decode cX1_use 24 = .ok (.getfield 17, 3) := by decide +kernel
theorem dX1_use_27 : decode cX1_use 27 = .ok (.ifCond .ne 10, 3) := by decide +kernel
theorem dX1_use_30 : decode cX1_use 30 = .ok (.aload_n 0, 1) := by decide +kernel
theorem dX1_use_31 : decode cX1_use 31 = .ok (.getfield 13, 3) := by decide +kernel
theorem dX1_use_34 : decode cX1_use 34 = .ok (.ifCond .ne 5, 3) := by decide +kernel
theorem dX1_use_37 : decode cX1_use 37 = .ok (.iconst 0, 1) := by decide +kernel
theorem dX1_use_38 : decode cX1_use 38 = .ok (.ireturn, 1) := by decide +kernel
theorem dX1_use_39 : decode cX1_use 39 = .ok (.aload_n 0, 1) := by decide +kernel
theorem dX1_use_40 : decode cX1_use 40 = .ok (.getfield 7, 3) := by decide +kernel
theorem dX1_use_43 : decode cX1_use 43 = .ok (.aload_n 0, 1) := by decide +kernel
theorem dX1_use_44 : decode cX1_use 44 = .ok (.getfield 13, 3) := by decide +kernel
theorem dX1_use_47 : decode cX1_use 47 = .ok (.iconst 1, 1) := by decide +kernel
theorem dX1_use_48 : decode cX1_use 48 = .ok (.isub, 1) := by decide +kernel
theorem dX1_use_49 : decode cX1_use 49 = .ok (.aload_n 0, 1) := by decide +kernel
theorem dX1_use_50 : decode cX1_use 50 = .ok (.getfield 7, 3) := by decide +kernel
theorem dX1_use_53 : decode cX1_use 53 = .ok (.arraylength, 1) := by decide +kernel
theorem dX1_use_54 : decode cX1_use 54 = .ok (.iconst 1, 1) := by decide +kernel
theorem dX1_use_55 : decode cX1_use 55 = .ok (.isub, 1) := by decide +kernel
theorem dX1_use_56 : decode cX1_use 56 = .ok (.iand, 1) := by decide +kernel
theorem dX1_use_57 : decode cX1_use 57 = .ok (.baload, 1) := by decide +kernel
theorem dX1_use_58 : decode cX1_use 58 = .ok (.ireturn, 1) := by decide +kernel
set_option maxRecDepth 20000 in
theorem ggX5_follow_X5_move : GoodIn wsX5_follow wsX5_move := goodIn_r _ [9, 3, 10, 11, 12, 2, 13, 14, 19, 20, 21, 22] (by decide +kernel) (by decide +kernel)
set_option maxRecDepth 20000 in
theorem gX5_follow_X5_move : GoodIn wsX5_follow (wsV RX5 18 RX5 yX5_move wsX5_move) := goodIn_app (goodIn_of _ (by decide +kernel)) ggX5_follow_X5_move
set_option maxRecDepth 20000 in
theorem ggX5_follow_X5_bounceApart : GoodIn wsX5_follow wsX5_bounceApart := goodIn_r _ [18, 3, 2, 12, 1, 19, 20, 21, 22] (by decide +kernel) (by decide +kernel)
set_option maxRecDepth 20000 in
theorem gX5_follow_X5_bounceApart : GoodIn wsX5_follow (wsV RX5 26 RX5 yX5_bounceApart wsX5_bounceApart) := goodIn_app (goodIn_of _ (by decide +kernel)) ggX5_follow_X5_bounceApart
theorem dX5_follow_0 : decode cX5_follow 0 = .ok (.aload_n 0, 1) := by decide +kernel
theorem dX5_follow_1 : decode cX5_follow 1 = .ok (.aload_n 1, 1) := by decide +kernel
theorem dX5_follow_2 : decode cX5_follow 2 = .ok (.iconst 0, 1) := by decide +kernel
theorem dX5_follow_3 : decode cX5_follow 3 = .ok (.iload_n 2, 1) := by decide +kernel
theorem dX5_follow_4 : decode cX5_follow 4 = .ok (.invokevirtual 18, 3) := by decide +kernel
theorem dX5_follow_7 : decode cX5_follow 7 = .ok (.aload_n 0, 1) := by decide +kernel
theorem dX5_follow_8 : decode cX5_follow 8 = .ok (.aload_n 1, 1) := by decide +kernel
theorem dX5_follow_9 : decode cX5_follow 9 = .ok (.iconst 1, 1) := by decide +kernel
theorem dX5_follow_10 : decode cX5_follow 10 = .ok (.iload_n 3, 1) := by decide +kernel
theorem dX5_follow_11 : decode cX5_follow 11 = .ok (.invokevirtual 18, 3) := by decide +kernel
theorem dX5_follow_14 : decode cX5_follow 14 = .ok (.aload_n 0, 1) := by decide +kernel
theorem dX5_follow_15 : decode cX5_follow 15 = .ok (.aload_n 1, 1) := by decide +kernel
theorem dX5_follow_16 : decode cX5_follow 16 = .ok (.getfield 22, 3) := by decide +kernel
theorem dX5_follow_19 : decode cX5_follow 19 = .ok (.putfield 22, 3) := by decide +kernel
theorem dX5_follow_22 : decode cX5_follow 22 = .ok (.aload_n 0, 1) := by decide +kernel
theorem dX5_follow_23 : decode cX5_follow 23 = .ok (.getfield 7, 3) := by decide +kernel
theorem dX5_follow_26 : decode cX5_follow 26 = .ok (.iconst 1, 1) := by decide +kernel
theorem dX5_follow_27 : decode cX5_follow 27 = .ok (.faload, 1) := by decide +kernel
theorem dX5_follow_28 : decode cX5_follow 28 = .ok (.aload_n 0, 1) := by decide +kernel
theorem dX5_follow_29 : decode cX5_follow 29 = .ok (.getfield 7, 3) := by decide +kernel
theorem dX5_follow_32 : decode cX5_follow 32 = .ok (.iconst 0, 1) := by decide +kernel
theorem dX5_follow_33 : decode cX5_follow 33 = .ok (.faload, 1) := by decide +kernel
theorem dX5_follow_34 : decode cX5_follow 34 = .ok (.fsub, 1) := by decide +kernel
theorem dX5_follow_35 : decode cX5_follow 35 = .ok (.fconst 1, 1) := by decide +kernel
theorem dX5_follow_36 : decode cX5_follow 36 = .ok (.fcmp .g, 1) := by decide +kernel
theorem dX5_follow_37 : decode cX5_follow 37 = .ok (.ifCond .ge 7, 3) := by decide +kernel
theorem dX5_follow_40 : decode cX5_follow 40 = .ok (.aload_n 0, 1) := by decide +kernel
theorem dX5_follow_41 : decode cX5_follow 41 = .ok (.invokevirtual 26, 3) := by decide +kernel
theorem dX5_follow_44 : decode cX5_follow 44 = .ok (.aload_n 0, 1) := by decide +kernel
theorem dX5_follow_45 : decode cX5_follow 45 = .ok (.getfield 13, 3) := by decide +kernel
theorem dX5_follow_48 : decode cX5_follow 48 = .ok (.iconst 0, 1) := by decide +kernel
theorem dX5_follow_49 : decode cX5_follow 49 = .ok (.faload, 1) := by decide +kernel
theorem dX5_follow_50 : decode cX5_follow 50 = .ok (.f2d, 1) := by decide +kernel
theorem dX5_follow_51 : decode cX5_follow 51 = .ok (.dstore 4, 2) := by decide +kernel
theorem dX5_follow_53 : decode cX5_follow 53 = .ok (.aload_n 0, 1) := by decide +kernel
theorem dX5_follow_54 : decode cX5_follow 54 = .ok (.getfield 13, 3) := by decide +kernel
theorem dX5_follow_57 : decode cX5_follow 57 = .ok (.iconst 1, 1) := by decide +kernel
theorem dX5_follow_58 : decode cX5_follow 58 = .ok (.faload, 1) := by decide +kernel
theorem dX5_follow_59 : decode cX5_follow 59 = .ok (.f2d, 1) := by decide +kernel
theorem dX5_follow_60 : decode cX5_follow 60 = .ok (.dstore 6, 2) := by decide +kernel
theorem dX5_follow_62 : decode cX5_follow 62 = .ok (.aload_n 0, 1) := by decide +kernel
theorem dX5_follow_63 : decode cX5_follow 63 = .ok (.aload_n 1, 1) := by decide +kernel
theorem dX5_follow_64 : decode cX5_follow 64 = .ok (.getfield 29, 3) := by decide +kernel
theorem dX5_follow_67 : decode cX5_follow 67 = .ok (.dload 4, 2) := by decide +kernel
theorem dX5_follow_69 : decode cX5_follow 69 = .ok (.dload 4, 2) := by decide +kernel
theorem dX5_follow_71 : decode cX5_follow 71 = .ok (.dmul, 1) := by decide +kernel
theorem dX5_follow_72 : decode cX5_follow 72 = .ok (.dload 6, 2) := by decide +kernel
theorem dX5_follow_74 : decode cX5_follow 74 = .ok (.dload 6, 2) := by decide +kernel
theorem dX5_follow_76 : decode cX5_follow 76 = .ok (.dmul, 1) := by decide +kernel
theorem dX5_follow_77 : decode cX5_follow 77 = .ok (.dadd, 1) := by decide +kernel
theorem dX5_follow_78 : decode cX5_follow 78 = .ok (.dadd, 1) := by decide +kernel
theorem dX5_follow_79 : decode cX5_follow 79 = .ok (.putfield 29, 3) := by decide +kernel
theorem dX5_follow_82 : decode cX5_follow 82 = .ok (.return_, 1) := by decide +kernel
theorem dX5_move_0 : decode cX5_move 0 = .ok (.fconst 0, 1) := by decide +kernel
theorem dX5_move_1 : decode cX5_move 1 = .ok (.fstore 4, 2) := by decide +kernel
theorem dX5_move_3 : decode cX5_move 3 = .ok (.iload_n 3, 1) := by decide +kernel
theorem dX5_move_4 : decode cX5_move 4 = .ok (.iconst 1, 1) := by decide +kernel
theorem dX5_move_5 : decode cX5_move 5 = .ok (.iand, 1) := by decide +kernel
theorem dX5_move_6 : decode cX5_move 6 = .ok (.ifCond .eq 9, 3) := by decide +kernel
theorem dX5_move_9 : decode cX5_move 9 = .ok (.fload 4, 2) := by decide +kernel
theorem dX5_move_11 : decode cX5_move 11 = .ok (.fconst 1, 1) := by decide +kernel
theorem dX5_move_12 : decode cX5_move 12 = .ok (.fsub, 1) := by decide +kernel
theorem dX5_move_13 : decode cX5_move 13 = .ok (.fstore 4, 2) := by decide +kernel
theorem dX5_move_15 : decode cX5_move 15 = .ok (.iload_n 3, 1) := by decide +kernel
theorem dX5_move_16 : decode cX5_move 16 = .ok (.iconst 2, 1) := by decide +kernel
theorem dX5_move_17 : decode cX5_move 17 = .ok (.iand, 1) := by decide +kernel
theorem dX5_move_18 : decode cX5_move 18 = .ok (.ifCond .eq 9, 3) := by decide +kernel
theorem dX5_move_21 : decode cX5_move 21 = .ok (.fload 4, 2) := by decide +kernel
theorem dX5_move_23 : decode cX5_move 23 = .ok (.fconst 1, 1) := by decide +kernel
theorem dX5_move_24 : decode cX5_move 24 = .ok (.fadd, 1) := by decide +kernel
theorem dX5_move_25 : decode cX5_move 25 = .ok (.fstore 4, 2) := by decide +kernel
theorem dX5_move_27 : decode cX5_move 27 = .ok (.aload_n 1, 1) := by decide +kernel
theorem dX5_move_28 : decode cX5_move 28 = .ok (.getfield 13, 3) := by decide +kernel
theorem dX5_move_31 : decode cX5_move 31 = .ok (.iload_n 2, 1) := by decide +kernel
theorem dX5_move_32 : decode cX5_move 32 = .ok (.faload, 1) := by decide +kernel
theorem dX5_move_33 : decode cX5_move 33 = .ok (.ldc 33, 2) := by decide +kernel
theorem dX5_move_35 : decode cX5_move 35 = .ok (.fmul, 1) := by decide +kernel
theorem dX5_move_36 : decode cX5_move 36 = .ok (.fload 4, 2) := by decide +kernel
theorem dX5_move_38 : decode cX5_move 38 = .ok (.ldc 34, 2) := by decide +kernel
theorem dX5_move_40 : decode cX5_move 40 = .ok (.fmul, 1) := by decide +kernel
theorem dX5_move_41 : decode cX5_move 41 = .ok (.fadd, 1) := by decide +kernel
theorem dX5_move_42 : decode cX5_move 42 = .ok (.fstore 5, 2) := by decide +kernel
theorem dX5_move_44 : decode cX5_move 44 = .ok (.iload_n 3, 1) := by decide +kernel
theorem dX5_move_45 : decode cX5_move 45 = .ok (.iconst 4, 1) := by decide +kernel
theorem dX5_move_46 : decode cX5_move 46 = .ok (.iand, 1) := by decide +kernel
theorem dX5_move_47 : decode cX5_move 47 = .ok (.ifCond .eq 10, 3) := by decide +kernel
theorem dX5_move_50 : decode cX5_move 50 = .ok (.fload 5, 2) := by decide +kernel
theorem dX5_move_52 : decode cX5_move 52 = .ok (.ldc 35, 2) := by decide +kernel
theorem dX5_move_54 : decode cX5_move 54 = .ok (.fmul, 1) := by decide +kernel
theorem dX5_move_55 : decode cX5_move 55 = .ok (.fstore 5, 2) := by decide +kernel
theorem dX5_move_57 : decode cX5_move 57 = .ok (.aload_n 1, 1) := by decide +kernel
theorem dX5_move_58 : decode cX5_move 58 = .ok (.getfield 7, 3) := by decide +kernel
theorem dX5_move_61 : decode cX5_move 61 = .ok (.iload_n 2, 1) := by decide +kernel
theorem dX5_move_62 : decode cX5_move 62 = .ok (.faload, 1) := by decide +kernel
theorem dX5_move_63 : decode cX5_move 63 = .ok (.fload 5, 2) := by decide +kernel
theorem dX5_move_65 : decode cX5_move 65 = .ok (.fadd, 1) := by decide +kernel
theorem dX5_move_66 : decode cX5_move 66 = .ok (.fstore 6, 2) := by decide +kernel
theorem dX5_move_68 : decode cX5_move 68 = .ok (.fload 6, 2) := by decide +kernel
theorem dX5_move_70 : decode cX5_move 70 = .ok (.fconst 0, 1) := by decide +kernel
theorem dX5_move_71 : decode cX5_move 71 = .ok (.fcmp .g, 1) := by decide +kernel
theorem dX5_move_72 : decode cX5_move 72 = .ok (.ifCond .ge 19, 3) := by decide +kernel
theorem dX5_move_75 : decode cX5_move 75 = .ok (.fload 6, 2) := by decide +kernel
theorem dX5_move_77 : decode cX5_move 77 = .ok (.fneg, 1) := by decide +kernel
theorem dX5_move_78 : decode cX5_move 78 = .ok (.fstore 6, 2) := by decide +kernel
theorem dX5_move_80 : decode cX5_move 80 = .ok (.fload 5, 2) := by decide +kernel
theorem dX5_move_82 : decode cX5_move 82 = .ok (.fneg, 1) := by decide +kernel
theorem dX5_move_83 : decode cX5_move 83 = .ok (.ldc 35, 2) := by decide +kernel
theorem dX5_move_85 : decode cX5_move 85 = .ok (.fmul, 1) := by decide +kernel
theorem dX5_move_86 : decode cX5_move 86 = .ok (.fstore 5, 2) := by decide +kernel
theorem dX5_move_88 : decode cX5_move 88 = .ok (.goto 26, 3) := by decide +kernel
theorem dX5_move_91 : decode cX5_move 91 = .ok (.fload 6, 2) := by decide +kernel
theorem dX5_move_93 : decode cX5_move 93 = .ok (.ldc 36, 2) := by decide +kernel
theorem dX5_move_95 : decode cX5_move 95 = .ok (.fcmp .l, 1) := by decide +kernel
theorem dX5_move_96 : decode cX5_move 96 = .ok (.ifCond .le 18, 3) := by decide +kernel
theorem dX5_move_99 : decode cX5_move 99 = .ok (.ldc 37, 2) := by decide +kernel
theorem dX5_move_101 : decode cX5_move 101 = .ok (.fload 6, 2) := by decide +kernel
theorem dX5_move_103 : decode cX5_move 103 = .ok (.fsub, 1) := by decide +kernel
theorem dX5_move_104 : decode cX5_move 104 = .ok (.fstore 6, 2) := by decide +kernel
theorem dX5_move_106 : decode cX5_move 106 = .ok (.fload 5, 2) := by decide +kernel
theorem dX5_move_108 : decode cX5_move 108 = .ok (.fneg, 1) := by decide +kernel
theorem dX5_move_109 : decode cX5_move 109 = .ok (.ldc 35, 2) := by decide +kernel
theorem dX5_move_111 : decode cX5_move 111 = .ok (.fmul, 1) := by decide +kernel
theorem dX5_move_112 : decode cX5_move 112 = .ok (.fstore 5, 2) := by decide +kernel
theorem dX5_move_114 : decode cX5_move 114 = .ok (.aload_n 0, 1) := by decide +kernel
theorem dX5_move_115 : decode cX5_move 115 = .ok (.getfield 7, 3) := by decide +kernel
theorem dX5_move_118 : decode cX5_move 118 = .ok (.iload_n 2, 1) := by decide +kernel
theorem dX5_move_119 : decode cX5_move 119 = .ok (.fload 6, 2) := by decide +kernel
theorem dX5_move_121 : decode cX5_move 121 = .ok (.fastore, 1) := by decide +kernel
theorem dX5_move_122 : decode cX5_move 122 = .ok (.aload_n 0, 1) := by decide +kernel
theorem dX5_move_123 : decode cX5_move 123 = .ok (.getfield 13, 3) := by decide +kernel
theorem dX5_move_126 : decode cX5_move 126 = .ok (.iload_n 2, 1) := by decide +kernel
theorem dX5_move_127 : decode cX5_move 127 = .ok (.fload 5, 2) := by decide +kernel
theorem dX5_move_129 : decode cX5_move 129 = .ok (.fastore, 1) := by decide +kernel
theorem dX5_move_130 : decode cX5_move 130 = .ok (.return_, 1) := by decide +kernel
theorem dX5_bounceApart_0 : decode cX5_bounceApart 0 = .ok (.aload_n 0, 1) := by decide +kernel
theorem dX5_bounceApart_1 : decode cX5_bounceApart 1 = .ok (.getfield 13, 3) := by decide +kernel
theorem dX5_bounceApart_4 : decode cX5_bounceApart 4 = .ok (.iconst 0, 1) := by decide +kernel
theorem dX5_bounceApart_5 : decode cX5_bounceApart 5 = .ok (.faload, 1) := by decide +kernel
theorem dX5_bounceApart_6 : decode cX5_bounceApart 6 = .ok (.fstore_n 1, 1) := by decide +kernel
theorem dX5_bounceApart_7 : decode cX5_bounceApart 7 = .ok (.aload_n 0, 1) := by decide +kernel
theorem dX5_bounceApart_8 : decode cX5_bounceApart 8 = .ok (.getfield 13, 3) := by decide +kernel
theorem dX5_bounceApart_11 : decode cX5_bounceApart 11 = .ok (.iconst 0, 1) := by decide +kernel
theorem dX5_bounceApart_12 : decode cX5_bounceApart 12 = .ok (.aload_n 0, 1) := by decide +kernel
theorem dX5_bounceApart_13 : decode cX5_bounceApart 13 = .ok (.getfield 13, 3) := by decide +kernel
theorem dX5_bounceApart_16 : decode cX5_bounceApart 16 = .ok (.iconst 1, 1) := by decide +kernel
theorem dX5_bounceApart_17 : decode cX5_bounceApart 17 = .ok (.faload, 1) := by decide +kernel
theorem dX5_bounceApart_18 : decode cX5_bounceApart 18 = .ok (.fastore, 1) := by decide +kernel
theorem dX5_bounceApart_19 : decode cX5_bounceApart 19 = .ok (.aload_n 0, 1) := by decide +kernel
theorem dX5_bounceApart_20 : decode cX5_bounceApart 20 = .ok (.getfield 13, 3) := by decide +kernel
theorem dX5_bounceApart_23 : decode cX5_bounceApart 23 = .ok (.iconst 1, 1) := by decide +kernel
theorem dX5_bounceApart_24 : decode cX5_bounceApart 24 = .ok (.fload_n 1, 1) := by decide +kernel
theorem dX5_bounceApart_25 : decode cX5_bounceApart 25 = .ok (.fastore, 1) := by decide +kernel
theorem dX5_bounceApart_26 : decode cX5_bounceApart 26 = .ok (.aload_n 0, 1) := by decide +kernel
theorem dX5_bounceApart_27 : decode cX5_bounceApart 27 = .ok (.getfield 7, 3) := by decide +kernel
theorem dX5_bounceApart_30 : decode cX5_bounceApart 30 = .ok (.iconst 0, 1) := by decide +kernel
theorem dX5_bounceApart_31 : decode cX5_bounceApart 31 = .ok (.faload, 1) := by decide +kernel
theorem dX5_bounceApart_32 : decode cX5_bounceApart 32 = .ok (.aload_n 0, 1) := by decide +kernel
theorem dX5_bounceApart_33 : decode cX5_bounceApart 33 = .ok (.getfield 7, 3) := by decide +kernel
theorem dX5_bounceApart_36 : decode cX5_bounceApart 36 = .ok (.iconst 1, 1) := by decide +kernel
theorem dX5_bounceApart_37 : decode cX5_bounceApart 37 = .ok (.faload, 1) := by decide +kernel
theorem dX5_bounceApart_38 : decode cX5_bounceApart 38 = .ok (.fadd, 1) := by decide +kernel
theorem dX5_bounceApart_39 : decode cX5_bounceApart 39 = .ok (.ldc 35, 2) := by decide +kernel
theorem dX5_bounceApart_41 : decode cX5_bounceApart 41 = .ok (.fmul, 1) := by decide +kernel
theorem dX5_bounceApart_42 : decode cX5_bounceApart 42 = .ok (.fstore_n 2, 1) := by decide +kernel
theorem dX5_bounceApart_43 : decode cX5_bounceApart 43 = .ok (.aload_n 0, 1) := by decide +kernel
theorem dX5_bounceApart_44 : decode cX5_bounceApart 44 = .ok (.getfield 7, 3) := by decide +kernel
theorem dX5_bounceApart_47 : decode cX5_bounceApart 47 = .ok (.iconst 0, 1) := by decide +kernel
theorem dX5_bounceApart_48 : decode cX5_bounceApart 48 = .ok (.fload_n 2, 1) := by decide +kernel
theorem dX5_bounceApart_49 : decode cX5_bounceApart 49 = .ok (.ldc 35, 2) := by decide +kernel
theorem dX5_bounceApart_51 : decode cX5_bounceApart 51 = .ok (.fsub, 1) := by decide +kernel
theorem dX5_bounceApart_52 : decode cX5_bounceApart 52 = .ok (.fastore, 1) := by decide +kernel
theorem dX5_bounceApart_53 : decode cX5_bounceApart 53 = .ok (.aload_n 0, 1) := by decide +kernel
theorem dX5_bounceApart_54 : decode cX5_bounceApart 54 = .ok (.getfield 7, 3) := by decide +kernel
theorem dX5_bounceApart_57 : decode cX5_bounceApart 57 = .ok (.iconst 1, 1) := by decide +kernel
theorem dX5_bounceApart_58 : decode cX5_bounceApart 58 = .ok (.fload_n 2, 1) := by decide +kernel
theorem dX5_bounceApart_59 : decode cX5_bounceApart 59 = .ok (.ldc 35, 2) := by decide +kernel
theorem dX5_bounceApart_61 : decode cX5_bounceApart 61 = .ok (.fadd, 1) := by decide +kernel
theorem dX5_bounceApart_62 : decode cX5_bounceApart 62 = .ok (.fastore, 1) := by decide +kernel
theorem dX5_bounceApart_63 : decode cX5_bounceApart 63 = .ok (.aload_n 0, 1) := by decide +kernel
theorem dX5_bounceApart_64 : decode cX5_bounceApart 64 = .ok (.dup, 1) := by decide +kernel
theorem dX5_bounceApart_65 : decode cX5_bounceApart 65 = .ok (.getfield 22, 3) := by decide +kernel
theorem dX5_bounceApart_68 : decode cX5_bounceApart 68 = .ok (.iconst 1, 1) := by decide +kernel
theorem dX5_bounceApart_69 : decode cX5_bounceApart 69 = .ok (.iadd, 1) := by decide +kernel
theorem dX5_bounceApart_70 : decode cX5_bounceApart 70 = .ok (.putfield 22, 3) := by decide +kernel
theorem dX5_bounceApart_73 : decode cX5_bounceApart 73 = .ok (.return_, 1) := by decide +kernel
theorem dX5_total_0 : decode cX5_total 0 = .ok (.bipush 17, 2) := by decide +kernel
theorem dX5_total_2 : decode cX5_total 2 = .ok (.istore_n 1, 1) := by decide +kernel
theorem dX5_total_3 : decode cX5_total 3 = .ok (.iconst 0, 1) := by decide +kernel
theorem dX5_total_4 : decode cX5_total 4 = .ok (.istore_n 2, 1) := by decide +kernel
theorem dX5_total_5 : decode cX5_total 5 = .ok (.iload_n 2, 1) := by decide +kernel
theorem dX5_total_6 : decode cX5_total 6 = .ok (.iconst 2, 1) := by decide +kernel
theorem dX5_total_7 : decode cX5_total 7 = .ok (.if_icmp .ge 41, 3) := by decide +kernel
theorem dX5_total_10 : decode cX5_total 10 = .ok (.iload_n 1, 1) := by decide +kernel
theorem dX5_total_11 : decode cX5_total 11 = .ok (.bipush 31, 2) := by decide +kernel
theorem dX5_total_13 : decode cX5_total 13 = .ok (.imul, 1) := by decide +kernel
theorem dX5_total_14 : decode cX5_total 14 = .ok (.aload_n 0, 1) := by decide +kernel
theorem dX5_total_15 : decode cX5_total 15 = .ok (.getfield 7, 3) := by decide +kernel
theorem dX5_total_18 : decode cX5_total 18 = .ok (.iload_n 2, 1) := by decide +kernel
theorem dX5_total_19 : decode cX5_total 19 = .ok (.faload, 1) := by decide +kernel
theorem dX5_total_20 : decode cX5_total 20 = .ok (.ldc 38, 2) := by decide +kernel
theorem dX5_total_22 : decode cX5_total 22 = .ok (.fmul, 1) := by decide +kernel
theorem dX5_total_23 : decode cX5_total 23 = .ok (.f2i, 1) := by decide +kernel
theorem dX5_total_24 : decode cX5_total 24 = .ok (.iadd, 1) := by decide +kernel
theorem dX5_total_25 : decode cX5_total 25 = .ok (.istore_n 1, 1) := by decide +kernel
theorem dX5_total_26 : decode cX5_total 26 = .ok (.iload_n 1, 1) := by decide +kernel
theorem dX5_total_27 : decode cX5_total 27 = .ok (.bipush 31, 2) := by decide +kernel
theorem dX5_total_29 : decode cX5_total 29 = .ok (.imul, 1) := by decide +kernel
theorem dX5_total_30 : decode cX5_total 30 = .ok (.aload_n 0, 1) := by decide +kernel
theorem dX5_total_31 : decode cX5_total 31 = .ok (.getfield 13, 3) := by decide +kernel
theorem dX5_total_34 : decode cX5_total 34 = .ok (.iload_n 2, 1) := by decide +kernel
theorem dX5_total_35 : decode cX5_total 35 = .ok (.faload, 1) := by decide +kernel
theorem dX5_total_36 : decode cX5_total 36 = .ok (.ldc 38, 2) := by decide +kernel
theorem dX5_total_38 : decode cX5_total 38 = .ok (.fmul, 1) := by decide +kernel
theorem dX5_total_39 : decode cX5_total 39 = .ok (.f2i, 1) := by decide +kernel
theorem dX5_total_40 : decode cX5_total 40 = .ok (.iadd, 1) := by decide +kernel
theorem dX5_total_41 : decode cX5_total 41 = .ok (.istore_n 1, 1) := by decide +kernel
theorem dX5_total_42 : decode cX5_total 42 = .ok (.iinc 2 1, 3) := by decide +kernel
theorem dX5_total_45 : decode cX5_total 45 = .ok (.goto (-40), 3) := by decide +kernel
theorem dX5_total_48 : decode cX5_total 48 = .ok (.iload_n 1, 1) := by decide +kernel
theorem dX5_total_49 : decode cX5_total 49 = .ok (.bipush 31, 2) := by decide +kernel
theorem dX5_total_51 : decode cX5_total 51 = .ok (.imul, 1) := by decide +kernel
theorem dX5_total_52 : decode cX5_total 52 = .ok (.aload_n 0, 1) := by decide +kernel
theorem dX5_total_53 : decode cX5_total 53 = .ok (.getfield 22, 3) := by decide +kernel
theorem dX5_total_56 : decode cX5_total 56 = .ok (.iadd, 1) := by decide +kernel
theorem dX5_total_57 : decode cX5_total 57 = .ok (.istore_n 1, 1) := by decide +kernel
theorem dX5_total_58 : decode cX5_total 58 = .ok (.iload_n 1, 1) := by decide +kernel
theorem dX5_total_59 : decode cX5_total 59 = .ok (.bipush 31, 2) := by decide +kernel
theorem dX5_total_61 : decode cX5_total 61 = .ok (.imul, 1) := by decide +kernel
theorem dX5_total_62 : decode cX5_total 62 = .ok (.aload_n 0, 1) := by decide +kernel
theorem dX5_total_63 : decode cX5_total 63 = .ok (.getfield 29, 3) := by decide +kernel
theorem dX5_total_66 : decode cX5_total 66 = .ok (.ldc2_w 39, 3) := by decide +kernel
theorem dX5_total_69 : decode cX5_total 69 = .ok (.dmul, 1) := by decide +kernel
theorem dX5_total_70 : decode cX5_total 70 = .ok (.d2i, 1) := by decide +kernel
theorem dX5_total_71 : decode cX5_total 71 = .ok (.iadd, 1) := by decide +kernel
theorem dX5_total_72 : decode cX5_total 72 = .ok (.ireturn, 1) := by decide +kernel
theorem dX0_before_0 : decode cX0_before 0 = .ok (.aload_n 0, 1) := by decide +kernel
theorem dX0_before_1 : decode cX0_before 1 = .ok (.getfield 13, 3) := by decide +kernel
theorem dX0_before_4 : decode cX0_before 4 = .ok (.iload_n 1, 1) := by decide +kernel
theorem dX0_before_5 : decode cX0_before 5 = .ok (.bipush 15, 2) := by decide +kernel
theorem dX0_before_7 : decode cX0_before 7 = .ok (.iand, 1) := by decide +kernel
theorem dX0_before_8 : decode cX0_before 8 = .ok (.aaload, 1) := by decide +kernel
theorem dX0_before_9 : decode cX0_before 9 = .ok (.areturn, 1) := by decide +kernel
set_option maxRecDepth 20000 in
theorem ggX0_play_X0_before : GoodIn wsX0_play wsX0_before := goodIn_r _ [6, 7, 30, 31] (by decide +kernel) (by decide +kernel)
set_option maxRecDepth 20000 in
theorem gX0_play_X0_before : GoodIn wsX0_play (wsV RX0 23 RX0 yX0_before wsX0_before) := goodIn_app (goodIn_of _ (by decide +kernel)) ggX0_play_X0_before
set_option maxRecDepth 20000 in
theorem ggX0_play_X5_follow : GoodIn wsX0_play wsX5_follow := goodIn_r _ [12, 13, 14, 15, 16, 17, 18, 19, 11, 20, 21, 22, 23, 24, 25, 26, 27, 28, 29, 32, 33, 34, 35] (by decide +kernel) (by decide +kernel)
set_option maxRecDepth 20000 in
theorem gX0_play_X5_follow : GoodIn wsX0_play (wsV RX0 27 RX5 yX5_follow wsX5_follow) := goodIn_app (goodIn_of _ (by decide +kernel)) ggX0_play_X5_follow
theorem dX0_play_0 : decode cX0_play 0 = .ok (.aload_n 0, 1) := by decide +kernel
theorem dX0_play_1 : decode cX0_play 1 = .ok (.getfield 19, 3) := by decide +kernel
theorem dX0_play_4 : decode cX0_play 4 = .ok (.iconst 0, 1) := by decide +kernel
theorem dX0_play_5 : decode cX0_play 5 = .ok (.aaload, 1) := by decide +kernel
theorem dX0_play_6 : decode cX0_play 6 = .ok (.iload_n 1, 1) := by decide +kernel
theorem dX0_play_7 : decode cX0_play 7 = .ok (.bipush 15, 2) := by decide +kernel
theorem dX0_play_9 : decode cX0_play 9 = .ok (.iand, 1) := by decide +kernel
theorem dX0_play_10 : decode cX0_play 10 = .ok (.iload_n 2, 1) := by decide +kernel
theorem dX0_play_11 : decode cX0_play 11 = .ok (.i2b, 1) := by decide +kernel
theorem dX0_play_12 : decode cX0_play 12 = .ok (.bastore, 1) := by decide +kernel
theorem dX0_play_13 : decode cX0_play 13 = .ok (.aload_n 0, 1) := by decide +kernel
theorem dX0_play_14 : decode cX0_play 14 = .ok (.getfield 19, 3) := by decide +kernel
theorem dX0_play_17 : decode cX0_play 17 = .ok (.iconst 1, 1) := by decide +kernel
theorem dX0_play_18 : decode cX0_play 18 = .ok (.aaload, 1) := by decide +kernel
theorem dX0_play_19 : decode cX0_play 19 = .ok (.iload_n 1, 1) := by decide +kernel
theorem dX0_play_20 : decode cX0_play 20 = .ok (.bipush 15, 2) := by decide +kernel
theorem dX0_play_22 : decode cX0_play 22 = .ok (.iand, 1) := by decide +kernel
theorem dX0_play_23 : decode cX0_play 23 = .ok (.iload_n 3, 1) := by decide +kernel
theorem dX0_play_24 : decode cX0_play 24 = .ok (.i2b, 1) := by decide +kernel
theorem dX0_play_25 : decode cX0_play 25 = .ok (.bastore, 1) := by decide +kernel
theorem dX0_play_26 : decode cX0_play 26 = .ok (.aload_n 0, 1) := by decide +kernel
theorem dX0_play_27 : decode cX0_play 27 = .ok (.iload_n 1, 1) := by decide +kernel
theorem dX0_play_28 : decode cX0_play 28 = .ok (.iconst 1, 1) := by decide +kernel
theorem dX0_play_29 : decode cX0_play 29 = .ok (.iadd, 1) := by decide +kernel
theorem dX0_play_30 : decode cX0_play 30 = .ok (.invokevirtual 23, 3) := by decide +kernel
theorem dX0_play_33 : decode cX0_play 33 = .ok (.aload_n 0, 1) := by decide +kernel
theorem dX0_play_34 : decode cX0_play 34 = .ok (.iload_n 1, 1) := by decide +kernel
theorem dX0_play_35 : decode cX0_play 35 = .ok (.invokevirtual 23, 3) := by decide +kernel
theorem dX0_play_38 : decode cX0_play 38 = .ok (.iload_n 2, 1) := by decide +kernel
theorem dX0_play_39 : decode cX0_play 39 = .ok (.iload_n 3, 1) := by decide +kernel
theorem dX0_play_40 : decode cX0_play 40 = .ok (.invokevirtual 27, 3) := by decide +kernel
theorem dX0_play_43 : decode cX0_play 43 = .ok (.return_, 1) := by decide +kernel
theorem dX0_inputPlayed_0 : decode cX0_inputPlayed 0 = .ok (.iload_n 2, 1) := by decide +kernel
theorem dX0_inputPlayed_1 : decode cX0_inputPlayed 1 = .ok (.ifCond .lt 16, 3) := by decide +kernel
theorem dX0_inputPlayed_4 : decode cX0_inputPlayed 4 = .ok (.iload_n 2, 1) := by decide +kernel
theorem dX0_inputPlayed_5 : decode cX0_inputPlayed 5 = .ok (.iload_n 3, 1) := by decide +kernel
theorem dX0_inputPlayed_6 : decode cX0_inputPlayed 6 = .ok (.if_icmp .ge 11, 3) := by decide +kernel
theorem dX0_inputPlayed_9 : decode cX0_inputPlayed 9 = .ok (.iload_n 3, 1) := by decide +kernel
theorem dX0_inputPlayed_10 : decode cX0_inputPlayed 10 = .ok (.iload_n 2, 1) := by decide +kernel
theorem dX0_inputPlayed_11 : decode cX0_inputPlayed 11 = .ok (.isub, 1) := by decide +kernel
theorem dX0_inputPlayed_12 : decode cX0_inputPlayed 12 = .ok (.bipush 15, 2) := by decide +kernel
theorem dX0_inputPlayed_14 : decode cX0_inputPlayed 14 = .ok (.if_icmp .le 5, 3) := by decide +kernel
theorem dX0_inputPlayed_17 : decode cX0_inputPlayed 17 = .ok (.iconst (-1), 1) := by decide +kernel
theorem dX0_inputPlayed_18 : decode cX0_inputPlayed 18 = .ok (.ireturn, 1) := by decide +kernel
theorem dX0_inputPlayed_19 : decode cX0_inputPlayed 19 = .ok (.aload_n 0, 1) := by decide +kernel
theorem dX0_inputPlayed_20 : decode cX0_inputPlayed 20 = .ok (.getfield 19, 3) := by decide +kernel
theorem dX0_inputPlayed_23 : decode cX0_inputPlayed 23 = .ok (.iload_n 1, 1) := by decide +kernel
theorem dX0_inputPlayed_24 : decode cX0_inputPlayed 24 = .ok (.aaload, 1) := by decide +kernel
theorem dX0_inputPlayed_25 : decode cX0_inputPlayed 25 = .ok (.iload_n 2, 1) := by decide +kernel
theorem dX0_inputPlayed_26 : decode cX0_inputPlayed 26 = .ok (.bipush 15, 2) := by decide +kernel
theorem dX0_inputPlayed_28 : decode cX0_inputPlayed 28 = .ok (.iand, 1) := by decide +kernel
theorem dX0_inputPlayed_29 : decode cX0_inputPlayed 29 = .ok (.baload, 1) := by decide +kernel
theorem dX0_inputPlayed_30 : decode cX0_inputPlayed 30 = .ok (.ireturn, 1) := by decide +kernel
set_option maxRecDepth 20000 in
theorem ggX0_sumBefore_X0_before : GoodIn wsX0_sumBefore wsX0_before := goodIn_r _ [5, 6, 18, 19] (by decide +kernel) (by decide +kernel)
set_option maxRecDepth 20000 in
theorem gX0_sumBefore_X0_before : GoodIn wsX0_sumBefore (wsV RX0 23 RX0 yX0_before wsX0_before) := goodIn_app (goodIn_of _ (by decide +kernel)) ggX0_sumBefore_X0_before
set_option maxRecDepth 20000 in
theorem ggX0_sumBefore_X5_total : GoodIn wsX0_sumBefore wsX5_total := goodIn_r _ [11, 12, 13, 14, 15, 16, 17, 20, 21, 22, 23] (by decide +kernel) (by decide +kernel)
set_option maxRecDepth 20000 in
theorem gX0_sumBefore_X5_total : GoodIn wsX0_sumBefore (wsV RX0 31 RX5 yX5_total wsX5_total) := goodIn_app (goodIn_of _ (by decide +kernel)) ggX0_sumBefore_X5_total
theorem dX0_sumBefore_0 : decode cX0_sumBefore 0 = .ok (.iload_n 1, 1) := by decide +kernel
theorem dX0_sumBefore_1 : decode cX0_sumBefore 1 = .ok (.ifCond .lt 16, 3) := by decide +kernel
theorem dX0_sumBefore_4 : decode cX0_sumBefore 4 = .ok (.iload_n 1, 1) := by decide +kernel
theorem dX0_sumBefore_5 : decode cX0_sumBefore 5 = .ok (.iload_n 2, 1) := by decide +kernel
theorem dX0_sumBefore_6 : decode cX0_sumBefore 6 = .ok (.if_icmp .gt 11, 3) := by decide +kernel
theorem dX0_sumBefore_9 : decode cX0_sumBefore 9 = .ok (.iload_n 2, 1) := by decide +kernel
theorem dX0_sumBefore_10 : decode cX0_sumBefore 10 = .ok (.iload_n 1, 1) := by decide +kernel
theorem dX0_sumBefore_11 : decode cX0_sumBefore 11 = .ok (.isub, 1) := by decide +kernel
theorem dX0_sumBefore_12 : decode cX0_sumBefore 12 = .ok (.bipush 15, 2) := by decide +kernel
theorem dX0_sumBefore_14 : decode cX0_sumBefore 14 = .ok (.if_icmp .le 5, 3) := by decide +kernel
theorem dX0_sumBefore_17 : decode cX0_sumBefore 17 = .ok (.iconst 0, 1) := by decide +kernel
theorem dX0_sumBefore_18 : decode cX0_sumBefore 18 = .ok (.ireturn, 1) := by decide +kernel
theorem dX0_sumBefore_19 : decode cX0_sumBefore 19 = .ok (.aload_n 0, 1) := by decide +kernel
theorem dX0_sumBefore_20 : decode cX0_sumBefore 20 = .ok (.iload_n 1, 1) := by decide +kernel
theorem dX0_sumBefore_21 : decode cX0_sumBefore 21 = .ok (.invokevirtual 23, 3) := by decide +kernel
theorem dX0_sumBefore_24 : decode cX0_sumBefore 24 = .ok (.invokevirtual 31, 3) := by decide +kernel
theorem dX0_sumBefore_27 : decode cX0_sumBefore 27 = .ok (.ireturn, 1) := by decide +kernel
end
section
section RAA
variable {p : Program} {l : Launch} {e : Env} {R : Room} {s : State} {m : MethodId} {args : Array Value} {below : List Frame} {meth : Method} {c : Code} {H : Heap} {locs : List Loc} {cells slots : Nat} {Q : State → Prop}
variable {cc : ByteArray} {pc : Nat} {ls : Array Slot} {rest : List Value} {D : va_G} {cs : Nat → ClassId} {ad : Nat → Nat} {n : Nat} {M : Nat → va_E} {H0 : Heap}
/-- a place of a row of rows of bytes -/
theorem m_aaldA (hx : p.tables.exec = Jvm.exec) (hb : c.code = cc) (hK : va_K D vwCl (tysC cs) s) (hP : va_P D vwCl (sg ad n M) H) (t : Nat) (ht : (tysC cs)[t]? = some (cs t, .array .byte)) {k : Nat} (hk : k < n) {N : Nat} {f : Nat → Option Nat} (hM : M k = eQ cs t N f) {i : Nat} (hi : i < N) (hN : N < 2 ^ 31) {r : Option Nat} (hr : f i = r) (hdg : decode cc pc = .ok (.aaload, 1))
    (kk : W p l e R s m args below meth c H locs cells slots Q (F0 m (pc + 1) ls (va_rf r :: rest))) : W p l e R s m args below meth c H locs cells slots Q (F0 m pc ls (.int (nI i) :: .ref (ad k) :: rest)) := by
  have hin := nI_in' hi hN
  have hlt : (nI i).toNatClampNeg < N := Nat.not_le.mp fun q => hin (Or.inr q)
  have hcl : (nI i).toNatClampNeg = i := nI_clamp (Nat.lt_trans hi hN)
  exact W.aald (v := va_rf r) (ty := .array .byte) hx hb (hP k _ (sg_atE hk hM)) ((hK.2 t _ ht).1 N (fun j => va_rf (f j))) rfl (fun q => by cases q) (by show ¬ (nI i < 0 ∨ (arrV _ _ _).slots.size ≤ _); rw [arrV_size]; exact hin) (by show (arrV _ _ _).slots[_]? = _; rw [arrV_read _ _ hlt, hcl, hr]) rfl rfl hdg kk
end RAA
theorem and_mod {c b N : Nat} (hN : N = 2 ^ b) (hb : b ≤ 30) (hc : c < 2 ^ 31) : nI c &&& nI (N - 1) = nI (c % N) := by
  subst hN
  have h1 : 2 ^ b ≤ 2 ^ 30 := Nat.pow_le_pow_right (by decide) hb
  exact pk_andN (by omega) b (by rw [pk_tn (by omega)])
set_option maxHeartbeats 4000000 in
set_option maxRecDepth 100000 in
/-- Inputs.learn(x) -/
theorem c_learn (l : Launch) (D : va_G) (cs : Nat → ClassId) (ad : Nat → Nat) (n : Nat) (hJ : Inj ad n) (M : Nat → va_E) (k k2 N b ct : Nat) (g : Nat → Int32) (ed : Int32) (hk : k < n) (hk2 : k2 < n) (hne : k ≠ k2) (hN : N = 2 ^ b) (hb0 : b ≤ 20) (hct : ct < 2 ^ 30) (h1 : M k = .inr (1, [.ref (ad k2), .int (nI ct), .int ed])) (h2 : M k2 = eB cs N g) (x : Int32) (hx8 : x.toInt8.toInt32 = x) : CTv l yX1_learn wsX1_learn ({ frames := 0, cells := 0, slots := 0, locals := 0 }) D cs ad n M [.ref (ad k), .int x] (fun M2 => M2 = va_up (va_up M k2 (eB cs N (upd g (ct % N) x))) k (.inr (1, [.ref (ad k2), .int (nI (ct + 1)), .int ed]))) := by
  refine Met.ofW (cc := cX1_learn) (maxL := 2) (ret := none) (by decide) rfl ?_
  intro p e s m args below meth c s₁ B hml hv
  obtain ⟨rfl, hP, hK⟩ := hv
  have hx := B.exec
  have hb := B.bytes
  have hr := B.returns
  have hts := atoms_spec (ws := wsX1_learn) B.pre
  have hown : s.vm.findClass RX1 = some m.cls := findClass_of_methodNamed B.named
  have hlocks := B.notSynchronized
  have hS : va_S (Ad ad n) s.heap s.heap [] := va_S.rf
  have hl := lv_entry ([.ref (ad k), .int x]) (n := 2) (Nat.le_of_ble_eq_true rfl)
  rw [lg_entry_eq]
  generalize (lg_sl ([.ref (ad k), .int x]) ++ List.replicate (2 - (lg_sl ([.ref (ad k), .int x])).length) Slot.unset).toArray = ls at hl ⊢
  have hl : lv_has ls 2 [(0, .ref (ad k)), (1, .int x)] := hl
  have inX1 : ∀ w ∈ u_ws RX1 TX1 3, w ∈ wsX1_learn := fun w h => List.mem_cons_of_mem _ (List.mem_append_right _ h)
  have hNb : N ≤ 2 ^ 20 := by rw [hN]; exact Nat.pow_le_pow_right (by decide) hb0
  have hN0 : 0 < N := by rw [hN]; exact Nat.two_pow_pos _
  refine lv_aload_n hx hb dX1_learn_0 rfl (lv_at hl 0 rfl) ?_
  refine m_get hx hb hts inX1 hown hK hP (ci := 1) rfl (k := k) (by omega) h1 0 (by decide) (hts (.fieldLink RX1 7 "RollbackPair$Inputs" "kept" "[B") (by decide +kernel)) rfl dX1_learn_1 ?_
  refine lv_aload_n hx hb dX1_learn_4 rfl (lv_at hl 0 rfl) ?_
  refine m_get hx hb hts inX1 hown hK hP (ci := 1) rfl (k := k) (by omega) h1 1 (by decide) (hts (.fieldLink RX1 13 "RollbackPair$Inputs" "count" "I") (by decide +kernel)) rfl dX1_learn_5 ?_
  refine lv_aload_n hx hb dX1_learn_8 rfl (lv_at hl 0 rfl) ?_
  refine m_get hx hb hts inX1 hown hK hP (ci := 1) rfl (k := k) (by omega) h1 0 (by decide) (hts (.fieldLink RX1 7 "RollbackPair$Inputs" "kept" "[B") (by decide +kernel)) rfl dX1_learn_9 ?_
  refine m_alen hx hb hK hP 1 rfl (k := k2) (by omega) h2 dX1_learn_12 ?_
  refine lv_iconst (v := nI 1) hx hb dX1_learn_13 (by decide) ?_
  refine n_sub hx hb (by omega) dX1_learn_14 ?_
  refine n_and (d := ct % N) hx hb (and_mod hN (by omega) (by omega)) dX1_learn_15 ?_
  refine lv_iload_n hx hb dX1_learn_16 rfl (lv_at hl 1 rfl) ?_
  refine lv_i2b hx hb dX1_learn_17 rfl ?_
  refine n_val hx8 ?_
  refine m_bast hx hb hK hP hJ hS (k := k2) (by omega) (f := g) h2 (i := ct % N) (y := x) (Nat.mod_lt _ hN0) (by omega) hx8 dX1_learn_18 (fun H locs hP hS => ?_)
  obtain ⟨M_1, eM_1⟩ : ∃ z, z = va_up M k2 (eB cs N (upd g (ct % N) x)) := ⟨_, rfl⟩
  rw [← eM_1] at hP
  have h1_1 : M_1 k = .inr (1, [.ref (ad k2), .int (nI ct), .int ed]) := by rw [eM_1]; exact (va_up_ne _ _ (by omega)).trans h1
  have h1_2 : M_1 k2 = eB cs N (upd g (ct % N) x) := by rw [eM_1]; exact va_up_self _ _ _
  refine lv_aload_n hx hb dX1_learn_19 rfl (lv_at hl 0 rfl) ?_
  refine lv_dup hx hb dX1_learn_20 rfl ?_
  refine m_get hx hb hts inX1 hown hK hP (ci := 1) rfl (k := k) (by omega) h1_1 1 (by decide) (hts (.fieldLink RX1 13 "RollbackPair$Inputs" "count" "I") (by decide +kernel)) rfl dX1_learn_21 ?_
  refine lv_iconst (v := nI 1) hx hb dX1_learn_24 (by decide) ?_
  refine n_add hx hb dX1_learn_25 ?_
  refine m_put hx hb hts inX1 tyX1 tyX1_ok nmX1 hown hK hP hJ hS (ci := 1) rfl (k := k) (by omega) h1_1 1 (by decide) (hts (.fieldLink RX1 13 "RollbackPair$Inputs" "count" "I") (by decide +kernel)) rfl rfl rfl (Nat.le_of_ble_eq_true rfl) (fs' := [.ref (ad k2), .int (nI (ct + 1)), .int ed]) rfl dX1_learn_26 (fun H locs hP hS => ?_)
  obtain ⟨M_2, eM_2⟩ : ∃ z, z = va_up M_1 k (.inr (1, [.ref (ad k2), .int (nI (ct + 1)), .int ed])) := ⟨_, rfl⟩
  rw [← eM_2] at hP
  have h2_1 : M_2 k = .inr (1, [.ref (ad k2), .int (nI (ct + 1)), .int ed]) := by rw [eM_2]; exact va_up_self _ _ _
  have h2_2 : M_2 k2 = eB cs N (upd g (ct % N) x) := by rw [eM_2]; exact (va_up_ne _ _ (by omega)).trans h1_2
  exact r_v hx hb hr hlocks hK hP hS dX1_learn_29 (by rw [eM_2, eM_1])
/-- the input that is used for a frame, out of a row of N places that holds the first ct ones -/
def inU (N ct : Nat) (g : Nat → Int32) (e : Int32) (f : Nat) : Int32 := if f < ct then g (f % N) else if ¬ e = 0 ∨ ct = 0 then nI 0 else g ((ct - 1) % N)
set_option maxHeartbeats 4000000 in
set_option maxRecDepth 100000 in
/-- Inputs.use(f) -/
theorem c_use (l : Launch) (D : va_G) (cs : Nat → ClassId) (ad : Nat → Nat) (n : Nat) (hJ : Inj ad n) (M : Nat → va_E) (k k2 N b ct : Nat) (g : Nat → Int32) (ed : Int32) (hk : k < n) (hk2 : k2 < n) (hne : k ≠ k2) (hN : N = 2 ^ b) (hb0 : b ≤ 20) (hct : ct < 2 ^ 30) (h1 : M k = .inr (1, [.ref (ad k2), .int (nI ct), .int ed])) (h2 : M k2 = eB cs N g) (f : Nat) (hf : f < 2 ^ 30) : CTi l yX1_use wsX1_use ({ frames := 0, cells := 0, slots := 0, locals := 0 }) D cs ad n M [.ref (ad k), .int (nI f)] (fun r M2 => M2 = M ∧ r = inU N ct g ed f) := by
  refine Met.ofW (cc := cX1_use) (maxL := 2) (ret := (some .int)) (by decide) rfl ?_
  intro p e s m args below meth c s₁ B hml hv
  obtain ⟨rfl, hP, hK⟩ := hv
  have hx := B.exec
  have hb := B.bytes
  have hr := B.returns
  have hts := atoms_spec (ws := wsX1_use) B.pre
  have hown : s.vm.findClass RX1 = some m.cls := findClass_of_methodNamed B.named
  have hlocks := B.notSynchronized
  have hS : va_S (Ad ad n) s.heap s.heap [] := va_S.rf
  have hl := lv_entry ([.ref (ad k), .int (nI f)]) (n := 2) (Nat.le_of_ble_eq_true rfl)
  rw [lg_entry_eq]
  generalize (lg_sl ([.ref (ad k), .int (nI f)]) ++ List.replicate (2 - (lg_sl ([.ref (ad k), .int (nI f)])).length) Slot.unset).toArray = ls at hl ⊢
  have hl : lv_has ls 2 [(0, .ref (ad k)), (1, .int (nI f))] := hl
  have inX1 : ∀ w ∈ u_ws RX1 TX1 3, w ∈ wsX1_use := fun w h => List.mem_cons_of_mem _ (List.mem_append_right _ h)
  have hNb : N ≤ 2 ^ 20 := by rw [hN]; exact Nat.pow_le_pow_right (by decide) hb0
  have hN0 : 0 < N := by rw [hN]; exact Nat.two_pow_pos _
  refine lv_iload_n hx hb dX1_use_0 rfl (lv_at hl 1 rfl) ?_
  refine lv_aload_n hx hb dX1_use_1 rfl (lv_at hl 0 rfl) ?_
  refine m_get hx hb hts inX1 hown hK hP (ci := 1) rfl (k := k) (by omega) h1 1 (by decide) (hts (.fieldLink RX1 13 "RollbackPair$Inputs" "count" "I") (by decide +kernel)) rfl dX1_use_2 ?_
  refine n_cmp_ge (tgt := 23) hx hb dX1_use_5 (by decide) (by omega) (by omega) (fun c1 => ?_) (fun c1 => ?_)
  · refine lv_aload_n hx hb dX1_use_23 rfl (lv_at hl 0 rfl) ?_
    refine m_get hx hb hts inX1 hown hK hP (ci := 1) rfl (k := k) (by omega) h1 2 (by decide) (hts (.fieldLink RX1 17 "RollbackPair$Inputs" "ended" "Z") (by decide +kernel)) rfl dX1_use_24 ?_
    refine lv_if_ne (tgt := 37) hx hb dX1_use_27 (by decide) (fun c2 => ?_) (fun c2 => ?_)
    · refine lv_iconst (v := nI 0) hx hb dX1_use_37 (by decide) ?_
      exact r_i hx hb hr hlocks hK hP hS dX1_use_38 ⟨rfl, by unfold inU; rw [if_neg (by omega), if_pos (Or.inl c2)]⟩
    · refine lv_aload_n hx hb dX1_use_30 rfl (lv_at hl 0 rfl) ?_
      refine m_get hx hb hts inX1 hown hK hP (ci := 1) rfl (k := k) (by omega) h1 1 (by decide) (hts (.fieldLink RX1 13 "RollbackPair$Inputs" "count" "I") (by decide +kernel)) rfl dX1_use_31 ?_
      refine n_if_ne (tgt := 39) hx hb dX1_use_34 (by decide) (by omega) (fun c3 => ?_) (fun c3 => ?_)
      · refine lv_aload_n hx hb dX1_use_39 rfl (lv_at hl 0 rfl) ?_
        refine m_get hx hb hts inX1 hown hK hP (ci := 1) rfl (k := k) (by omega) h1 0 (by decide) (hts (.fieldLink RX1 7 "RollbackPair$Inputs" "kept" "[B") (by decide +kernel)) rfl dX1_use_40 ?_
        refine lv_aload_n hx hb dX1_use_43 rfl (lv_at hl 0 rfl) ?_
        refine m_get hx hb hts inX1 hown hK hP (ci := 1) rfl (k := k) (by omega) h1 1 (by decide) (hts (.fieldLink RX1 13 "RollbackPair$Inputs" "count" "I") (by decide +kernel)) rfl dX1_use_44 ?_
        refine lv_iconst (v := nI 1) hx hb dX1_use_47 (by decide) ?_
        refine n_sub hx hb (by omega) dX1_use_48 ?_
        refine lv_aload_n hx hb dX1_use_49 rfl (lv_at hl 0 rfl) ?_
        refine m_get hx hb hts inX1 hown hK hP (ci := 1) rfl (k := k) (by omega) h1 0 (by decide) (hts (.fieldLink RX1 7 "RollbackPair$Inputs" "kept" "[B") (by decide +kernel)) rfl dX1_use_50 ?_
        refine m_alen hx hb hK hP 1 rfl (k := k2) (by omega) h2 dX1_use_53 ?_
        refine lv_iconst (v := nI 1) hx hb dX1_use_54 (by decide) ?_
        refine n_sub hx hb (by omega) dX1_use_55 ?_
        refine n_and (d := (ct - 1) % N) hx hb (and_mod hN (by omega) (by omega)) dX1_use_56 ?_
        refine m_bald hx hb hK hP (k := k2) (by omega) (f := g) h2 (i := (ct - 1) % N) (Nat.mod_lt _ hN0) (by omega) dX1_use_57 ?_
        exact r_i hx hb hr hlocks hK hP hS dX1_use_58 ⟨rfl, by unfold inU; rw [if_neg (by omega), if_neg (by intro z; rcases z with z | z; exact z c2; exact c3 z)]⟩
      · refine lv_iconst (v := nI 0) hx hb dX1_use_37 (by decide) ?_
        exact r_i hx hb hr hlocks hK hP hS dX1_use_38 ⟨rfl, by unfold inU; rw [if_neg (by omega), if_pos (Or.inr c3)]⟩
  · refine lv_aload_n hx hb dX1_use_8 rfl (lv_at hl 0 rfl) ?_
    refine m_get hx hb hts inX1 hown hK hP (ci := 1) rfl (k := k) (by omega) h1 0 (by decide) (hts (.fieldLink RX1 7 "RollbackPair$Inputs" "kept" "[B") (by decide +kernel)) rfl dX1_use_9 ?_
    refine lv_iload_n hx hb dX1_use_12 rfl (lv_at hl 1 rfl) ?_
    refine lv_aload_n hx hb dX1_use_13 rfl (lv_at hl 0 rfl) ?_
    refine m_get hx hb hts inX1 hown hK hP (ci := 1) rfl (k := k) (by omega) h1 0 (by decide) (hts (.fieldLink RX1 7 "RollbackPair$Inputs" "kept" "[B") (by decide +kernel)) rfl dX1_use_14 ?_
    refine m_alen hx hb hK hP 1 rfl (k := k2) (by omega) h2 dX1_use_17 ?_
    refine lv_iconst (v := nI 1) hx hb dX1_use_18 (by decide) ?_
    refine n_sub hx hb (by omega) dX1_use_19 ?_
    refine n_and (d := f % N) hx hb (and_mod hN (by omega) (by omega)) dX1_use_20 ?_
    refine m_bald hx hb hK hP (k := k2) (by omega) (f := g) h2 (i := f % N) (Nat.mod_lt _ hN0) (by omega) dX1_use_21 ?_
    exact r_i hx hb hr hlocks hK hP hS dX1_use_22 ⟨rfl, (if_pos c1).symm⟩
end
section
theorem ps_00 : ∀ j, j < 8 → nI j &&& nI 1 = 0 → nI j &&& nI 2 = 0 → FP.fconst0 = psh (nI j) := by decide +kernel
theorem ps_01 : ∀ j, j < 8 → nI j &&& nI 1 = 0 → ¬ nI j &&& nI 2 = 0 → FP.fadd FP.fconst0 FP.fconst1 = psh (nI j) := by decide +kernel
theorem ps_10 : ∀ j, j < 8 → ¬ nI j &&& nI 1 = 0 → nI j &&& nI 2 = 0 → FP.fsub FP.fconst0 FP.fconst1 = psh (nI j) := by decide +kernel
theorem ps_11 : ∀ j, j < 8 → ¬ nI j &&& nI 1 = 0 → ¬ nI j &&& nI 2 = 0 → FP.fadd (FP.fsub FP.fconst0 FP.fconst1) FP.fconst1 = psh (nI j) := by decide +kernel
theorem br_0 : ∀ j, j < 8 → nI j &&& nI 4 = 0 → ¬ nI j &&& nI 4 = nI 4 := by decide +kernel
theorem br_1 : ∀ j, j < 8 → ¬ nI j &&& nI 4 = 0 → nI j &&& nI 4 = nI 4 := by decide +kernel
theorem b8 : ∀ j, j < 8 → (nI j).toInt8.toInt32 = nI j := by decide +kernel
theorem n_fs : vf_n32 (FP.fsub FP.fconst0 FP.fconst1) := by unfold vf_n32; decide +kernel
theorem n_fa : vf_n32 (FP.fadd FP.fconst0 FP.fconst1) := by unfold vf_n32; decide +kernel
theorem n_fb : vf_n32 (FP.fadd (FP.fsub FP.fconst0 FP.fconst1) FP.fconst1) := by unfold vf_n32; decide +kernel
/-- a State in the place k, its rows behind it -/
abbrev oSt (ad : Nat → Nat) (k : Nat) (h : Int32) (wk : UInt64) : va_E := .inr (5, [.ref (ad (k + 1)), .ref (ad (k + 2)), .int h, .double wk])
set_option maxHeartbeats 4000000 in
set_option maxRecDepth 100000 in
/-- State.move(before, pl, j) -/
theorem c_smove (l : Launch) (D : va_G) (cs : Nat → ClassId) (ad : Nat → Nat) (n : Nat) (hJ : Inj ad n) (M : Nat → va_E) (k : Nat) (X V : Nat → UInt32) (h : Int32) (wk : UInt64) (hk : k + 3 ≤ n) (h1 : M k = oSt ad k h wk) (h2 : M (k + 1) = eF cs 2 X) (h3 : M (k + 2) = eF cs 2 V) (b : Nat) (BX BV : Nat → UInt32) (bh : Int32) (bw : UInt64) (hb0 : b + 3 ≤ n) (hkb : k + 3 ≤ b ∨ b + 3 ≤ k) (g1 : M b = oSt ad b bh bw) (g2 : M (b + 1) = eF cs 2 BX) (g3 : M (b + 2) = eF cs 2 BV) (pl j : Nat) (hpl : pl < 2) (hj : j < 8) (hX : Fb (BX pl) (-(8 * e8)) (264 * e8)) (hV : Fb (BV pl) (-(32 * e8)) (32 * e8)) : CTv l yX5_move wsX5_move ({ frames := 0, cells := 0, slots := 0, locals := 0 }) D cs ad n M [.ref (ad k), .ref (ad b), .int (nI pl), .int (nI j)] (fun M2 => M2 (k + 1) = eF cs 2 (vf_upd X pl (mv (BX pl) (BV pl) (nI j)).1) ∧ M2 (k + 2) = eF cs 2 (vf_upd V pl (mv (BX pl) (BV pl) (nI j)).2) ∧ ∀ i, i ≠ k + 1 → i ≠ k + 2 → M2 i = M i) := by
  refine Met.ofW (cc := cX5_move) (maxL := 7) (ret := none) (by decide) rfl ?_
  intro p e s m args below meth c s₁ B hml hv
  obtain ⟨rfl, hP, hK⟩ := hv
  have hx := B.exec
  have hb := B.bytes
  have hr := B.returns
  have hts := atoms_spec (ws := wsX5_move) B.pre
  have hown : s.vm.findClass RX5 = some m.cls := findClass_of_methodNamed B.named
  have hlocks := B.notSynchronized
  have hS : va_S (Ad ad n) s.heap s.heap [] := va_S.rf
  have hl := lv_entry ([.ref (ad k), .ref (ad b), .int (nI pl), .int (nI j)]) (n := 7) (Nat.le_of_ble_eq_true rfl)
  rw [lg_entry_eq]
  generalize (lg_sl ([.ref (ad k), .ref (ad b), .int (nI pl), .int (nI j)]) ++ List.replicate (7 - (lg_sl ([.ref (ad k), .ref (ad b), .int (nI pl), .int (nI j)])).length) Slot.unset).toArray = ls at hl ⊢
  have hl : lv_has ls 7 [(0, .ref (ad k)), (1, .ref (ad b)), (2, .int (nI pl)), (3, .int (nI j))] := hl
  have inX5 : ∀ w ∈ u_ws RX5 TX5 4, w ∈ wsX5_move := fun w h => List.mem_cons_of_mem _ (List.mem_append_right _ h)
  refine jn (fun (z : UInt32) ls => z = psh (nI j) ∧ lv_has ls 7 [(4, .float z), (0, .ref (ad k)), (1, .ref (ad b)), (2, .int (nI pl)), (3, .int (nI j))]) 27 (fun _ => []) (fun z ls hz => ?_) (fun J => ?_)
  · obtain ⟨rfl, hl⟩ := hz
    refine jn (fun (z : UInt32) ls => z = mvS (BV pl) (nI j) ∧ lv_has ls 7 [(5, .float z), (0, .ref (ad k)), (1, .ref (ad b)), (2, .int (nI pl)), (3, .int (nI j))]) 57 (fun _ => []) (fun z ls hz => ?_) (fun J => ?_)
    · obtain ⟨rfl, hl⟩ := hz
      refine lv_aload_n hx hb dX5_move_57 rfl (lv_at hl 2 rfl) ?_
      refine m_get hx hb hts inX5 hown hK hP (ci := 5) rfl (k := b) (by omega) g1 0 (by decide) (hts (.fieldLink RX5 7 "RollbackPair$State" "places" "[F") (by decide +kernel)) rfl dX5_move_58 ?_
      refine lv_iload_n hx hb dX5_move_61 rfl (lv_at hl 3 rfl) ?_
      refine m_fald hx hb hK hP (k := (b + 1)) (by omega) (f := BX) g2 (i := pl) (by omega) (by decide) dX5_move_62 ?_
      refine lv_fload hx hb dX5_move_63 (lv_at hl 0 rfl) ?_
      refine lv_fadd hx hb dX5_move_65 (mv_x hX (mv_4 hV (nI j))).n ?_
      refine lv_fstore (lv' := [(6, .float (FP.fadd (BX pl) (mvS (BV pl) (nI j)))), (5, .float (mvS (BV pl) (nI j))), (0, .ref (ad k)), (1, .ref (ad b)), (2, .int (nI pl)), (3, .int (nI j))]) hx hb dX5_move_66 hl (by decide) rfl (fun ls hl => ?_)
      refine lv_fload hx hb dX5_move_68 (lv_at hl 0 rfl) ?_
      refine lv_fconst0 hx hb dX5_move_70 ?_
      refine lv_fcmp hx hb dX5_move_71 ?_
      refine lv_if_ge (tgt := 91) hx hb dX5_move_72 (by decide) (fun c1 => ?_) (fun c1 => ?_)
      · refine lv_fload hx hb dX5_move_91 (lv_at hl 0 rfl) ?_
        refine lv_ldcf hx hb hown (hts (.constantFloat RX5 36 (1107296256)) (by decide +kernel)) dX5_move_93 ?_
        refine lv_fcmp hx hb dX5_move_95 ?_
        refine lv_if_le (tgt := 114) hx hb dX5_move_96 (by decide) (fun c2 => ?_) (fun c2 => ?_)
        · refine lv_aload_n hx hb dX5_move_114 rfl (lv_at hl 2 rfl) ?_
          refine m_get hx hb hts inX5 hown hK hP (ci := 5) rfl (k := k) (by omega) h1 0 (by decide) (hts (.fieldLink RX5 7 "RollbackPair$State" "places" "[F") (by decide +kernel)) rfl dX5_move_115 ?_
          refine lv_iload_n hx hb dX5_move_118 rfl (lv_at hl 4 rfl) ?_
          refine lv_fload hx hb dX5_move_119 (lv_at hl 0 rfl) ?_
          refine m_fast hx hb hK hP hJ hS (k := (k + 1)) (by omega) (f := X) h2 (i := pl) (by omega) (by decide) dX5_move_121 (fun H locs hP hS => ?_)
          obtain ⟨M_1, eM_1⟩ : ∃ z, z = va_up M (k + 1) (eF cs 2 (vf_upd X pl (FP.fadd (BX pl) (mvS (BV pl) (nI j))))) := ⟨_, rfl⟩
          rw [← eM_1] at hP
          have h1_1 : M_1 k = .inr (5, [.ref (ad (k + 1)), .ref (ad (k + 2)), .int h, .double wk]) := by rw [eM_1]; exact (va_up_ne _ _ (by omega)).trans h1
          have h1_2 : M_1 (k + 1) = eF cs 2 (vf_upd X pl (FP.fadd (BX pl) (mvS (BV pl) (nI j)))) := by rw [eM_1]; exact va_up_self _ _ _
          have h1_3 : M_1 (k + 2) = eF cs 2 V := by rw [eM_1]; exact (va_up_ne _ _ (by omega)).trans h3
          have h1_4 : M_1 b = .inr (5, [.ref (ad (b + 1)), .ref (ad (b + 2)), .int bh, .double bw]) := by rw [eM_1]; exact (va_up_ne _ _ (by omega)).trans g1
          have h1_5 : M_1 (b + 1) = eF cs 2 BX := by rw [eM_1]; exact (va_up_ne _ _ (by omega)).trans g2
          have h1_6 : M_1 (b + 2) = eF cs 2 BV := by rw [eM_1]; exact (va_up_ne _ _ (by omega)).trans g3
          refine lv_aload_n hx hb dX5_move_122 rfl (lv_at hl 2 rfl) ?_
          refine m_get hx hb hts inX5 hown hK hP (ci := 5) rfl (k := k) (by omega) h1_1 1 (by decide) (hts (.fieldLink RX5 13 "RollbackPair$State" "speeds" "[F") (by decide +kernel)) rfl dX5_move_123 ?_
          refine lv_iload_n hx hb dX5_move_126 rfl (lv_at hl 4 rfl) ?_
          refine lv_fload hx hb dX5_move_127 (lv_at hl 1 rfl) ?_
          refine m_fast hx hb hK hP hJ hS (k := (k + 2)) (by omega) (f := V) h1_3 (i := pl) (by omega) (by decide) dX5_move_129 (fun H locs hP hS => ?_)
          obtain ⟨M_2, eM_2⟩ : ∃ z, z = va_up M_1 (k + 2) (eF cs 2 (vf_upd V pl (mvS (BV pl) (nI j)))) := ⟨_, rfl⟩
          rw [← eM_2] at hP
          have h2_1 : M_2 k = .inr (5, [.ref (ad (k + 1)), .ref (ad (k + 2)), .int h, .double wk]) := by rw [eM_2]; exact (va_up_ne _ _ (by omega)).trans h1_1
          have h2_2 : M_2 (k + 1) = eF cs 2 (vf_upd X pl (FP.fadd (BX pl) (mvS (BV pl) (nI j)))) := by rw [eM_2]; exact (va_up_ne _ _ (by omega)).trans h1_2
          have h2_3 : M_2 (k + 2) = eF cs 2 (vf_upd V pl (mvS (BV pl) (nI j))) := by rw [eM_2]; exact va_up_self _ _ _
          have h2_4 : M_2 b = .inr (5, [.ref (ad (b + 1)), .ref (ad (b + 2)), .int bh, .double bw]) := by rw [eM_2]; exact (va_up_ne _ _ (by omega)).trans h1_4
          have h2_5 : M_2 (b + 1) = eF cs 2 BX := by rw [eM_2]; exact (va_up_ne _ _ (by omega)).trans h1_5
          have h2_6 : M_2 (b + 2) = eF cs 2 BV := by rw [eM_2]; exact (va_up_ne _ _ (by omega)).trans h1_6
          exact r_v hx hb hr hlocks hK hP hS dX5_move_130 ⟨by rw [mv_e3 c1 c2]; exact h2_2, by rw [mv_e3 c1 c2]; exact h2_3, fun i q1 q2 => by rw [eM_2, va_up_ne _ _ (by omega), eM_1, va_up_ne _ _ (by omega)]⟩
        · refine lv_ldcf hx hb hown (hts (.constantFloat RX5 37 (1115684864)) (by decide +kernel)) dX5_move_99 ?_
          refine lv_fload hx hb dX5_move_101 (lv_at hl 0 rfl) ?_
          refine lv_fsub hx hb dX5_move_103 (mv_64 (mv_x hX (mv_4 hV (nI j))) (mv_gt (mv_x hX (mv_4 hV (nI j))).1 c2)).n ?_
          refine lv_fstore (lv' := [(6, .float (FP.fsub 1115684864 (FP.fadd (BX pl) (mvS (BV pl) (nI j))))), (5, .float (mvS (BV pl) (nI j))), (0, .ref (ad k)), (1, .ref (ad b)), (2, .int (nI pl)), (3, .int (nI j))]) hx hb dX5_move_104 hl (by decide) rfl (fun ls hl => ?_)
          refine lv_fload hx hb dX5_move_106 (lv_at hl 1 rfl) ?_
          refine lv_fneg hx hb dX5_move_108 ?_
          refine lv_ldcf hx hb hown (hts (.constantFloat RX5 35 (1056964608)) (by decide +kernel)) dX5_move_109 ?_
          refine lv_fmul hx hb dX5_move_111 (mv_5 (mv_4 hV (nI j))).n ?_
          refine lv_fstore (lv' := [(5, .float (FP.fmul (FP.fneg (mvS (BV pl) (nI j))) 1056964608)), (6, .float (FP.fsub 1115684864 (FP.fadd (BX pl) (mvS (BV pl) (nI j))))), (0, .ref (ad k)), (1, .ref (ad b)), (2, .int (nI pl)), (3, .int (nI j))]) hx hb dX5_move_112 hl (by decide) rfl (fun ls hl => ?_)
          refine lv_aload_n hx hb dX5_move_114 rfl (lv_at hl 2 rfl) ?_
          refine m_get hx hb hts inX5 hown hK hP (ci := 5) rfl (k := k) (by omega) h1 0 (by decide) (hts (.fieldLink RX5 7 "RollbackPair$State" "places" "[F") (by decide +kernel)) rfl dX5_move_115 ?_
          refine lv_iload_n hx hb dX5_move_118 rfl (lv_at hl 4 rfl) ?_
          refine lv_fload hx hb dX5_move_119 (lv_at hl 1 rfl) ?_
          refine m_fast hx hb hK hP hJ hS (k := (k + 1)) (by omega) (f := X) h2 (i := pl) (by omega) (by decide) dX5_move_121 (fun H locs hP hS => ?_)
          obtain ⟨M_3, eM_3⟩ : ∃ z, z = va_up M (k + 1) (eF cs 2 (vf_upd X pl (FP.fsub 1115684864 (FP.fadd (BX pl) (mvS (BV pl) (nI j)))))) := ⟨_, rfl⟩
          rw [← eM_3] at hP
          have h3_1 : M_3 k = .inr (5, [.ref (ad (k + 1)), .ref (ad (k + 2)), .int h, .double wk]) := by rw [eM_3]; exact (va_up_ne _ _ (by omega)).trans h1
          have h3_2 : M_3 (k + 1) = eF cs 2 (vf_upd X pl (FP.fsub 1115684864 (FP.fadd (BX pl) (mvS (BV pl) (nI j))))) := by rw [eM_3]; exact va_up_self _ _ _
          have h3_3 : M_3 (k + 2) = eF cs 2 V := by rw [eM_3]; exact (va_up_ne _ _ (by omega)).trans h3
          have h3_4 : M_3 b = .inr (5, [.ref (ad (b + 1)), .ref (ad (b + 2)), .int bh, .double bw]) := by rw [eM_3]; exact (va_up_ne _ _ (by omega)).trans g1
          have h3_5 : M_3 (b + 1) = eF cs 2 BX := by rw [eM_3]; exact (va_up_ne _ _ (by omega)).trans g2
          have h3_6 : M_3 (b + 2) = eF cs 2 BV := by rw [eM_3]; exact (va_up_ne _ _ (by omega)).trans g3
          refine lv_aload_n hx hb dX5_move_122 rfl (lv_at hl 2 rfl) ?_
          refine m_get hx hb hts inX5 hown hK hP (ci := 5) rfl (k := k) (by omega) h3_1 1 (by decide) (hts (.fieldLink RX5 13 "RollbackPair$State" "speeds" "[F") (by decide +kernel)) rfl dX5_move_123 ?_
          refine lv_iload_n hx hb dX5_move_126 rfl (lv_at hl 4 rfl) ?_
          refine lv_fload hx hb dX5_move_127 (lv_at hl 0 rfl) ?_
          refine m_fast hx hb hK hP hJ hS (k := (k + 2)) (by omega) (f := V) h3_3 (i := pl) (by omega) (by decide) dX5_move_129 (fun H locs hP hS => ?_)
          obtain ⟨M_4, eM_4⟩ : ∃ z, z = va_up M_3 (k + 2) (eF cs 2 (vf_upd V pl (FP.fmul (FP.fneg (mvS (BV pl) (nI j))) 1056964608))) := ⟨_, rfl⟩
          rw [← eM_4] at hP
          have h4_1 : M_4 k = .inr (5, [.ref (ad (k + 1)), .ref (ad (k + 2)), .int h, .double wk]) := by rw [eM_4]; exact (va_up_ne _ _ (by omega)).trans h3_1
          have h4_2 : M_4 (k + 1) = eF cs 2 (vf_upd X pl (FP.fsub 1115684864 (FP.fadd (BX pl) (mvS (BV pl) (nI j))))) := by rw [eM_4]; exact (va_up_ne _ _ (by omega)).trans h3_2
          have h4_3 : M_4 (k + 2) = eF cs 2 (vf_upd V pl (FP.fmul (FP.fneg (mvS (BV pl) (nI j))) 1056964608)) := by rw [eM_4]; exact va_up_self _ _ _
          have h4_4 : M_4 b = .inr (5, [.ref (ad (b + 1)), .ref (ad (b + 2)), .int bh, .double bw]) := by rw [eM_4]; exact (va_up_ne _ _ (by omega)).trans h3_4
          have h4_5 : M_4 (b + 1) = eF cs 2 BX := by rw [eM_4]; exact (va_up_ne _ _ (by omega)).trans h3_5
          have h4_6 : M_4 (b + 2) = eF cs 2 BV := by rw [eM_4]; exact (va_up_ne _ _ (by omega)).trans h3_6
          exact r_v hx hb hr hlocks hK hP hS dX5_move_130 ⟨by rw [mv_e2 c1 c2]; exact h4_2, by rw [mv_e2 c1 c2]; exact h4_3, fun i q1 q2 => by rw [eM_4, va_up_ne _ _ (by omega), eM_3, va_up_ne _ _ (by omega)]⟩
      · refine lv_fload hx hb dX5_move_75 (lv_at hl 0 rfl) ?_
        refine lv_fneg hx hb dX5_move_77 ?_
        refine lv_fstore (lv' := [(6, .float (FP.fneg (FP.fadd (BX pl) (mvS (BV pl) (nI j))))), (5, .float (mvS (BV pl) (nI j))), (0, .ref (ad k)), (1, .ref (ad b)), (2, .int (nI pl)), (3, .int (nI j))]) hx hb dX5_move_78 hl (by decide) rfl (fun ls hl => ?_)
        refine lv_fload hx hb dX5_move_80 (lv_at hl 1 rfl) ?_
        refine lv_fneg hx hb dX5_move_82 ?_
        refine lv_ldcf hx hb hown (hts (.constantFloat RX5 35 (1056964608)) (by decide +kernel)) dX5_move_83 ?_
        refine lv_fmul hx hb dX5_move_85 (mv_5 (mv_4 hV (nI j))).n ?_
        refine lv_fstore (lv' := [(5, .float (FP.fmul (FP.fneg (mvS (BV pl) (nI j))) 1056964608)), (6, .float (FP.fneg (FP.fadd (BX pl) (mvS (BV pl) (nI j))))), (0, .ref (ad k)), (1, .ref (ad b)), (2, .int (nI pl)), (3, .int (nI j))]) hx hb dX5_move_86 hl (by decide) rfl (fun ls hl => ?_)
        refine lv_goto (tgt := 114) hx hb dX5_move_88 (by decide) ?_
        refine lv_aload_n hx hb dX5_move_114 rfl (lv_at hl 2 rfl) ?_
        refine m_get hx hb hts inX5 hown hK hP (ci := 5) rfl (k := k) (by omega) h1 0 (by decide) (hts (.fieldLink RX5 7 "RollbackPair$State" "places" "[F") (by decide +kernel)) rfl dX5_move_115 ?_
        refine lv_iload_n hx hb dX5_move_118 rfl (lv_at hl 4 rfl) ?_
        refine lv_fload hx hb dX5_move_119 (lv_at hl 1 rfl) ?_
        refine m_fast hx hb hK hP hJ hS (k := (k + 1)) (by omega) (f := X) h2 (i := pl) (by omega) (by decide) dX5_move_121 (fun H locs hP hS => ?_)
        obtain ⟨M_5, eM_5⟩ : ∃ z, z = va_up M (k + 1) (eF cs 2 (vf_upd X pl (FP.fneg (FP.fadd (BX pl) (mvS (BV pl) (nI j)))))) := ⟨_, rfl⟩
        rw [← eM_5] at hP
        have h5_1 : M_5 k = .inr (5, [.ref (ad (k + 1)), .ref (ad (k + 2)), .int h, .double wk]) := by rw [eM_5]; exact (va_up_ne _ _ (by omega)).trans h1
        have h5_2 : M_5 (k + 1) = eF cs 2 (vf_upd X pl (FP.fneg (FP.fadd (BX pl) (mvS (BV pl) (nI j))))) := by rw [eM_5]; exact va_up_self _ _ _
        have h5_3 : M_5 (k + 2) = eF cs 2 V := by rw [eM_5]; exact (va_up_ne _ _ (by omega)).trans h3
        have h5_4 : M_5 b = .inr (5, [.ref (ad (b + 1)), .ref (ad (b + 2)), .int bh, .double bw]) := by rw [eM_5]; exact (va_up_ne _ _ (by omega)).trans g1
        have h5_5 : M_5 (b + 1) = eF cs 2 BX := by rw [eM_5]; exact (va_up_ne _ _ (by omega)).trans g2
        have h5_6 : M_5 (b + 2) = eF cs 2 BV := by rw [eM_5]; exact (va_up_ne _ _ (by omega)).trans g3
        refine lv_aload_n hx hb dX5_move_122 rfl (lv_at hl 2 rfl) ?_
        refine m_get hx hb hts inX5 hown hK hP (ci := 5) rfl (k := k) (by omega) h5_1 1 (by decide) (hts (.fieldLink RX5 13 "RollbackPair$State" "speeds" "[F") (by decide +kernel)) rfl dX5_move_123 ?_
        refine lv_iload_n hx hb dX5_move_126 rfl (lv_at hl 4 rfl) ?_
        refine lv_fload hx hb dX5_move_127 (lv_at hl 0 rfl) ?_
        refine m_fast hx hb hK hP hJ hS (k := (k + 2)) (by omega) (f := V) h5_3 (i := pl) (by omega) (by decide) dX5_move_129 (fun H locs hP hS => ?_)
        obtain ⟨M_6, eM_6⟩ : ∃ z, z = va_up M_5 (k + 2) (eF cs 2 (vf_upd V pl (FP.fmul (FP.fneg (mvS (BV pl) (nI j))) 1056964608))) := ⟨_, rfl⟩
        rw [← eM_6] at hP
        have h6_1 : M_6 k = .inr (5, [.ref (ad (k + 1)), .ref (ad (k + 2)), .int h, .double wk]) := by rw [eM_6]; exact (va_up_ne _ _ (by omega)).trans h5_1
        have h6_2 : M_6 (k + 1) = eF cs 2 (vf_upd X pl (FP.fneg (FP.fadd (BX pl) (mvS (BV pl) (nI j))))) := by rw [eM_6]; exact (va_up_ne _ _ (by omega)).trans h5_2
        have h6_3 : M_6 (k + 2) = eF cs 2 (vf_upd V pl (FP.fmul (FP.fneg (mvS (BV pl) (nI j))) 1056964608)) := by rw [eM_6]; exact va_up_self _ _ _
        have h6_4 : M_6 b = .inr (5, [.ref (ad (b + 1)), .ref (ad (b + 2)), .int bh, .double bw]) := by rw [eM_6]; exact (va_up_ne _ _ (by omega)).trans h5_4
        have h6_5 : M_6 (b + 1) = eF cs 2 BX := by rw [eM_6]; exact (va_up_ne _ _ (by omega)).trans h5_5
        have h6_6 : M_6 (b + 2) = eF cs 2 BV := by rw [eM_6]; exact (va_up_ne _ _ (by omega)).trans h5_6
        exact r_v hx hb hr hlocks hK hP hS dX5_move_130 ⟨by rw [mv_e1 c1]; exact h6_2, by rw [mv_e1 c1]; exact h6_3, fun i q1 q2 => by rw [eM_6, va_up_ne _ _ (by omega), eM_5, va_up_ne _ _ (by omega)]⟩
    · refine lv_aload_n hx hb dX5_move_27 rfl (lv_at hl 2 rfl) ?_
      refine m_get hx hb hts inX5 hown hK hP (ci := 5) rfl (k := b) (by omega) g1 1 (by decide) (hts (.fieldLink RX5 13 "RollbackPair$State" "speeds" "[F") (by decide +kernel)) rfl dX5_move_28 ?_
      refine lv_iload_n hx hb dX5_move_31 rfl (lv_at hl 3 rfl) ?_
      refine m_fald hx hb hK hP (k := (b + 2)) (by omega) (f := BV) g3 (i := pl) (by omega) (by decide) dX5_move_32 ?_
      refine lv_ldcf hx hb hown (hts (.constantFloat RX5 33 (1063256064)) (by decide +kernel)) dX5_move_33 ?_
      refine lv_fmul hx hb dX5_move_35 (mv_1 hV).n ?_
      refine lv_fload hx hb dX5_move_36 (lv_at hl 0 rfl) ?_
      refine lv_ldcf hx hb hown (hts (.constantFloat RX5 34 (1050253722)) (by decide +kernel)) dX5_move_38 ?_
      refine lv_fmul hx hb dX5_move_40 (mv_2 (nI j)).n ?_
      refine lv_fadd hx hb dX5_move_41 (mv_3 hV (nI j)).n ?_
      refine lv_fstore (lv' := [(5, .float (mvV (BV pl) (nI j))), (4, .float (psh (nI j))), (0, .ref (ad k)), (1, .ref (ad b)), (2, .int (nI pl)), (3, .int (nI j))]) hx hb dX5_move_42 hl (by decide) rfl (fun ls hl => ?_)
      refine lv_iload_n hx hb dX5_move_44 rfl (lv_at hl 5 rfl) ?_
      refine lv_iconst (v := nI 4) hx hb dX5_move_45 (by decide) ?_
      refine lv_iand hx hb dX5_move_46 ?_
      refine lv_if_eq (tgt := 57) hx hb dX5_move_47 (by decide) (fun c3 => ?_) (fun c3 => ?_)
      · exact J _ ls ⟨by unfold mvS; rw [if_neg (br_0 j hj c3)], lv_sub hl [0, 2, 3, 4, 5] rfl⟩
      · refine lv_fload hx hb dX5_move_50 (lv_at hl 0 rfl) ?_
        refine lv_ldcf hx hb hown (hts (.constantFloat RX5 35 (1056964608)) (by decide +kernel)) dX5_move_52 ?_
        refine lv_fmul hx hb dX5_move_54 (mv_h (mv_3 hV (nI j))).n ?_
        refine lv_fstore (lv' := [(5, .float (FP.fmul (mvV (BV pl) (nI j)) 1056964608)), (4, .float (psh (nI j))), (0, .ref (ad k)), (1, .ref (ad b)), (2, .int (nI pl)), (3, .int (nI j))]) hx hb dX5_move_55 hl (by decide) rfl (fun ls hl => ?_)
        exact J _ ls ⟨by unfold mvS; rw [if_pos (br_1 j hj c3)], lv_sub hl [0, 2, 3, 4, 5] rfl⟩
  · refine lv_fconst0 hx hb dX5_move_0 ?_
    refine lv_fstore (lv' := [(4, .float FP.fconst0), (0, .ref (ad k)), (1, .ref (ad b)), (2, .int (nI pl)), (3, .int (nI j))]) hx hb dX5_move_1 hl (by decide) rfl (fun ls hl => ?_)
    refine lv_iload_n hx hb dX5_move_3 rfl (lv_at hl 4 rfl) ?_
    refine lv_iconst (v := nI 1) hx hb dX5_move_4 (by decide) ?_
    refine lv_iand hx hb dX5_move_5 ?_
    refine lv_if_eq (tgt := 15) hx hb dX5_move_6 (by decide) (fun cL => ?_) (fun cL => ?_)
    · refine lv_iload_n hx hb dX5_move_15 rfl (lv_at hl 4 rfl) ?_
      refine lv_iconst (v := nI 2) hx hb dX5_move_16 (by decide) ?_
      refine lv_iand hx hb dX5_move_17 ?_
      refine lv_if_eq (tgt := 27) hx hb dX5_move_18 (by decide) (fun cR => ?_) (fun cR => ?_)
      · exact J _ ls ⟨ps_00 j hj cL cR, lv_sub hl [0, 1, 2, 3, 4] rfl⟩
      · refine lv_fload hx hb dX5_move_21 (lv_at hl 0 rfl) ?_
        refine lv_fconst1 hx hb dX5_move_23 ?_
        refine lv_fadd hx hb dX5_move_24 (by first | exact n_fa | exact n_fb) ?_
        refine lv_fstore (lv' := [(4, .float (FP.fadd FP.fconst0 FP.fconst1)), (0, .ref (ad k)), (1, .ref (ad b)), (2, .int (nI pl)), (3, .int (nI j))]) hx hb dX5_move_25 hl (by decide) rfl (fun ls hl => ?_)
        exact J _ ls ⟨ps_01 j hj cL cR, lv_sub hl [0, 1, 2, 3, 4] rfl⟩
    · refine lv_fload hx hb dX5_move_9 (lv_at hl 0 rfl) ?_
      refine lv_fconst1 hx hb dX5_move_11 ?_
      refine lv_fsub hx hb dX5_move_12 n_fs ?_
      refine lv_fstore (lv' := [(4, .float (FP.fsub FP.fconst0 FP.fconst1)), (0, .ref (ad k)), (1, .ref (ad b)), (2, .int (nI pl)), (3, .int (nI j))]) hx hb dX5_move_13 hl (by decide) rfl (fun ls hl => ?_)
      refine lv_iload_n hx hb dX5_move_15 rfl (lv_at hl 4 rfl) ?_
      refine lv_iconst (v := nI 2) hx hb dX5_move_16 (by decide) ?_
      refine lv_iand hx hb dX5_move_17 ?_
      refine lv_if_eq (tgt := 27) hx hb dX5_move_18 (by decide) (fun cR => ?_) (fun cR => ?_)
      · exact J _ ls ⟨ps_10 j hj cL cR, lv_sub hl [0, 1, 2, 3, 4] rfl⟩
      · refine lv_fload hx hb dX5_move_21 (lv_at hl 0 rfl) ?_
        refine lv_fconst1 hx hb dX5_move_23 ?_
        refine lv_fadd hx hb dX5_move_24 (by first | exact n_fa | exact n_fb) ?_
        refine lv_fstore (lv' := [(4, .float (FP.fadd (FP.fsub FP.fconst0 FP.fconst1) FP.fconst1)), (0, .ref (ad k)), (1, .ref (ad b)), (2, .int (nI pl)), (3, .int (nI j))]) hx hb dX5_move_25 hl (by decide) rfl (fun ls hl => ?_)
        exact J _ ls ⟨ps_11 j hj cL cR, lv_sub hl [0, 1, 2, 3, 4] rfl⟩
set_option maxHeartbeats 4000000 in
set_option maxRecDepth 100000 in
/-- State.bounceApart() -/
theorem c_bounce (l : Launch) (D : va_G) (cs : Nat → ClassId) (ad : Nat → Nat) (n : Nat) (hJ : Inj ad n) (M : Nat → va_E) (k : Nat) (X V : Nat → UInt32) (h : Int32) (wk : UInt64) (hk : k + 3 ≤ n) (h1 : M k = oSt ad k h wk) (h2 : M (k + 1) = eF cs 2 X) (h3 : M (k + 2) = eF cs 2 V) (hx0 : Fb (X 0) 0 (256 * e8)) (hx1 : Fb (X 1) 0 (256 * e8)) : CTv l yX5_bounceApart wsX5_bounceApart ({ frames := 0, cells := 0, slots := 0, locals := 0 }) D cs ad n M [.ref (ad k)] (fun M2 => M2 k = oSt ad k (h + nI 1) wk ∧ (∃ X2, M2 (k + 1) = eF cs 2 X2 ∧ X2 0 = FP.fsub (FP.fmul (FP.fadd (X 0) (X 1)) 1056964608) 1056964608 ∧ X2 1 = FP.fadd (FP.fmul (FP.fadd (X 0) (X 1)) 1056964608) 1056964608) ∧ (∃ V2, M2 (k + 2) = eF cs 2 V2 ∧ V2 0 = V 1 ∧ V2 1 = V 0) ∧ ∀ i, (i < k ∨ k + 3 ≤ i) → M2 i = M i) := by
  refine Met.ofW (cc := cX5_bounceApart) (maxL := 3) (ret := none) (by decide) rfl ?_
  intro p e s m args below meth c s₁ B hml hv
  obtain ⟨rfl, hP, hK⟩ := hv
  have hx := B.exec
  have hb := B.bytes
  have hr := B.returns
  have hts := atoms_spec (ws := wsX5_bounceApart) B.pre
  have hown : s.vm.findClass RX5 = some m.cls := findClass_of_methodNamed B.named
  have hlocks := B.notSynchronized
  have hS : va_S (Ad ad n) s.heap s.heap [] := va_S.rf
  have hl := lv_entry ([.ref (ad k)]) (n := 3) (Nat.le_of_ble_eq_true rfl)
  rw [lg_entry_eq]
  generalize (lg_sl ([.ref (ad k)]) ++ List.replicate (3 - (lg_sl ([.ref (ad k)])).length) Slot.unset).toArray = ls at hl ⊢
  have hl : lv_has ls 3 [(0, .ref (ad k))] := hl
  have inX5 : ∀ w ∈ u_ws RX5 TX5 4, w ∈ wsX5_bounceApart := fun w h => List.mem_cons_of_mem _ (List.mem_append_right _ h)
  refine lv_aload_n hx hb dX5_bounceApart_0 rfl (lv_at hl 0 rfl) ?_
  refine m_get hx hb hts inX5 hown hK hP (ci := 5) rfl (k := k) (by omega) h1 1 (by decide) (hts (.fieldLink RX5 13 "RollbackPair$State" "speeds" "[F") (by decide +kernel)) rfl dX5_bounceApart_1 ?_
  refine lv_iconst (v := nI 0) hx hb dX5_bounceApart_4 (by decide) ?_
  refine m_fald hx hb hK hP (k := (k + 2)) (by omega) (f := V) h3 (i := 0) (by omega) (by decide) dX5_bounceApart_5 ?_
  refine lv_fstore_n (lv' := [(1, .float (V 0)), (0, .ref (ad k))]) hx hb dX5_bounceApart_6 rfl hl (by decide) rfl (fun ls hl => ?_)
  refine lv_aload_n hx hb dX5_bounceApart_7 rfl (lv_at hl 1 rfl) ?_
  refine m_get hx hb hts inX5 hown hK hP (ci := 5) rfl (k := k) (by omega) h1 1 (by decide) (hts (.fieldLink RX5 13 "RollbackPair$State" "speeds" "[F") (by decide +kernel)) rfl dX5_bounceApart_8 ?_
  refine lv_iconst (v := nI 0) hx hb dX5_bounceApart_11 (by decide) ?_
  refine lv_aload_n hx hb dX5_bounceApart_12 rfl (lv_at hl 1 rfl) ?_
  refine m_get hx hb hts inX5 hown hK hP (ci := 5) rfl (k := k) (by omega) h1 1 (by decide) (hts (.fieldLink RX5 13 "RollbackPair$State" "speeds" "[F") (by decide +kernel)) rfl dX5_bounceApart_13 ?_
  refine lv_iconst (v := nI 1) hx hb dX5_bounceApart_16 (by decide) ?_
  refine m_fald hx hb hK hP (k := (k + 2)) (by omega) (f := V) h3 (i := 1) (by omega) (by decide) dX5_bounceApart_17 ?_
  refine m_fast hx hb hK hP hJ hS (k := (k + 2)) (by omega) (f := V) h3 (i := 0) (by omega) (by decide) dX5_bounceApart_18 (fun H locs hP hS => ?_)
  obtain ⟨M_1, eM_1⟩ : ∃ z, z = va_up M (k + 2) (eF cs 2 (vf_upd V 0 (V 1))) := ⟨_, rfl⟩
  rw [← eM_1] at hP
  have h1_1 : M_1 k = .inr (5, [.ref (ad (k + 1)), .ref (ad (k + 2)), .int h, .double wk]) := by rw [eM_1]; exact (va_up_ne _ _ (by omega)).trans h1
  have h1_2 : M_1 (k + 1) = eF cs 2 X := by rw [eM_1]; exact (va_up_ne _ _ (by omega)).trans h2
  have h1_3 : M_1 (k + 2) = eF cs 2 (vf_upd V 0 (V 1)) := by rw [eM_1]; exact va_up_self _ _ _
  refine lv_aload_n hx hb dX5_bounceApart_19 rfl (lv_at hl 1 rfl) ?_
  refine m_get hx hb hts inX5 hown hK hP (ci := 5) rfl (k := k) (by omega) h1_1 1 (by decide) (hts (.fieldLink RX5 13 "RollbackPair$State" "speeds" "[F") (by decide +kernel)) rfl dX5_bounceApart_20 ?_
  refine lv_iconst (v := nI 1) hx hb dX5_bounceApart_23 (by decide) ?_
  refine lv_fload_n hx hb dX5_bounceApart_24 rfl (lv_at hl 0 rfl) ?_
  refine m_fast hx hb hK hP hJ hS (k := (k + 2)) (by omega) (f := (vf_upd V 0 (V 1))) h1_3 (i := 1) (by omega) (by decide) dX5_bounceApart_25 (fun H locs hP hS => ?_)
  obtain ⟨M_2, eM_2⟩ : ∃ z, z = va_up M_1 (k + 2) (eF cs 2 (vf_upd (vf_upd V 0 (V 1)) 1 (V 0))) := ⟨_, rfl⟩
  rw [← eM_2] at hP
  have h2_1 : M_2 k = .inr (5, [.ref (ad (k + 1)), .ref (ad (k + 2)), .int h, .double wk]) := by rw [eM_2]; exact (va_up_ne _ _ (by omega)).trans h1_1
  have h2_2 : M_2 (k + 1) = eF cs 2 X := by rw [eM_2]; exact (va_up_ne _ _ (by omega)).trans h1_2
  have h2_3 : M_2 (k + 2) = eF cs 2 (vf_upd (vf_upd V 0 (V 1)) 1 (V 0)) := by rw [eM_2]; exact va_up_self _ _ _
  refine lv_aload_n hx hb dX5_bounceApart_26 rfl (lv_at hl 1 rfl) ?_
  refine m_get hx hb hts inX5 hown hK hP (ci := 5) rfl (k := k) (by omega) h2_1 0 (by decide) (hts (.fieldLink RX5 7 "RollbackPair$State" "places" "[F") (by decide +kernel)) rfl dX5_bounceApart_27 ?_
  refine lv_iconst (v := nI 0) hx hb dX5_bounceApart_30 (by decide) ?_
  refine m_fald hx hb hK hP (k := (k + 1)) (by omega) (f := X) h2_2 (i := 0) (by omega) (by decide) dX5_bounceApart_31 ?_
  refine lv_aload_n hx hb dX5_bounceApart_32 rfl (lv_at hl 1 rfl) ?_
  refine m_get hx hb hts inX5 hown hK hP (ci := 5) rfl (k := k) (by omega) h2_1 0 (by decide) (hts (.fieldLink RX5 7 "RollbackPair$State" "places" "[F") (by decide +kernel)) rfl dX5_bounceApart_33 ?_
  refine lv_iconst (v := nI 1) hx hb dX5_bounceApart_36 (by decide) ?_
  refine m_fald hx hb hK hP (k := (k + 1)) (by omega) (f := X) h2_2 (i := 1) (by omega) (by decide) dX5_bounceApart_37 ?_
  refine lv_fadd hx hb dX5_bounceApart_38 (pl_2 hx0 hx1).n ?_
  refine lv_ldcf hx hb hown (hts (.constantFloat RX5 35 (1056964608)) (by decide +kernel)) dX5_bounceApart_39 ?_
  refine lv_fmul hx hb dX5_bounceApart_41 (pl_3 (pl_2 hx0 hx1)).n ?_
  refine lv_fstore_n (lv' := [(2, .float (FP.fmul (FP.fadd (X 0) (X 1)) 1056964608)), (1, .float (V 0)), (0, .ref (ad k))]) hx hb dX5_bounceApart_42 rfl hl (by decide) rfl (fun ls hl => ?_)
  refine lv_aload_n hx hb dX5_bounceApart_43 rfl (lv_at hl 2 rfl) ?_
  refine m_get hx hb hts inX5 hown hK hP (ci := 5) rfl (k := k) (by omega) h2_1 0 (by decide) (hts (.fieldLink RX5 7 "RollbackPair$State" "places" "[F") (by decide +kernel)) rfl dX5_bounceApart_44 ?_
  refine lv_iconst (v := nI 0) hx hb dX5_bounceApart_47 (by decide) ?_
  refine lv_fload_n hx hb dX5_bounceApart_48 rfl (lv_at hl 0 rfl) ?_
  refine lv_ldcf hx hb hown (hts (.constantFloat RX5 35 (1056964608)) (by decide +kernel)) dX5_bounceApart_49 ?_
  refine lv_fsub hx hb dX5_bounceApart_51 (pl_4 (pl_3 (pl_2 hx0 hx1))).n ?_
  refine m_fast hx hb hK hP hJ hS (k := (k + 1)) (by omega) (f := X) h2_2 (i := 0) (by omega) (by decide) dX5_bounceApart_52 (fun H locs hP hS => ?_)
  obtain ⟨M_3, eM_3⟩ : ∃ z, z = va_up M_2 (k + 1) (eF cs 2 (vf_upd X 0 (FP.fsub (FP.fmul (FP.fadd (X 0) (X 1)) 1056964608) 1056964608))) := ⟨_, rfl⟩
  rw [← eM_3] at hP
  have h3_1 : M_3 k = .inr (5, [.ref (ad (k + 1)), .ref (ad (k + 2)), .int h, .double wk]) := by rw [eM_3]; exact (va_up_ne _ _ (by omega)).trans h2_1
  have h3_2 : M_3 (k + 1) = eF cs 2 (vf_upd X 0 (FP.fsub (FP.fmul (FP.fadd (X 0) (X 1)) 1056964608) 1056964608)) := by rw [eM_3]; exact va_up_self _ _ _
  have h3_3 : M_3 (k + 2) = eF cs 2 (vf_upd (vf_upd V 0 (V 1)) 1 (V 0)) := by rw [eM_3]; exact (va_up_ne _ _ (by omega)).trans h2_3
  refine lv_aload_n hx hb dX5_bounceApart_53 rfl (lv_at hl 2 rfl) ?_
  refine m_get hx hb hts inX5 hown hK hP (ci := 5) rfl (k := k) (by omega) h3_1 0 (by decide) (hts (.fieldLink RX5 7 "RollbackPair$State" "places" "[F") (by decide +kernel)) rfl dX5_bounceApart_54 ?_
  refine lv_iconst (v := nI 1) hx hb dX5_bounceApart_57 (by decide) ?_
  refine lv_fload_n hx hb dX5_bounceApart_58 rfl (lv_at hl 0 rfl) ?_
  refine lv_ldcf hx hb hown (hts (.constantFloat RX5 35 (1056964608)) (by decide +kernel)) dX5_bounceApart_59 ?_
  refine lv_fadd hx hb dX5_bounceApart_61 (pl_5 (pl_3 (pl_2 hx0 hx1))).n ?_
  refine m_fast hx hb hK hP hJ hS (k := (k + 1)) (by omega) (f := (vf_upd X 0 (FP.fsub (FP.fmul (FP.fadd (X 0) (X 1)) 1056964608) 1056964608))) h3_2 (i := 1) (by omega) (by decide) dX5_bounceApart_62 (fun H locs hP hS => ?_)
  obtain ⟨M_4, eM_4⟩ : ∃ z, z = va_up M_3 (k + 1) (eF cs 2 (vf_upd (vf_upd X 0 (FP.fsub (FP.fmul (FP.fadd (X 0) (X 1)) 1056964608) 1056964608)) 1 (FP.fadd (FP.fmul (FP.fadd (X 0) (X 1)) 1056964608) 1056964608))) := ⟨_, rfl⟩
  rw [← eM_4] at hP
  have h4_1 : M_4 k = .inr (5, [.ref (ad (k + 1)), .ref (ad (k + 2)), .int h, .double wk]) := by rw [eM_4]; exact (va_up_ne _ _ (by omega)).trans h3_1
  have h4_2 : M_4 (k + 1) = eF cs 2 (vf_upd (vf_upd X 0 (FP.fsub (FP.fmul (FP.fadd (X 0) (X 1)) 1056964608) 1056964608)) 1 (FP.fadd (FP.fmul (FP.fadd (X 0) (X 1)) 1056964608) 1056964608)) := by rw [eM_4]; exact va_up_self _ _ _
  have h4_3 : M_4 (k + 2) = eF cs 2 (vf_upd (vf_upd V 0 (V 1)) 1 (V 0)) := by rw [eM_4]; exact (va_up_ne _ _ (by omega)).trans h3_3
  refine lv_aload_n hx hb dX5_bounceApart_63 rfl (lv_at hl 2 rfl) ?_
  refine lv_dup hx hb dX5_bounceApart_64 rfl ?_
  refine m_get hx hb hts inX5 hown hK hP (ci := 5) rfl (k := k) (by omega) h4_1 2 (by decide) (hts (.fieldLink RX5 22 "RollbackPair$State" "hitCount" "I") (by decide +kernel)) rfl dX5_bounceApart_65 ?_
  refine lv_iconst (v := nI 1) hx hb dX5_bounceApart_68 (by decide) ?_
  refine lv_iadd hx hb dX5_bounceApart_69 ?_
  refine m_put hx hb hts inX5 tyX5 tyX5_ok nmX5 hown hK hP hJ hS (ci := 5) rfl (k := k) (by omega) h4_1 2 (by decide) (hts (.fieldLink RX5 22 "RollbackPair$State" "hitCount" "I") (by decide +kernel)) rfl rfl rfl (Nat.le_of_ble_eq_true rfl) (fs' := [.ref (ad (k + 1)), .ref (ad (k + 2)), .int (h + (nI 1)), .double wk]) rfl dX5_bounceApart_70 (fun H locs hP hS => ?_)
  obtain ⟨M_5, eM_5⟩ : ∃ z, z = va_up M_4 k (.inr (5, [.ref (ad (k + 1)), .ref (ad (k + 2)), .int (h + (nI 1)), .double wk])) := ⟨_, rfl⟩
  rw [← eM_5] at hP
  have h5_1 : M_5 k = .inr (5, [.ref (ad (k + 1)), .ref (ad (k + 2)), .int (h + (nI 1)), .double wk]) := by rw [eM_5]; exact va_up_self _ _ _
  have h5_2 : M_5 (k + 1) = eF cs 2 (vf_upd (vf_upd X 0 (FP.fsub (FP.fmul (FP.fadd (X 0) (X 1)) 1056964608) 1056964608)) 1 (FP.fadd (FP.fmul (FP.fadd (X 0) (X 1)) 1056964608) 1056964608)) := by rw [eM_5]; exact (va_up_ne _ _ (by omega)).trans h4_2
  have h5_3 : M_5 (k + 2) = eF cs 2 (vf_upd (vf_upd V 0 (V 1)) 1 (V 0)) := by rw [eM_5]; exact (va_up_ne _ _ (by omega)).trans h4_3
  exact r_v hx hb hr hlocks hK hP hS dX5_bounceApart_73 ⟨h5_1, ⟨_, h5_2, rfl, rfl⟩, ⟨_, h5_3, rfl, rfl⟩, fun i hi => by rw [eM_5, va_up_ne _ _ (by omega), eM_4, va_up_ne _ _ (by omega), eM_3, va_up_ne _ _ (by omega), eM_2, va_up_ne _ _ (by omega), eM_1, va_up_ne _ _ (by omega)]⟩
set_option maxHeartbeats 4000000 in
set_option maxRecDepth 100000 in
/-- State.follow(before, a1, a2) -/
theorem c_follow (l : Launch) (D : va_G) (cs : Nat → ClassId) (ad : Nat → Nat) (n : Nat) (hJ : Inj ad n) (M : Nat → va_E) (k : Nat) (X V : Nat → UInt32) (h : Int32) (wk : UInt64) (hk : k + 3 ≤ n) (h1 : M k = oSt ad k h wk) (h2 : M (k + 1) = eF cs 2 X) (h3 : M (k + 2) = eF cs 2 V) (b : Nat) (BX BV : Nat → UInt32) (bh : Int32) (bw : UInt64) (hb0 : b + 3 ≤ n) (hkb : k + 3 ≤ b ∨ b + 3 ≤ k) (g1 : M b = oSt ad b bh bw) (g2 : M (b + 1) = eF cs 2 BX) (g3 : M (b + 2) = eF cs 2 BV) (a1 a2 fc : Nat) (ha1 : a1 < 8) (ha2 : a2 < 8) (hfc : fc ≤ 1000000) (hB : Bd (BX 0) (BV 0) (BX 1) (BV 1) bw fc) : CTv l yX5_follow wsX5_follow ({ frames := 1, cells := 0, slots := 0, locals := 26 }) D cs ad n M [.ref (ad k), .ref (ad b), .int (nI a1), .int (nI a2)] (fun M2 => M2 k = oSt ad k (bh + st_m (mv (BX 0) (BV 0) (nI a1)) (mv (BX 1) (BV 1) (nI a2))) (st_w (mv (BX 0) (BV 0) (nI a1)) (mv (BX 1) (BV 1) (nI a2)) bw) ∧ (∃ X2, M2 (k + 1) = eF cs 2 X2 ∧ X2 0 = st_x (mv (BX 0) (BV 0) (nI a1)) (mv (BX 1) (BV 1) (nI a2)) ∧ X2 1 = st_y (mv (BX 0) (BV 0) (nI a1)) (mv (BX 1) (BV 1) (nI a2))) ∧ (∃ V2, M2 (k + 2) = eF cs 2 V2 ∧ V2 0 = st_s (mv (BX 0) (BV 0) (nI a1)) (mv (BX 1) (BV 1) (nI a2)) ∧ V2 1 = st_t (mv (BX 0) (BV 0) (nI a1)) (mv (BX 1) (BV 1) (nI a2))) ∧ ∀ i, (i < k ∨ k + 3 ≤ i) → M2 i = M i) := by
  refine Met.ofW (cc := cX5_follow) (maxL := 8) (ret := none) (by decide) rfl ?_
  intro p e s m args below meth c s₁ B hml hv
  obtain ⟨rfl, hP, hK⟩ := hv
  have hx := B.exec
  have hb := B.bytes
  have hr := B.returns
  have hts := atoms_spec (ws := wsX5_follow) B.pre
  have hown : s.vm.findClass RX5 = some m.cls := findClass_of_methodNamed B.named
  have hlocks := B.notSynchronized
  have hS : va_S (Ad ad n) s.heap s.heap [] := va_S.rf
  have hl := lv_entry ([.ref (ad k), .ref (ad b), .int (nI a1), .int (nI a2)]) (n := 8) (Nat.le_of_ble_eq_true rfl)
  rw [lg_entry_eq]
  generalize (lg_sl ([.ref (ad k), .ref (ad b), .int (nI a1), .int (nI a2)]) ++ List.replicate (8 - (lg_sl ([.ref (ad k), .ref (ad b), .int (nI a1), .int (nI a2)])).length) Slot.unset).toArray = ls at hl ⊢
  have hl : lv_has ls 8 [(0, .ref (ad k)), (1, .ref (ad b)), (2, .int (nI a1)), (3, .int (nI a2))] := hl
  have inX5 : ∀ w ∈ u_ws RX5 TX5 4, w ∈ wsX5_follow := fun w h => List.mem_cons_of_mem _ (List.mem_append_right _ h)
  have hA1 := mv_b hB.1 hB.2.1 (nI a1)
  have hB1 := mv_b hB.2.2.1 hB.2.2.2.1 (nI a2)
  have hs : Fb (st_s (mv (BX 0) (BV 0) (nI a1)) (mv (BX 1) (BV 1) (nI a2))) (-(32 * e8)) (32 * e8) := by unfold st_s; split; exact hB1.2; exact hA1.2
  have ht : Fb (st_t (mv (BX 0) (BV 0) (nI a1)) (mv (BX 1) (BV 1) (nI a2))) (-(32 * e8)) (32 * e8) := by unfold st_t; split; exact hA1.2; exact hB1.2
  refine lv_aload_n hx hb dX5_follow_0 rfl (lv_at hl 0 rfl) ?_
  refine lv_aload_n hx hb dX5_follow_1 rfl (lv_at hl 1 rfl) ?_
  refine lv_iconst (v := nI 0) hx hb dX5_follow_2 (by decide) ?_
  refine lv_iload_n hx hb dX5_follow_3 rfl (lv_at hl 2 rfl) ?_
  refine k_Vv (As := [.ref (ad b), .int (nI 0), .int (nI a1)]) (rest := []) (k := k) (ci := 5) ⟨hx, hb, hml, hown, hts⟩ hK hP hS Ad_le (c_smove l D cs ad n hJ M k X V h wk hk h1 h2 h3 b BX BV bh bw hb0 hkb g1 g2 g3 0 a1 (by decide) ha1 hB.1 hB.2.1) (cwV 3 hts gX5_follow_X5_move rfl rfl rfl (by decide +kernel) ⟨Nat.le_of_ble_eq_true rfl, Nat.le_of_ble_eq_true rfl⟩) (by omega) h1 rfl rfl rfl hl.1 (Nat.le_of_ble_eq_true rfl) dX5_follow_4 ⟨Nat.le_of_ble_eq_true rfl, Nat.le_of_ble_eq_true rfl⟩ (fun N1 H locs hpo hP hS _ _ => ?_)
  obtain ⟨q01, q02, q0f⟩ := hpo
  have h1_1 : N1 k = .inr (5, [.ref (ad (k + 1)), .ref (ad (k + 2)), .int h, .double wk]) := (q0f _ (by omega) (by omega)).trans h1
  have h1_4 : N1 b = .inr (5, [.ref (ad (b + 1)), .ref (ad (b + 2)), .int bh, .double bw]) := (q0f _ (by omega) (by omega)).trans g1
  have h1_5 : N1 (b + 1) = eF cs 2 BX := (q0f _ (by omega) (by omega)).trans g2
  have h1_6 : N1 (b + 2) = eF cs 2 BV := (q0f _ (by omega) (by omega)).trans g3
  refine lv_aload_n hx hb dX5_follow_7 rfl (lv_at hl 0 rfl) ?_
  refine lv_aload_n hx hb dX5_follow_8 rfl (lv_at hl 1 rfl) ?_
  refine lv_iconst (v := nI 1) hx hb dX5_follow_9 (by decide) ?_
  refine lv_iload_n hx hb dX5_follow_10 rfl (lv_at hl 3 rfl) ?_
  refine k_Vv (As := [.ref (ad b), .int (nI 1), .int (nI a2)]) (rest := []) (k := k) (ci := 5) ⟨hx, hb, hml, hown, hts⟩ hK hP hS Ad_le (c_smove l D cs ad n hJ N1 k (vf_upd X 0 (mv (BX 0) (BV 0) (nI a1)).1) (vf_upd V 0 (mv (BX 0) (BV 0) (nI a1)).2) h wk hk h1_1 q01 q02 b BX BV bh bw hb0 hkb h1_4 h1_5 h1_6 1 a2 (by decide) ha2 hB.2.2.1 hB.2.2.2.1) (cwV 3 hts gX5_follow_X5_move rfl rfl rfl (by decide +kernel) ⟨Nat.le_of_ble_eq_true rfl, Nat.le_of_ble_eq_true rfl⟩) (by omega) h1_1 rfl rfl rfl hl.1 (Nat.le_of_ble_eq_true rfl) dX5_follow_11 ⟨Nat.le_of_ble_eq_true rfl, Nat.le_of_ble_eq_true rfl⟩ (fun N2 H locs hpo hP hS _ _ => ?_)
  obtain ⟨q11, q12, q1f⟩ := hpo
  have h2_1 : N2 k = .inr (5, [.ref (ad (k + 1)), .ref (ad (k + 2)), .int h, .double wk]) := (q1f _ (by omega) (by omega)).trans h1_1
  have h2_4 : N2 b = .inr (5, [.ref (ad (b + 1)), .ref (ad (b + 2)), .int bh, .double bw]) := (q1f _ (by omega) (by omega)).trans h1_4
  have h2_5 : N2 (b + 1) = eF cs 2 BX := (q1f _ (by omega) (by omega)).trans h1_5
  have h2_6 : N2 (b + 2) = eF cs 2 BV := (q1f _ (by omega) (by omega)).trans h1_6
  refine lv_aload_n hx hb dX5_follow_14 rfl (lv_at hl 0 rfl) ?_
  refine lv_aload_n hx hb dX5_follow_15 rfl (lv_at hl 1 rfl) ?_
  refine m_get hx hb hts inX5 hown hK hP (ci := 5) rfl (k := b) (by omega) h2_4 2 (by decide) (hts (.fieldLink RX5 22 "RollbackPair$State" "hitCount" "I") (by decide +kernel)) rfl dX5_follow_16 ?_
  refine m_put hx hb hts inX5 tyX5 tyX5_ok nmX5 hown hK hP hJ hS (ci := 5) rfl (k := k) (by omega) h2_1 2 (by decide) (hts (.fieldLink RX5 22 "RollbackPair$State" "hitCount" "I") (by decide +kernel)) rfl rfl rfl (Nat.le_of_ble_eq_true rfl) (fs' := [.ref (ad (k + 1)), .ref (ad (k + 2)), .int bh, .double wk]) rfl dX5_follow_19 (fun H locs hP hS => ?_)
  obtain ⟨M_3, eM_3⟩ : ∃ z, z = va_up N2 k (.inr (5, [.ref (ad (k + 1)), .ref (ad (k + 2)), .int bh, .double wk])) := ⟨_, rfl⟩
  rw [← eM_3] at hP
  have h3_1 : M_3 k = .inr (5, [.ref (ad (k + 1)), .ref (ad (k + 2)), .int bh, .double wk]) := by rw [eM_3]; exact va_up_self _ _ _
  have h3_2 : M_3 (k + 1) = eF cs 2 (vf_upd (vf_upd X 0 (mv (BX 0) (BV 0) (nI a1)).1) 1 (mv (BX 1) (BV 1) (nI a2)).1) := by rw [eM_3]; exact (va_up_ne _ _ (by omega)).trans q11
  have h3_3 : M_3 (k + 2) = eF cs 2 (vf_upd (vf_upd V 0 (mv (BX 0) (BV 0) (nI a1)).2) 1 (mv (BX 1) (BV 1) (nI a2)).2) := by rw [eM_3]; exact (va_up_ne _ _ (by omega)).trans q12
  have h3_4 : M_3 b = .inr (5, [.ref (ad (b + 1)), .ref (ad (b + 2)), .int bh, .double bw]) := by rw [eM_3]; exact (va_up_ne _ _ (by omega)).trans h2_4
  have h3_5 : M_3 (b + 1) = eF cs 2 BX := by rw [eM_3]; exact (va_up_ne _ _ (by omega)).trans h2_5
  have h3_6 : M_3 (b + 2) = eF cs 2 BV := by rw [eM_3]; exact (va_up_ne _ _ (by omega)).trans h2_6
  refine lv_aload_n hx hb dX5_follow_22 rfl (lv_at hl 0 rfl) ?_
  refine m_get hx hb hts inX5 hown hK hP (ci := 5) rfl (k := k) (by omega) h3_1 0 (by decide) (hts (.fieldLink RX5 7 "RollbackPair$State" "places" "[F") (by decide +kernel)) rfl dX5_follow_23 ?_
  refine lv_iconst (v := nI 1) hx hb dX5_follow_26 (by decide) ?_
  refine m_fald hx hb hK hP (k := (k + 1)) (by omega) (f := (vf_upd (vf_upd X 0 (mv (BX 0) (BV 0) (nI a1)).1) 1 (mv (BX 1) (BV 1) (nI a2)).1)) h3_2 (i := 1) (by omega) (by decide) dX5_follow_27 ?_
  refine f_val (show _ = (mv (BX 1) (BV 1) (nI a2)).1 from rfl) ?_
  refine lv_aload_n hx hb dX5_follow_28 rfl (lv_at hl 0 rfl) ?_
  refine m_get hx hb hts inX5 hown hK hP (ci := 5) rfl (k := k) (by omega) h3_1 0 (by decide) (hts (.fieldLink RX5 7 "RollbackPair$State" "places" "[F") (by decide +kernel)) rfl dX5_follow_29 ?_
  refine lv_iconst (v := nI 0) hx hb dX5_follow_32 (by decide) ?_
  refine m_fald hx hb hK hP (k := (k + 1)) (by omega) (f := (vf_upd (vf_upd X 0 (mv (BX 0) (BV 0) (nI a1)).1) 1 (mv (BX 1) (BV 1) (nI a2)).1)) h3_2 (i := 0) (by omega) (by decide) dX5_follow_33 ?_
  refine f_val (show _ = (mv (BX 0) (BV 0) (nI a1)).1 from rfl) ?_
  refine lv_fsub hx hb dX5_follow_34 (pl_1 hA1.1 hB1.1).n ?_
  refine lv_fconst1 hx hb dX5_follow_35 ?_
  refine lv_fcmp hx hb dX5_follow_36 ?_
  refine lv_if_ge (tgt := 44) hx hb dX5_follow_37 (by decide) (fun c1 => ?_) (fun c1 => ?_)
  · obtain ⟨z1, z2, z3, z4, z5⟩ := st_no (A := (mv (BX 0) (BV 0) (nI a1))) (B := (mv (BX 1) (BV 1) (nI a2))) (fun z => z c1)
    have hsp0 : (vf_upd (vf_upd V 0 (mv (BX 0) (BV 0) (nI a1)).2) 1 (mv (BX 1) (BV 1) (nI a2)).2) 0 = st_s (mv (BX 0) (BV 0) (nI a1)) (mv (BX 1) (BV 1) (nI a2)) := z2.symm
    have hsp1 : (vf_upd (vf_upd V 0 (mv (BX 0) (BV 0) (nI a1)).2) 1 (mv (BX 1) (BV 1) (nI a2)).2) 1 = st_t (mv (BX 0) (BV 0) (nI a1)) (mv (BX 1) (BV 1) (nI a2)) := z4.symm
    refine lv_aload_n hx hb dX5_follow_44 rfl (lv_at hl 0 rfl) ?_
    refine m_get hx hb hts inX5 hown hK hP (ci := 5) rfl (k := k) (by omega) h3_1 1 (by decide) (hts (.fieldLink RX5 13 "RollbackPair$State" "speeds" "[F") (by decide +kernel)) rfl dX5_follow_45 ?_
    refine lv_iconst (v := nI 0) hx hb dX5_follow_48 (by decide) ?_
    refine m_fald hx hb hK hP (k := (k + 2)) (by omega) (f := (vf_upd (vf_upd V 0 (mv (BX 0) (BV 0) (nI a1)).2) 1 (mv (BX 1) (BV 1) (nI a2)).2)) h3_3 (i := 0) (by omega) (by decide) dX5_follow_49 ?_
    refine f_val hsp0 ?_
    refine lv_f2d hx hb dX5_follow_50 (wk_1 hs).n ?_
    refine lv_dstore (lv' := [(4, .double (FP.f2d (st_s (mv (BX 0) (BV 0) (nI a1)) (mv (BX 1) (BV 1) (nI a2))))), (0, .ref (ad k)), (1, .ref (ad b)), (2, .int (nI a1)), (3, .int (nI a2))]) hx hb dX5_follow_51 hl (by decide) rfl (fun ls hl => ?_)
    refine lv_aload_n hx hb dX5_follow_53 rfl (lv_at hl 1 rfl) ?_
    refine m_get hx hb hts inX5 hown hK hP (ci := 5) rfl (k := k) (by omega) h3_1 1 (by decide) (hts (.fieldLink RX5 13 "RollbackPair$State" "speeds" "[F") (by decide +kernel)) rfl dX5_follow_54 ?_
    refine lv_iconst (v := nI 1) hx hb dX5_follow_57 (by decide) ?_
    refine m_fald hx hb hK hP (k := (k + 2)) (by omega) (f := (vf_upd (vf_upd V 0 (mv (BX 0) (BV 0) (nI a1)).2) 1 (mv (BX 1) (BV 1) (nI a2)).2)) h3_3 (i := 1) (by omega) (by decide) dX5_follow_58 ?_
    refine f_val hsp1 ?_
    refine lv_f2d hx hb dX5_follow_59 (wk_1 ht).n ?_
    refine lv_dstore (lv' := [(6, .double (FP.f2d (st_t (mv (BX 0) (BV 0) (nI a1)) (mv (BX 1) (BV 1) (nI a2))))), (4, .double (FP.f2d (st_s (mv (BX 0) (BV 0) (nI a1)) (mv (BX 1) (BV 1) (nI a2))))), (0, .ref (ad k)), (1, .ref (ad b)), (2, .int (nI a1)), (3, .int (nI a2))]) hx hb dX5_follow_60 hl (by decide) rfl (fun ls hl => ?_)
    refine lv_aload_n hx hb dX5_follow_62 rfl (lv_at hl 2 rfl) ?_
    refine lv_aload_n hx hb dX5_follow_63 rfl (lv_at hl 3 rfl) ?_
    refine m_get hx hb hts inX5 hown hK hP (ci := 5) rfl (k := b) (by omega) h3_4 3 (by decide) (hts (.fieldLink RX5 29 "RollbackPair$State" "workDone" "D") (by decide +kernel)) rfl dX5_follow_64 ?_
    refine lv_dload hx hb dX5_follow_67 (lv_at hl 1 rfl) ?_
    refine lv_dload hx hb dX5_follow_69 (lv_at hl 1 rfl) ?_
    refine lv_dmul hx hb dX5_follow_71 (wk_2 (wk_1 hs)).n ?_
    refine lv_dload hx hb dX5_follow_72 (lv_at hl 0 rfl) ?_
    refine lv_dload hx hb dX5_follow_74 (lv_at hl 0 rfl) ?_
    refine lv_dmul hx hb dX5_follow_76 (wk_2 (wk_1 ht)).n ?_
    refine lv_dadd hx hb dX5_follow_77 (wk_3 (wk_2 (wk_1 hs)) (wk_2 (wk_1 ht))).n ?_
    refine lv_dadd hx hb dX5_follow_78 (wk_4 hfc hB.2.2.2.2 (wk_3 (wk_2 (wk_1 hs)) (wk_2 (wk_1 ht)))).n ?_
    refine m_put hx hb hts inX5 tyX5 tyX5_ok nmX5 hown hK hP hJ hS (ci := 5) rfl (k := k) (by omega) h3_1 3 (by decide) (hts (.fieldLink RX5 29 "RollbackPair$State" "workDone" "D") (by decide +kernel)) rfl rfl rfl (Nat.le_of_ble_eq_true rfl) (fs' := [.ref (ad (k + 1)), .ref (ad (k + 2)), .int bh, .double (FP.dadd bw (FP.dadd (FP.dmul (FP.f2d (st_s (mv (BX 0) (BV 0) (nI a1)) (mv (BX 1) (BV 1) (nI a2)))) (FP.f2d (st_s (mv (BX 0) (BV 0) (nI a1)) (mv (BX 1) (BV 1) (nI a2))))) (FP.dmul (FP.f2d (st_t (mv (BX 0) (BV 0) (nI a1)) (mv (BX 1) (BV 1) (nI a2)))) (FP.f2d (st_t (mv (BX 0) (BV 0) (nI a1)) (mv (BX 1) (BV 1) (nI a2)))))))]) rfl dX5_follow_79 (fun H locs hP hS => ?_)
    obtain ⟨M_4, eM_4⟩ : ∃ z, z = va_up M_3 k (.inr (5, [.ref (ad (k + 1)), .ref (ad (k + 2)), .int bh, .double (FP.dadd bw (FP.dadd (FP.dmul (FP.f2d (st_s (mv (BX 0) (BV 0) (nI a1)) (mv (BX 1) (BV 1) (nI a2)))) (FP.f2d (st_s (mv (BX 0) (BV 0) (nI a1)) (mv (BX 1) (BV 1) (nI a2))))) (FP.dmul (FP.f2d (st_t (mv (BX 0) (BV 0) (nI a1)) (mv (BX 1) (BV 1) (nI a2)))) (FP.f2d (st_t (mv (BX 0) (BV 0) (nI a1)) (mv (BX 1) (BV 1) (nI a2)))))))])) := ⟨_, rfl⟩
    rw [← eM_4] at hP
    have h4_1 : M_4 k = .inr (5, [.ref (ad (k + 1)), .ref (ad (k + 2)), .int bh, .double (FP.dadd bw (FP.dadd (FP.dmul (FP.f2d (st_s (mv (BX 0) (BV 0) (nI a1)) (mv (BX 1) (BV 1) (nI a2)))) (FP.f2d (st_s (mv (BX 0) (BV 0) (nI a1)) (mv (BX 1) (BV 1) (nI a2))))) (FP.dmul (FP.f2d (st_t (mv (BX 0) (BV 0) (nI a1)) (mv (BX 1) (BV 1) (nI a2)))) (FP.f2d (st_t (mv (BX 0) (BV 0) (nI a1)) (mv (BX 1) (BV 1) (nI a2)))))))]) := by rw [eM_4]; exact va_up_self _ _ _
    have h4_2 : M_4 (k + 1) = eF cs 2 (vf_upd (vf_upd X 0 (mv (BX 0) (BV 0) (nI a1)).1) 1 (mv (BX 1) (BV 1) (nI a2)).1) := by rw [eM_4]; exact (va_up_ne _ _ (by omega)).trans h3_2
    have h4_3 : M_4 (k + 2) = eF cs 2 (vf_upd (vf_upd V 0 (mv (BX 0) (BV 0) (nI a1)).2) 1 (mv (BX 1) (BV 1) (nI a2)).2) := by rw [eM_4]; exact (va_up_ne _ _ (by omega)).trans h3_3
    have h4_4 : M_4 b = .inr (5, [.ref (ad (b + 1)), .ref (ad (b + 2)), .int bh, .double bw]) := by rw [eM_4]; exact (va_up_ne _ _ (by omega)).trans h3_4
    have h4_5 : M_4 (b + 1) = eF cs 2 BX := by rw [eM_4]; exact (va_up_ne _ _ (by omega)).trans h3_5
    have h4_6 : M_4 (b + 2) = eF cs 2 BV := by rw [eM_4]; exact (va_up_ne _ _ (by omega)).trans h3_6
    exact r_v hx hb hr hlocks hK hP hS dX5_follow_82 ⟨by rw [z5, show bh + nI 0 = bh from Int32.add_zero bh]; exact h4_1, ⟨_, h4_2, z1.symm, z3.symm⟩, ⟨_, h4_3, hsp0, hsp1⟩, fun i hi => by rw [eM_4, va_up_ne _ _ (by omega), eM_3, va_up_ne _ _ (by omega), q1f i (by omega) (by omega), q0f i (by omega) (by omega)]⟩
  · refine lv_aload_n hx hb dX5_follow_40 rfl (lv_at hl 0 rfl) ?_
    refine k_Vv (As := []) (rest := []) (k := k) (ci := 5) ⟨hx, hb, hml, hown, hts⟩ hK hP hS Ad_le (c_bounce l D cs ad n hJ M_3 k (vf_upd (vf_upd X 0 (mv (BX 0) (BV 0) (nI a1)).1) 1 (mv (BX 1) (BV 1) (nI a2)).1) (vf_upd (vf_upd V 0 (mv (BX 0) (BV 0) (nI a1)).2) 1 (mv (BX 1) (BV 1) (nI a2)).2) bh wk hk h3_1 h3_2 h3_3 hA1.1 hB1.1) (cwV 0 hts gX5_follow_X5_bounceApart rfl rfl rfl (by decide +kernel) ⟨Nat.le_of_ble_eq_true rfl, Nat.le_of_ble_eq_true rfl⟩) (by omega) h3_1 rfl rfl rfl hl.1 (Nat.le_of_ble_eq_true rfl) dX5_follow_41 ⟨Nat.le_of_ble_eq_true rfl, Nat.le_of_ble_eq_true rfl⟩ (fun N3 H locs hpo hP hS _ _ => ?_)
    obtain ⟨r1, ⟨X9, r2, r3, r4⟩, ⟨V9, r5, r6, r7⟩, rf⟩ := hpo
    obtain ⟨z1, z2, z3, z4, z5⟩ := st_hit (A := (mv (BX 0) (BV 0) (nI a1))) (B := (mv (BX 1) (BV 1) (nI a2))) c1
    have h5_4 : N3 b = .inr (5, [.ref (ad (b + 1)), .ref (ad (b + 2)), .int bh, .double bw]) := (rf _ (by omega)).trans h3_4
    have h5_5 : N3 (b + 1) = eF cs 2 BX := (rf _ (by omega)).trans h3_5
    have h5_6 : N3 (b + 2) = eF cs 2 BV := (rf _ (by omega)).trans h3_6
    have hsp0 : V9 0 = st_s (mv (BX 0) (BV 0) (nI a1)) (mv (BX 1) (BV 1) (nI a2)) := r6.trans z2.symm
    have hsp1 : V9 1 = st_t (mv (BX 0) (BV 0) (nI a1)) (mv (BX 1) (BV 1) (nI a2)) := r7.trans z4.symm
    refine lv_aload_n hx hb dX5_follow_44 rfl (lv_at hl 0 rfl) ?_
    refine m_get hx hb hts inX5 hown hK hP (ci := 5) rfl (k := k) (by omega) r1 1 (by decide) (hts (.fieldLink RX5 13 "RollbackPair$State" "speeds" "[F") (by decide +kernel)) rfl dX5_follow_45 ?_
    refine lv_iconst (v := nI 0) hx hb dX5_follow_48 (by decide) ?_
    refine m_fald hx hb hK hP (k := (k + 2)) (by omega) (f := V9) r5 (i := 0) (by omega) (by decide) dX5_follow_49 ?_
    refine f_val hsp0 ?_
    refine lv_f2d hx hb dX5_follow_50 (wk_1 hs).n ?_
    refine lv_dstore (lv' := [(4, .double (FP.f2d (st_s (mv (BX 0) (BV 0) (nI a1)) (mv (BX 1) (BV 1) (nI a2))))), (0, .ref (ad k)), (1, .ref (ad b)), (2, .int (nI a1)), (3, .int (nI a2))]) hx hb dX5_follow_51 hl (by decide) rfl (fun ls hl => ?_)
    refine lv_aload_n hx hb dX5_follow_53 rfl (lv_at hl 1 rfl) ?_
    refine m_get hx hb hts inX5 hown hK hP (ci := 5) rfl (k := k) (by omega) r1 1 (by decide) (hts (.fieldLink RX5 13 "RollbackPair$State" "speeds" "[F") (by decide +kernel)) rfl dX5_follow_54 ?_
    refine lv_iconst (v := nI 1) hx hb dX5_follow_57 (by decide) ?_
    refine m_fald hx hb hK hP (k := (k + 2)) (by omega) (f := V9) r5 (i := 1) (by omega) (by decide) dX5_follow_58 ?_
    refine f_val hsp1 ?_
    refine lv_f2d hx hb dX5_follow_59 (wk_1 ht).n ?_
    refine lv_dstore (lv' := [(6, .double (FP.f2d (st_t (mv (BX 0) (BV 0) (nI a1)) (mv (BX 1) (BV 1) (nI a2))))), (4, .double (FP.f2d (st_s (mv (BX 0) (BV 0) (nI a1)) (mv (BX 1) (BV 1) (nI a2))))), (0, .ref (ad k)), (1, .ref (ad b)), (2, .int (nI a1)), (3, .int (nI a2))]) hx hb dX5_follow_60 hl (by decide) rfl (fun ls hl => ?_)
    refine lv_aload_n hx hb dX5_follow_62 rfl (lv_at hl 2 rfl) ?_
    refine lv_aload_n hx hb dX5_follow_63 rfl (lv_at hl 3 rfl) ?_
    refine m_get hx hb hts inX5 hown hK hP (ci := 5) rfl (k := b) (by omega) h5_4 3 (by decide) (hts (.fieldLink RX5 29 "RollbackPair$State" "workDone" "D") (by decide +kernel)) rfl dX5_follow_64 ?_
    refine lv_dload hx hb dX5_follow_67 (lv_at hl 1 rfl) ?_
    refine lv_dload hx hb dX5_follow_69 (lv_at hl 1 rfl) ?_
    refine lv_dmul hx hb dX5_follow_71 (wk_2 (wk_1 hs)).n ?_
    refine lv_dload hx hb dX5_follow_72 (lv_at hl 0 rfl) ?_
    refine lv_dload hx hb dX5_follow_74 (lv_at hl 0 rfl) ?_
    refine lv_dmul hx hb dX5_follow_76 (wk_2 (wk_1 ht)).n ?_
    refine lv_dadd hx hb dX5_follow_77 (wk_3 (wk_2 (wk_1 hs)) (wk_2 (wk_1 ht))).n ?_
    refine lv_dadd hx hb dX5_follow_78 (wk_4 hfc hB.2.2.2.2 (wk_3 (wk_2 (wk_1 hs)) (wk_2 (wk_1 ht)))).n ?_
    refine m_put hx hb hts inX5 tyX5 tyX5_ok nmX5 hown hK hP hJ hS (ci := 5) rfl (k := k) (by omega) r1 3 (by decide) (hts (.fieldLink RX5 29 "RollbackPair$State" "workDone" "D") (by decide +kernel)) rfl rfl rfl (Nat.le_of_ble_eq_true rfl) (fs' := [.ref (ad (k + 1)), .ref (ad (k + 2)), .int (bh + nI 1), .double (FP.dadd bw (FP.dadd (FP.dmul (FP.f2d (st_s (mv (BX 0) (BV 0) (nI a1)) (mv (BX 1) (BV 1) (nI a2)))) (FP.f2d (st_s (mv (BX 0) (BV 0) (nI a1)) (mv (BX 1) (BV 1) (nI a2))))) (FP.dmul (FP.f2d (st_t (mv (BX 0) (BV 0) (nI a1)) (mv (BX 1) (BV 1) (nI a2)))) (FP.f2d (st_t (mv (BX 0) (BV 0) (nI a1)) (mv (BX 1) (BV 1) (nI a2)))))))]) rfl dX5_follow_79 (fun H locs hP hS => ?_)
    obtain ⟨M_6, eM_6⟩ : ∃ z, z = va_up N3 k (.inr (5, [.ref (ad (k + 1)), .ref (ad (k + 2)), .int (bh + nI 1), .double (FP.dadd bw (FP.dadd (FP.dmul (FP.f2d (st_s (mv (BX 0) (BV 0) (nI a1)) (mv (BX 1) (BV 1) (nI a2)))) (FP.f2d (st_s (mv (BX 0) (BV 0) (nI a1)) (mv (BX 1) (BV 1) (nI a2))))) (FP.dmul (FP.f2d (st_t (mv (BX 0) (BV 0) (nI a1)) (mv (BX 1) (BV 1) (nI a2)))) (FP.f2d (st_t (mv (BX 0) (BV 0) (nI a1)) (mv (BX 1) (BV 1) (nI a2)))))))])) := ⟨_, rfl⟩
    rw [← eM_6] at hP
    have h6_1 : M_6 k = .inr (5, [.ref (ad (k + 1)), .ref (ad (k + 2)), .int (bh + nI 1), .double (FP.dadd bw (FP.dadd (FP.dmul (FP.f2d (st_s (mv (BX 0) (BV 0) (nI a1)) (mv (BX 1) (BV 1) (nI a2)))) (FP.f2d (st_s (mv (BX 0) (BV 0) (nI a1)) (mv (BX 1) (BV 1) (nI a2))))) (FP.dmul (FP.f2d (st_t (mv (BX 0) (BV 0) (nI a1)) (mv (BX 1) (BV 1) (nI a2)))) (FP.f2d (st_t (mv (BX 0) (BV 0) (nI a1)) (mv (BX 1) (BV 1) (nI a2)))))))]) := by rw [eM_6]; exact va_up_self _ _ _
    have h6_2 : M_6 (k + 1) = eF cs 2 X9 := by rw [eM_6]; exact (va_up_ne _ _ (by omega)).trans r2
    have h6_3 : M_6 (k + 2) = eF cs 2 V9 := by rw [eM_6]; exact (va_up_ne _ _ (by omega)).trans r5
    have h6_4 : M_6 b = .inr (5, [.ref (ad (b + 1)), .ref (ad (b + 2)), .int bh, .double bw]) := by rw [eM_6]; exact (va_up_ne _ _ (by omega)).trans h5_4
    have h6_5 : M_6 (b + 1) = eF cs 2 BX := by rw [eM_6]; exact (va_up_ne _ _ (by omega)).trans h5_5
    have h6_6 : M_6 (b + 2) = eF cs 2 BV := by rw [eM_6]; exact (va_up_ne _ _ (by omega)).trans h5_6
    exact r_v hx hb hr hlocks hK hP hS dX5_follow_82 ⟨by rw [z5]; exact h6_1, ⟨_, h6_2, r3.trans z1.symm, r4.trans z3.symm⟩, ⟨_, h6_3, hsp0, hsp1⟩, fun i hi => by rw [eM_6, va_up_ne _ _ (by omega), rf i hi, eM_3, va_up_ne _ _ (by omega), q1f i (by omega) (by omega), q0f i (by omega) (by omega)]⟩
set_option maxHeartbeats 4000000 in
set_option maxRecDepth 100000 in
/-- State.total() -/
theorem c_total (l : Launch) (D : va_G) (cs : Nat → ClassId) (ad : Nat → Nat) (n : Nat) (hJ : Inj ad n) (M : Nat → va_E) (k : Nat) (X V : Nat → UInt32) (h : Int32) (wk : UInt64) (hk : k + 3 ≤ n) (h1 : M k = oSt ad k h wk) (h2 : M (k + 1) = eF cs 2 X) (h3 : M (k + 2) = eF cs 2 V) (fc : Nat) (hB : Bd (X 0) (V 0) (X 1) (V 1) wk fc) : CTi l yX5_total wsX5_total ({ frames := 0, cells := 0, slots := 0, locals := 0 }) D cs ad n M [.ref (ad k)] (fun r M2 => M2 = M ∧ r = sumS (X 0) (V 0) (X 1) (V 1) h wk) := by
  refine Met.ofW (cc := cX5_total) (maxL := 3) (ret := (some .int)) (by decide) rfl ?_
  intro p e s m args below meth c s₁ B hml hv
  obtain ⟨rfl, hP, hK⟩ := hv
  have hx := B.exec
  have hb := B.bytes
  have hr := B.returns
  have hts := atoms_spec (ws := wsX5_total) B.pre
  have hown : s.vm.findClass RX5 = some m.cls := findClass_of_methodNamed B.named
  have hlocks := B.notSynchronized
  have hS : va_S (Ad ad n) s.heap s.heap [] := va_S.rf
  have hl := lv_entry ([.ref (ad k)]) (n := 3) (Nat.le_of_ble_eq_true rfl)
  rw [lg_entry_eq]
  generalize (lg_sl ([.ref (ad k)]) ++ List.replicate (3 - (lg_sl ([.ref (ad k)])).length) Slot.unset).toArray = ls at hl ⊢
  have hl : lv_has ls 3 [(0, .ref (ad k))] := hl
  have inX5 : ∀ w ∈ u_ws RX5 TX5 4, w ∈ wsX5_total := fun w h => List.mem_cons_of_mem _ (List.mem_append_right _ h)
  refine lv_bipush (v := nI 17) hx hb dX5_total_0 (by decide) ?_
  refine lv_istore_n (lv' := [(1, .int (nI 17)), (0, .ref (ad k))]) hx hb dX5_total_2 rfl hl (by decide) rfl (fun ls hl => ?_)
  refine lv_iconst (v := nI 0) hx hb dX5_total_3 (by decide) ?_
  refine lv_istore_n (lv' := [(2, .int (nI 0)), (1, .int (nI 17)), (0, .ref (ad k))]) hx hb dX5_total_4 rfl hl (by decide) rfl (fun ls hl => ?_)
  refine lv_iload_n hx hb dX5_total_5 rfl (lv_at hl 0 rfl) ?_
  refine lv_iconst (v := nI 2) hx hb dX5_total_6 (by decide) ?_
  refine n_cmp_ge (tgt := 48) hx hb dX5_total_7 (by decide) (by omega) (by omega) (fun c_1 => absurd c_1 (by decide)) (fun c_1 => ?_)
  refine lv_iload_n hx hb dX5_total_10 rfl (lv_at hl 1 rfl) ?_
  refine lv_bipush (v := nI 31) hx hb dX5_total_11 (by decide) ?_
  refine n_mul hx hb dX5_total_13 ?_
  refine lv_aload_n hx hb dX5_total_14 rfl (lv_at hl 2 rfl) ?_
  refine m_get hx hb hts inX5 hown hK hP (ci := 5) rfl (k := k) (by omega) h1 0 (by decide) (hts (.fieldLink RX5 7 "RollbackPair$State" "places" "[F") (by decide +kernel)) rfl dX5_total_15 ?_
  refine lv_iload_n hx hb dX5_total_18 rfl (lv_at hl 0 rfl) ?_
  refine m_fald hx hb hK hP (k := (k + 1)) (by omega) (f := X) h2 (i := 0) (by omega) (by decide) dX5_total_19 ?_
  refine lv_ldcf hx hb hown (hts (.constantFloat RX5 38 (1166016512)) (by decide +kernel)) dX5_total_20 ?_
  refine lv_fmul hx hb dX5_total_22 (by first | exact fm_n hB.1.1 Fc_4096 | exact fm_n hB.2.2.1.1 Fc_4096) ?_
  refine lv_f2i hx hb dX5_total_23 ?_
  refine lv_iadd hx hb dX5_total_24 ?_
  refine lv_istore_n (lv' := [(1, .int ((nI (17 * 31)) + (FP.f2i (FP.fmul (X 0) 1166016512)))), (2, .int (nI 0)), (0, .ref (ad k))]) hx hb dX5_total_25 rfl hl (by decide) rfl (fun ls hl => ?_)
  refine lv_iload_n hx hb dX5_total_26 rfl (lv_at hl 0 rfl) ?_
  refine lv_bipush (v := nI 31) hx hb dX5_total_27 (by decide) ?_
  refine lv_imul hx hb dX5_total_29 ?_
  refine lv_aload_n hx hb dX5_total_30 rfl (lv_at hl 2 rfl) ?_
  refine m_get hx hb hts inX5 hown hK hP (ci := 5) rfl (k := k) (by omega) h1 1 (by decide) (hts (.fieldLink RX5 13 "RollbackPair$State" "speeds" "[F") (by decide +kernel)) rfl dX5_total_31 ?_
  refine lv_iload_n hx hb dX5_total_34 rfl (lv_at hl 1 rfl) ?_
  refine m_fald hx hb hK hP (k := (k + 2)) (by omega) (f := V) h3 (i := 0) (by omega) (by decide) dX5_total_35 ?_
  refine lv_ldcf hx hb hown (hts (.constantFloat RX5 38 (1166016512)) (by decide +kernel)) dX5_total_36 ?_
  refine lv_fmul hx hb dX5_total_38 (by first | exact fm_n hB.2.1.1 Fc_4096 | exact fm_n hB.2.2.2.1.1 Fc_4096) ?_
  refine lv_f2i hx hb dX5_total_39 ?_
  refine lv_iadd hx hb dX5_total_40 ?_
  refine lv_istore_n (lv' := [(1, .int ((((nI (17 * 31)) + (FP.f2i (FP.fmul (X 0) 1166016512))) * (nI 31)) + (FP.f2i (FP.fmul (V 0) 1166016512)))), (2, .int (nI 0)), (0, .ref (ad k))]) hx hb dX5_total_41 rfl hl (by decide) rfl (fun ls hl => ?_)
  refine lv_iinc (v := nI 1) (lv' := [(2, .int (nI 1)), (1, .int ((((nI (17 * 31)) + (FP.f2i (FP.fmul (X 0) 1166016512))) * (nI 31)) + (FP.f2i (FP.fmul (V 0) 1166016512)))), (0, .ref (ad k))]) hx hb dX5_total_42 hl (k := 1) rfl (nI_1 _) (by decide) rfl (fun ls hl => ?_)
  refine lv_goto (tgt := 5) hx hb dX5_total_45 (by decide) ?_
  refine lv_iload_n hx hb dX5_total_5 rfl (lv_at hl 0 rfl) ?_
  refine lv_iconst (v := nI 2) hx hb dX5_total_6 (by decide) ?_
  refine n_cmp_ge (tgt := 48) hx hb dX5_total_7 (by decide) (by omega) (by omega) (fun c_2 => absurd c_2 (by decide)) (fun c_2 => ?_)
  refine lv_iload_n hx hb dX5_total_10 rfl (lv_at hl 1 rfl) ?_
  refine lv_bipush (v := nI 31) hx hb dX5_total_11 (by decide) ?_
  refine lv_imul hx hb dX5_total_13 ?_
  refine lv_aload_n hx hb dX5_total_14 rfl (lv_at hl 2 rfl) ?_
  refine m_get hx hb hts inX5 hown hK hP (ci := 5) rfl (k := k) (by omega) h1 0 (by decide) (hts (.fieldLink RX5 7 "RollbackPair$State" "places" "[F") (by decide +kernel)) rfl dX5_total_15 ?_
  refine lv_iload_n hx hb dX5_total_18 rfl (lv_at hl 0 rfl) ?_
  refine m_fald hx hb hK hP (k := (k + 1)) (by omega) (f := X) h2 (i := 1) (by omega) (by decide) dX5_total_19 ?_
  refine lv_ldcf hx hb hown (hts (.constantFloat RX5 38 (1166016512)) (by decide +kernel)) dX5_total_20 ?_
  refine lv_fmul hx hb dX5_total_22 (by first | exact fm_n hB.1.1 Fc_4096 | exact fm_n hB.2.2.1.1 Fc_4096) ?_
  refine lv_f2i hx hb dX5_total_23 ?_
  refine lv_iadd hx hb dX5_total_24 ?_
  refine lv_istore_n (lv' := [(1, .int ((((((nI (17 * 31)) + (FP.f2i (FP.fmul (X 0) 1166016512))) * (nI 31)) + (FP.f2i (FP.fmul (V 0) 1166016512))) * (nI 31)) + (FP.f2i (FP.fmul (X 1) 1166016512)))), (2, .int (nI 1)), (0, .ref (ad k))]) hx hb dX5_total_25 rfl hl (by decide) rfl (fun ls hl => ?_)
  refine lv_iload_n hx hb dX5_total_26 rfl (lv_at hl 0 rfl) ?_
  refine lv_bipush (v := nI 31) hx hb dX5_total_27 (by decide) ?_
  refine lv_imul hx hb dX5_total_29 ?_
  refine lv_aload_n hx hb dX5_total_30 rfl (lv_at hl 2 rfl) ?_
  refine m_get hx hb hts inX5 hown hK hP (ci := 5) rfl (k := k) (by omega) h1 1 (by decide) (hts (.fieldLink RX5 13 "RollbackPair$State" "speeds" "[F") (by decide +kernel)) rfl dX5_total_31 ?_
  refine lv_iload_n hx hb dX5_total_34 rfl (lv_at hl 1 rfl) ?_
  refine m_fald hx hb hK hP (k := (k + 2)) (by omega) (f := V) h3 (i := 1) (by omega) (by decide) dX5_total_35 ?_
  refine lv_ldcf hx hb hown (hts (.constantFloat RX5 38 (1166016512)) (by decide +kernel)) dX5_total_36 ?_
  refine lv_fmul hx hb dX5_total_38 (by first | exact fm_n hB.2.1.1 Fc_4096 | exact fm_n hB.2.2.2.1.1 Fc_4096) ?_
  refine lv_f2i hx hb dX5_total_39 ?_
  refine lv_iadd hx hb dX5_total_40 ?_
  refine lv_istore_n (lv' := [(1, .int ((((((((nI (17 * 31)) + (FP.f2i (FP.fmul (X 0) 1166016512))) * (nI 31)) + (FP.f2i (FP.fmul (V 0) 1166016512))) * (nI 31)) + (FP.f2i (FP.fmul (X 1) 1166016512))) * (nI 31)) + (FP.f2i (FP.fmul (V 1) 1166016512)))), (2, .int (nI 1)), (0, .ref (ad k))]) hx hb dX5_total_41 rfl hl (by decide) rfl (fun ls hl => ?_)
  refine lv_iinc (v := nI 2) (lv' := [(2, .int (nI 2)), (1, .int ((((((((nI (17 * 31)) + (FP.f2i (FP.fmul (X 0) 1166016512))) * (nI 31)) + (FP.f2i (FP.fmul (V 0) 1166016512))) * (nI 31)) + (FP.f2i (FP.fmul (X 1) 1166016512))) * (nI 31)) + (FP.f2i (FP.fmul (V 1) 1166016512)))), (0, .ref (ad k))]) hx hb dX5_total_42 hl (k := 1) rfl (nI_1 _) (by decide) rfl (fun ls hl => ?_)
  refine lv_goto (tgt := 5) hx hb dX5_total_45 (by decide) ?_
  refine lv_iload_n hx hb dX5_total_5 rfl (lv_at hl 0 rfl) ?_
  refine lv_iconst (v := nI 2) hx hb dX5_total_6 (by decide) ?_
  refine n_cmp_ge (tgt := 48) hx hb dX5_total_7 (by decide) (by omega) (by omega) (fun c_3 => ?_) (fun c_3 => absurd c_3 (by decide))
  refine lv_iload_n hx hb dX5_total_48 rfl (lv_at hl 1 rfl) ?_
  refine lv_bipush (v := nI 31) hx hb dX5_total_49 (by decide) ?_
  refine lv_imul hx hb dX5_total_51 ?_
  refine lv_aload_n hx hb dX5_total_52 rfl (lv_at hl 2 rfl) ?_
  refine m_get hx hb hts inX5 hown hK hP (ci := 5) rfl (k := k) (by omega) h1 2 (by decide) (hts (.fieldLink RX5 22 "RollbackPair$State" "hitCount" "I") (by decide +kernel)) rfl dX5_total_53 ?_
  refine lv_iadd hx hb dX5_total_56 ?_
  refine lv_istore_n (lv' := [(1, .int ((((((((((nI (17 * 31)) + (FP.f2i (FP.fmul (X 0) 1166016512))) * (nI 31)) + (FP.f2i (FP.fmul (V 0) 1166016512))) * (nI 31)) + (FP.f2i (FP.fmul (X 1) 1166016512))) * (nI 31)) + (FP.f2i (FP.fmul (V 1) 1166016512))) * (nI 31)) + h)), (2, .int (nI 2)), (0, .ref (ad k))]) hx hb dX5_total_57 rfl hl (by decide) rfl (fun ls hl => ?_)
  refine lv_iload_n hx hb dX5_total_58 rfl (lv_at hl 0 rfl) ?_
  refine lv_bipush (v := nI 31) hx hb dX5_total_59 (by decide) ?_
  refine lv_imul hx hb dX5_total_61 ?_
  refine lv_aload_n hx hb dX5_total_62 rfl (lv_at hl 2 rfl) ?_
  refine m_get hx hb hts inX5 hown hK hP (ci := 5) rfl (k := k) (by omega) h1 3 (by decide) (hts (.fieldLink RX5 29 "RollbackPair$State" "workDone" "D") (by decide +kernel)) rfl dX5_total_63 ?_
  refine lv_ldc2d hx hb hown (hts (.constantDouble RX5 39 (4634204016564240384)) (by decide +kernel)) dX5_total_66 ?_
  refine lv_dmul hx hb dX5_total_69 (dm_n hB.2.2.2.2.1 Dc_64) ?_
  refine lv_d2i hx hb dX5_total_70 ?_
  refine lv_iadd hx hb dX5_total_71 ?_
  exact r_i hx hb hr hlocks hK hP hS dX5_total_72 ⟨rfl, rfl⟩
end
section
/-- a History in the place k: the rows of states and inputs, and the sixteen states behind them -/
def HiA (ad : Nat → Nat) (cs : Nat → ClassId) (k : Nat) (M : Nat → va_E) (X V : Nat → Nat → UInt32) (hh : Nat → Int32) (ww : Nat → UInt64) (U : Nat → Nat → Int32) : Prop :=
  M k = .inr (0, [.ref (ad (k + 1)), .ref (ad (k + 2))]) ∧ (∃ g, M (k + 1) = eQ cs 8 16 g ∧ ∀ i, i < 16 → g i = some (ad (k + 5 + 3 * i))) ∧ (∃ g, M (k + 2) = eQ cs 10 2 g ∧ g 0 = some (ad (k + 3)) ∧ g 1 = some (ad (k + 4))) ∧ M (k + 3) = eB cs 16 (U 0) ∧ M (k + 4) = eB cs 16 (U 1) ∧
  ∀ i, i < 16 → M (k + 5 + 3 * i) = oSt ad (k + 5 + 3 * i) (hh i) (ww i) ∧ M (k + 5 + 3 * i + 1) = eF cs 2 (X i) ∧ M (k + 5 + 3 * i + 2) = eF cs 2 (V i)
theorem HiA.kept {ad : Nat → Nat} {cs : Nat → ClassId} {k : Nat} {M M2 : Nat → va_E} {X V : Nat → Nat → UInt32} {hh : Nat → Int32} {ww : Nat → UInt64} {U : Nat → Nat → Int32} (h : HiA ad cs k M X V hh ww U) (hf : ∀ j, k ≤ j → j < k + 53 → M2 j = M j) : HiA ad cs k M2 X V hh ww U := by
  obtain ⟨h1, ⟨g, h2, h3⟩, ⟨g2, h4, h5⟩, h6, h7, h8⟩ := h
  refine ⟨(hf _ (by omega) (by omega)).trans h1, ⟨g, (hf _ (by omega) (by omega)).trans h2, h3⟩, ⟨g2, (hf _ (by omega) (by omega)).trans h4, h5⟩, (hf _ (by omega) (by omega)).trans h6, (hf _ (by omega) (by omega)).trans h7, fun i hi => ?_⟩
  obtain ⟨a, b, c⟩ := h8 i hi
  exact ⟨(hf _ (by omega) (by omega)).trans a, (hf _ (by omega) (by omega)).trans b, (hf _ (by omega) (by omega)).trans c⟩
set_option maxHeartbeats 4000000 in
set_option maxRecDepth 100000 in
/-- History.before(f) -/
theorem c_before (l : Launch) (D : va_G) (cs : Nat → ClassId) (ad : Nat → Nat) (n : Nat) (hJ : Inj ad n) (M : Nat → va_E) (k : Nat) (g : Nat → Option Nat) (hk : k + 53 ≤ n) (h1 : M k = .inr (0, [.ref (ad (k + 1)), .ref (ad (k + 2))])) (h2 : M (k + 1) = eQ cs 8 16 g) (hg : ∀ i, i < 16 → g i = some (ad (k + 5 + 3 * i))) (f : Nat) (hf : f < 2 ^ 30) : CTq l yX0_before wsX0_before ({ frames := 0, cells := 0, slots := 0, locals := 0 }) D cs ad n M [.ref (ad k), .int (nI f)] (fun r M2 => M2 = M ∧ r = some (ad (k + 5 + 3 * (f % 16)))) := by
  refine Met.ofW (cc := cX0_before) (maxL := 2) (ret := (some (.object "RollbackPair$State"))) (by decide) rfl ?_
  intro p e s m args below meth c s₁ B hml hv
  obtain ⟨rfl, hP, hK⟩ := hv
  have hx := B.exec
  have hb := B.bytes
  have hr := B.returns
  have hts := atoms_spec (ws := wsX0_before) B.pre
  have hown : s.vm.findClass RX0 = some m.cls := findClass_of_methodNamed B.named
  have hlocks := B.notSynchronized
  have hS : va_S (Ad ad n) s.heap s.heap [] := va_S.rf
  have hl := lv_entry ([.ref (ad k), .int (nI f)]) (n := 2) (Nat.le_of_ble_eq_true rfl)
  rw [lg_entry_eq]
  generalize (lg_sl ([.ref (ad k), .int (nI f)]) ++ List.replicate (2 - (lg_sl ([.ref (ad k), .int (nI f)])).length) Slot.unset).toArray = ls at hl ⊢
  have hl : lv_has ls 2 [(0, .ref (ad k)), (1, .int (nI f))] := hl
  have inX0 : ∀ w ∈ u_ws RX0 TX0 2, w ∈ wsX0_before := fun w h => List.mem_cons_of_mem _ (List.mem_append_right _ h)
  refine lv_aload_n hx hb dX0_before_0 rfl (lv_at hl 0 rfl) ?_
  refine m_get hx hb hts inX0 hown hK hP (ci := 0) rfl (k := k) (by omega) h1 0 (by decide) (hts (.fieldLink RX0 13 "RollbackPair$History" "states" "[LRollbackPair$State;") (by decide +kernel)) rfl dX0_before_1 ?_
  refine lv_iload_n hx hb dX0_before_4 rfl (lv_at hl 1 rfl) ?_
  refine lv_bipush (v := nI 15) hx hb dX0_before_5 (by decide) ?_
  refine n_and (d := f % 16) hx hb (and_mod (b := 4) rfl (by decide) (by omega)) dX0_before_7 ?_
  refine m_aald hx hb hK hP 8 rfl (k := (k + 1)) (by omega) h2 (i := f % 16) (by omega) (by decide) (r := some (ad (k + 5 + 3 * (f % 16)))) (hg _ (by omega)) dX0_before_8 ?_
  exact r_q hx hb hr hlocks hK hP hS dX0_before_9 (v := some (ad (k + 5 + 3 * (f % 16)))) ⟨rfl, rfl⟩
/-- what a frame does to the states and inputs that are kept -/
def HiP (X V : Nat → Nat → UInt32) (hh : Nat → Int32) (ww : Nat → UInt64) (U : Nat → Nat → Int32) (f a1 a2 : Nat) (X2 V2 : Nat → Nat → UInt32) (hh2 : Nat → Int32) (ww2 : Nat → UInt64) (U2 : Nat → Nat → Int32) : Prop :=
  X2 ((f + 1) % 16) 0 = st_x (mv (X (f % 16) 0) (V (f % 16) 0) (nI a1)) (mv (X (f % 16) 1) (V (f % 16) 1) (nI a2)) ∧ X2 ((f + 1) % 16) 1 = st_y (mv (X (f % 16) 0) (V (f % 16) 0) (nI a1)) (mv (X (f % 16) 1) (V (f % 16) 1) (nI a2)) ∧ V2 ((f + 1) % 16) 0 = st_s (mv (X (f % 16) 0) (V (f % 16) 0) (nI a1)) (mv (X (f % 16) 1) (V (f % 16) 1) (nI a2)) ∧ V2 ((f + 1) % 16) 1 = st_t (mv (X (f % 16) 0) (V (f % 16) 0) (nI a1)) (mv (X (f % 16) 1) (V (f % 16) 1) (nI a2)) ∧ hh2 ((f + 1) % 16) = hh (f % 16) + st_m (mv (X (f % 16) 0) (V (f % 16) 0) (nI a1)) (mv (X (f % 16) 1) (V (f % 16) 1) (nI a2)) ∧ ww2 ((f + 1) % 16) = st_w (mv (X (f % 16) 0) (V (f % 16) 0) (nI a1)) (mv (X (f % 16) 1) (V (f % 16) 1) (nI a2)) (ww (f % 16)) ∧
  (∀ i, i ≠ (f + 1) % 16 → X2 i = X i ∧ V2 i = V i ∧ hh2 i = hh i ∧ ww2 i = ww i) ∧ U2 0 = upd (U 0) (f % 16) (nI a1) ∧ U2 1 = upd (U 1) (f % 16) (nI a2)
set_option maxHeartbeats 4000000 in
set_option maxRecDepth 100000 in
/-- History.play(f, a1, a2) -/
theorem c_hplay (l : Launch) (D : va_G) (cs : Nat → ClassId) (ad : Nat → Nat) (n : Nat) (hJ : Inj ad n) (M : Nat → va_E) (k : Nat) (X V : Nat → Nat → UInt32) (hh : Nat → Int32) (ww : Nat → UInt64) (U : Nat → Nat → Int32) (hk : k + 53 ≤ n) (hH : HiA ad cs k M X V hh ww U) (f a1 a2 fc : Nat) (hf : f < 2 ^ 29) (ha1 : a1 < 8) (ha2 : a2 < 8) (hfc : fc ≤ 1000000) (hB : Bd (X (f % 16) 0) (V (f % 16) 0) (X (f % 16) 1) (V (f % 16) 1) (ww (f % 16)) fc) : CTv l yX0_play wsX0_play ({ frames := 2, cells := 0, slots := 0, locals := 53 }) D cs ad n M [.ref (ad k), .int (nI f), .int (nI a1), .int (nI a2)] (fun M2 => ∃ X2 V2 hh2 ww2 U2, HiA ad cs k M2 X2 V2 hh2 ww2 U2 ∧ HiP X V hh ww U f a1 a2 X2 V2 hh2 ww2 U2 ∧ ∀ j, (j < k ∨ k + 53 ≤ j) → M2 j = M j) := by
  refine Met.ofW (cc := cX0_play) (maxL := 4) (ret := none) (by decide) rfl ?_
  intro p e s m args below meth c s₁ B hml hv
  obtain ⟨rfl, hP, hK⟩ := hv
  have hx := B.exec
  have hb := B.bytes
  have hr := B.returns
  have hts := atoms_spec (ws := wsX0_play) B.pre
  have hown : s.vm.findClass RX0 = some m.cls := findClass_of_methodNamed B.named
  have hlocks := B.notSynchronized
  have hS : va_S (Ad ad n) s.heap s.heap [] := va_S.rf
  have hl := lv_entry ([.ref (ad k), .int (nI f), .int (nI a1), .int (nI a2)]) (n := 4) (Nat.le_of_ble_eq_true rfl)
  rw [lg_entry_eq]
  generalize (lg_sl ([.ref (ad k), .int (nI f), .int (nI a1), .int (nI a2)]) ++ List.replicate (4 - (lg_sl ([.ref (ad k), .int (nI f), .int (nI a1), .int (nI a2)])).length) Slot.unset).toArray = ls at hl ⊢
  have hl : lv_has ls 4 [(0, .ref (ad k)), (1, .int (nI f)), (2, .int (nI a1)), (3, .int (nI a2))] := hl
  have inX0 : ∀ w ∈ u_ws RX0 TX0 2, w ∈ wsX0_play := fun w h => List.mem_cons_of_mem _ (List.mem_append_left _ (List.mem_append_right _ h))
  have inX5 : ∀ w ∈ u_ws RX5 TX5 4, w ∈ wsX0_play := fun w h => List.mem_cons_of_mem _ (List.mem_append_right _ h)
  obtain ⟨h1, ⟨g, h2, hg⟩, ⟨g2, h3, hg0, hg1⟩, h4, h5, hst⟩ := id hH
  obtain ⟨s1, s2, s3⟩ := hst ((f + 1) % 16) (by omega)
  obtain ⟨t1, t2, t3⟩ := hst (f % 16) (by omega)
  refine lv_aload_n hx hb dX0_play_0 rfl (lv_at hl 0 rfl) ?_
  refine m_get hx hb hts inX0 hown hK hP (ci := 0) rfl (k := k) (by omega) h1 1 (by decide) (hts (.fieldLink RX0 19 "RollbackPair$History" "inputs" "[[B") (by decide +kernel)) rfl dX0_play_1 ?_
  refine lv_iconst (v := nI 0) hx hb dX0_play_4 (by decide) ?_
  refine m_aaldA hx hb hK hP 10 rfl (k := (k + 2)) (by omega) h3 (i := 0) (by decide) (by decide) (r := some (ad (k + 3))) hg0 dX0_play_5 ?_
  refine lv_iload_n hx hb dX0_play_6 rfl (lv_at hl 1 rfl) ?_
  refine lv_bipush (v := nI 15) hx hb dX0_play_7 (by decide) ?_
  refine n_and (d := f % 16) hx hb (and_mod (b := 4) rfl (by decide) (by omega)) dX0_play_9 ?_
  refine lv_iload_n hx hb dX0_play_10 rfl (lv_at hl 2 rfl) ?_
  refine lv_i2b hx hb dX0_play_11 rfl ?_
  refine n_val (b8 a1 ha1) ?_
  refine m_bast hx hb hK hP hJ hS (k := (k + 3)) (by omega) (f := (U 0)) h4 (i := f % 16) (y := nI a1) (by omega) (by decide) (b8 a1 ha1) dX0_play_12 (fun H locs hP hS => ?_)
  obtain ⟨M_1, eM_1⟩ : ∃ z, z = va_up M (k + 3) (eB cs 16 (upd (U 0) (f % 16) (nI a1))) := ⟨_, rfl⟩
  rw [← eM_1] at hP
  have h1_1 : M_1 k = .inr (0, [.ref (ad (k + 1)), .ref (ad (k + 2))]) := by rw [eM_1]; exact (va_up_ne _ _ (by omega)).trans h1
  have h1_2 : M_1 (k + 1) = eQ cs 8 16 g := by rw [eM_1]; exact (va_up_ne _ _ (by omega)).trans h2
  have h1_3 : M_1 (k + 2) = eQ cs 10 2 g2 := by rw [eM_1]; exact (va_up_ne _ _ (by omega)).trans h3
  have h1_4 : M_1 (k + 3) = eB cs 16 (upd (U 0) (f % 16) (nI a1)) := by rw [eM_1]; exact va_up_self _ _ _
  have h1_5 : M_1 (k + 4) = eB cs 16 (U 1) := by rw [eM_1]; exact (va_up_ne _ _ (by omega)).trans h5
  have h1_6 : M_1 (k + 5 + 3 * ((f + 1) % 16)) = .inr (5, [.ref (ad (k + 5 + 3 * ((f + 1) % 16) + 1)), .ref (ad (k + 5 + 3 * ((f + 1) % 16) + 2)), .int (hh ((f + 1) % 16)), .double (ww ((f + 1) % 16))]) := by rw [eM_1]; exact (va_up_ne _ _ (by omega)).trans s1
  have h1_7 : M_1 (k + 5 + 3 * ((f + 1) % 16) + 1) = eF cs 2 (X ((f + 1) % 16)) := by rw [eM_1]; exact (va_up_ne _ _ (by omega)).trans s2
  have h1_8 : M_1 (k + 5 + 3 * ((f + 1) % 16) + 2) = eF cs 2 (V ((f + 1) % 16)) := by rw [eM_1]; exact (va_up_ne _ _ (by omega)).trans s3
  have h1_9 : M_1 (k + 5 + 3 * (f % 16)) = .inr (5, [.ref (ad (k + 5 + 3 * (f % 16) + 1)), .ref (ad (k + 5 + 3 * (f % 16) + 2)), .int (hh (f % 16)), .double (ww (f % 16))]) := by rw [eM_1]; exact (va_up_ne _ _ (by omega)).trans t1
  have h1_10 : M_1 (k + 5 + 3 * (f % 16) + 1) = eF cs 2 (X (f % 16)) := by rw [eM_1]; exact (va_up_ne _ _ (by omega)).trans t2
  have h1_11 : M_1 (k + 5 + 3 * (f % 16) + 2) = eF cs 2 (V (f % 16)) := by rw [eM_1]; exact (va_up_ne _ _ (by omega)).trans t3
  refine lv_aload_n hx hb dX0_play_13 rfl (lv_at hl 0 rfl) ?_
  refine m_get hx hb hts inX0 hown hK hP (ci := 0) rfl (k := k) (by omega) h1_1 1 (by decide) (hts (.fieldLink RX0 19 "RollbackPair$History" "inputs" "[[B") (by decide +kernel)) rfl dX0_play_14 ?_
  refine lv_iconst (v := nI 1) hx hb dX0_play_17 (by decide) ?_
  refine m_aaldA hx hb hK hP 10 rfl (k := (k + 2)) (by omega) h1_3 (i := 1) (by decide) (by decide) (r := some (ad (k + 4))) hg1 dX0_play_18 ?_
  refine lv_iload_n hx hb dX0_play_19 rfl (lv_at hl 1 rfl) ?_
  refine lv_bipush (v := nI 15) hx hb dX0_play_20 (by decide) ?_
  refine n_and (d := f % 16) hx hb (and_mod (b := 4) rfl (by decide) (by omega)) dX0_play_22 ?_
  refine lv_iload_n hx hb dX0_play_23 rfl (lv_at hl 3 rfl) ?_
  refine lv_i2b hx hb dX0_play_24 rfl ?_
  refine n_val (b8 a2 ha2) ?_
  refine m_bast hx hb hK hP hJ hS (k := (k + 4)) (by omega) (f := (U 1)) h1_5 (i := f % 16) (y := nI a2) (by omega) (by decide) (b8 a2 ha2) dX0_play_25 (fun H locs hP hS => ?_)
  obtain ⟨M_2, eM_2⟩ : ∃ z, z = va_up M_1 (k + 4) (eB cs 16 (upd (U 1) (f % 16) (nI a2))) := ⟨_, rfl⟩
  rw [← eM_2] at hP
  have h2_1 : M_2 k = .inr (0, [.ref (ad (k + 1)), .ref (ad (k + 2))]) := by rw [eM_2]; exact (va_up_ne _ _ (by omega)).trans h1_1
  have h2_2 : M_2 (k + 1) = eQ cs 8 16 g := by rw [eM_2]; exact (va_up_ne _ _ (by omega)).trans h1_2
  have h2_3 : M_2 (k + 2) = eQ cs 10 2 g2 := by rw [eM_2]; exact (va_up_ne _ _ (by omega)).trans h1_3
  have h2_4 : M_2 (k + 3) = eB cs 16 (upd (U 0) (f % 16) (nI a1)) := by rw [eM_2]; exact (va_up_ne _ _ (by omega)).trans h1_4
  have h2_5 : M_2 (k + 4) = eB cs 16 (upd (U 1) (f % 16) (nI a2)) := by rw [eM_2]; exact va_up_self _ _ _
  have h2_6 : M_2 (k + 5 + 3 * ((f + 1) % 16)) = .inr (5, [.ref (ad (k + 5 + 3 * ((f + 1) % 16) + 1)), .ref (ad (k + 5 + 3 * ((f + 1) % 16) + 2)), .int (hh ((f + 1) % 16)), .double (ww ((f + 1) % 16))]) := by rw [eM_2]; exact (va_up_ne _ _ (by omega)).trans h1_6
  have h2_7 : M_2 (k + 5 + 3 * ((f + 1) % 16) + 1) = eF cs 2 (X ((f + 1) % 16)) := by rw [eM_2]; exact (va_up_ne _ _ (by omega)).trans h1_7
  have h2_8 : M_2 (k + 5 + 3 * ((f + 1) % 16) + 2) = eF cs 2 (V ((f + 1) % 16)) := by rw [eM_2]; exact (va_up_ne _ _ (by omega)).trans h1_8
  have h2_9 : M_2 (k + 5 + 3 * (f % 16)) = .inr (5, [.ref (ad (k + 5 + 3 * (f % 16) + 1)), .ref (ad (k + 5 + 3 * (f % 16) + 2)), .int (hh (f % 16)), .double (ww (f % 16))]) := by rw [eM_2]; exact (va_up_ne _ _ (by omega)).trans h1_9
  have h2_10 : M_2 (k + 5 + 3 * (f % 16) + 1) = eF cs 2 (X (f % 16)) := by rw [eM_2]; exact (va_up_ne _ _ (by omega)).trans h1_10
  have h2_11 : M_2 (k + 5 + 3 * (f % 16) + 2) = eF cs 2 (V (f % 16)) := by rw [eM_2]; exact (va_up_ne _ _ (by omega)).trans h1_11
  refine lv_aload_n hx hb dX0_play_26 rfl (lv_at hl 0 rfl) ?_
  refine lv_iload_n hx hb dX0_play_27 rfl (lv_at hl 1 rfl) ?_
  refine lv_iconst (v := nI 1) hx hb dX0_play_28 (by decide) ?_
  refine n_add hx hb dX0_play_29 ?_
  refine k_Vq (As := [.int (nI (f + 1))]) (rest := []) (k := k) (ci := 0) ⟨hx, hb, hml, hown, hts⟩ hK hP hS Ad_le (c_before l D cs ad n hJ M_2 k g hk h2_1 h2_2 hg (f + 1) (by omega)) (cwV 1 hts gX0_play_X0_before rfl rfl rfl (by decide +kernel) ⟨Nat.le_of_ble_eq_true rfl, Nat.le_of_ble_eq_true rfl⟩) (by omega) h2_1 rfl rfl rfl hl.1 (Nat.le_of_ble_eq_true rfl) dX0_play_30 ⟨Nat.le_of_ble_eq_true rfl, Nat.le_of_ble_eq_true rfl⟩ (fun r_1 M1 H locs hpo hP hS _ _ => ?_)
  obtain ⟨hMe, rfl⟩ := hpo
  rw [hMe] at hP
  refine lv_aload_n hx hb dX0_play_33 rfl (lv_at hl 0 rfl) ?_
  refine lv_iload_n hx hb dX0_play_34 rfl (lv_at hl 1 rfl) ?_
  refine k_Vq (As := [.int (nI f)]) (rest := [.ref (ad (k + 5 + 3 * ((f + 1) % 16)))]) (k := k) (ci := 0) ⟨hx, hb, hml, hown, hts⟩ hK hP hS Ad_le (c_before l D cs ad n hJ M_2 k g hk h2_1 h2_2 hg f (by omega)) (cwV 1 hts gX0_play_X0_before rfl rfl rfl (by decide +kernel) ⟨Nat.le_of_ble_eq_true rfl, Nat.le_of_ble_eq_true rfl⟩) (by omega) h2_1 rfl rfl rfl hl.1 (Nat.le_of_ble_eq_true rfl) dX0_play_35 ⟨Nat.le_of_ble_eq_true rfl, Nat.le_of_ble_eq_true rfl⟩ (fun r_2 M1 H locs hpo hP hS _ _ => ?_)
  obtain ⟨hMe, rfl⟩ := hpo
  rw [hMe] at hP
  refine lv_iload_n hx hb dX0_play_38 rfl (lv_at hl 2 rfl) ?_
  refine lv_iload_n hx hb dX0_play_39 rfl (lv_at hl 3 rfl) ?_
  refine k_Vv (As := [.ref (ad (k + 5 + 3 * (f % 16))), .int (nI a1), .int (nI a2)]) (rest := []) (k := (k + 5 + 3 * ((f + 1) % 16))) (ci := 5) ⟨hx, hb, hml, hown, hts⟩ hK hP hS Ad_le (c_follow l D cs ad n hJ M_2 (k + 5 + 3 * ((f + 1) % 16)) (X ((f + 1) % 16)) (V ((f + 1) % 16)) (hh ((f + 1) % 16)) (ww ((f + 1) % 16)) (by omega) h2_6 h2_7 h2_8 (k + 5 + 3 * (f % 16)) (X (f % 16)) (V (f % 16)) (hh (f % 16)) (ww (f % 16)) (by omega) (by omega) h2_9 h2_10 h2_11 a1 a2 fc ha1 ha2 hfc hB) (cwV 3 hts gX0_play_X5_follow rfl rfl rfl (by decide +kernel) ⟨Nat.le_of_ble_eq_true rfl, Nat.le_of_ble_eq_true rfl⟩) (by omega) h2_6 rfl rfl rfl hl.1 (Nat.le_of_ble_eq_true rfl) dX0_play_40 ⟨Nat.le_of_ble_eq_true rfl, Nat.le_of_ble_eq_true rfl⟩ (fun N1 H locs hpo hP hS _ _ => ?_)
  obtain ⟨r1, ⟨X9, r2, r3, r4⟩, ⟨V9, r5, r6, r7⟩, rf⟩ := hpo
  have fr : ∀ j, j ≠ k + 3 → j ≠ k + 4 → (j < k + 5 + 3 * ((f + 1) % 16) ∨ k + 5 + 3 * ((f + 1) % 16) + 3 ≤ j) → N1 j = M j := fun j z1 z2 z3 => by rw [rf j z3, eM_2, va_up_ne _ _ z2, eM_1, va_up_ne _ _ z1]
  refine r_v hx hb hr hlocks hK hP hS dX0_play_43 ⟨va_up X ((f + 1) % 16) X9, va_up V ((f + 1) % 16) V9, va_up hh ((f + 1) % 16) (hh (f % 16) + st_m (mv (X (f % 16) 0) (V (f % 16) 0) (nI a1)) (mv (X (f % 16) 1) (V (f % 16) 1) (nI a2))), va_up ww ((f + 1) % 16) (st_w (mv (X (f % 16) 0) (V (f % 16) 0) (nI a1)) (mv (X (f % 16) 1) (V (f % 16) 1) (nI a2)) (ww (f % 16))), fun u => if u = 0 then upd (U 0) (f % 16) (nI a1) else upd (U 1) (f % 16) (nI a2), ⟨(fr _ (by omega) (by omega) (by omega)).trans h1, ⟨g, (fr _ (by omega) (by omega) (by omega)).trans h2, hg⟩, ⟨g2, (fr _ (by omega) (by omega) (by omega)).trans h3, hg0, hg1⟩, ?_, ?_, fun i hi => ?_⟩, ⟨?_, ?_, ?_, ?_, va_up_self _ _ _, va_up_self _ _ _, fun i hi => ⟨va_up_ne _ _ hi, va_up_ne _ _ hi, va_up_ne _ _ hi, va_up_ne _ _ hi⟩, rfl, rfl⟩, fun j hj => fr j (by omega) (by omega) (by omega)⟩
  · exact (rf _ (by omega)).trans h2_4
  · exact (rf _ (by omega)).trans h2_5
  · by_cases hi2 : i = (f + 1) % 16
    · subst hi2
      rw [va_up_self, va_up_self, va_up_self, va_up_self]
      exact ⟨r1, r2, r5⟩
    · obtain ⟨u1, u2, u3⟩ := hst i hi
      rw [va_up_ne _ _ hi2, va_up_ne _ _ hi2, va_up_ne _ _ hi2, va_up_ne _ _ hi2]
      exact ⟨(fr _ (by omega) (by omega) (by omega)).trans u1, (fr _ (by omega) (by omega) (by omega)).trans u2, (fr _ (by omega) (by omega) (by omega)).trans u3⟩
  · rw [va_up_self]; exact r3
  · rw [va_up_self]; exact r4
  · rw [va_up_self]; exact r6
  · rw [va_up_self]; exact r7
def hiU (U : Nat → Nat → Int32) (pl : Nat) (fr : Int32) (a : Nat) : Int32 := if ¬ fr < 0 ∧ tn fr < a ∧ a ≤ tn fr + 15 then U pl (tn fr % 16) else -1
def hiS (X V : Nat → Nat → UInt32) (hh : Nat → Int32) (ww : Nat → UInt64) (fr : Int32) (a : Nat) : Int32 := if ¬ fr < 0 ∧ tn fr ≤ a ∧ a ≤ tn fr + 15 then sumS (X (tn fr % 16) 0) (V (tn fr % 16) 0) (X (tn fr % 16) 1) (V (tn fr % 16) 1) (hh (tn fr % 16)) (ww (tn fr % 16)) else nI 0
set_option maxHeartbeats 4000000 in
set_option maxRecDepth 100000 in
/-- History.inputPlayed(pl, fr, a) -/
theorem c_inputPlayed (l : Launch) (D : va_G) (cs : Nat → ClassId) (ad : Nat → Nat) (n : Nat) (hJ : Inj ad n) (M : Nat → va_E) (k : Nat) (X V : Nat → Nat → UInt32) (hh : Nat → Int32) (ww : Nat → UInt64) (U : Nat → Nat → Int32) (hk : k + 53 ≤ n) (hH : HiA ad cs k M X V hh ww U) (pl a : Nat) (fr : Int32) (hpl : pl < 2) (ha : a < 2 ^ 20) : CTi l yX0_inputPlayed wsX0_inputPlayed ({ frames := 0, cells := 0, slots := 0, locals := 0 }) D cs ad n M [.ref (ad k), .int (nI pl), .int fr, .int (nI a)] (fun r M2 => M2 = M ∧ r = hiU U pl fr a) := by
  refine Met.ofW (cc := cX0_inputPlayed) (maxL := 4) (ret := (some .int)) (by decide) rfl ?_
  intro p e s m args below meth c s₁ B hml hv
  obtain ⟨rfl, hP, hK⟩ := hv
  have hx := B.exec
  have hb := B.bytes
  have hr := B.returns
  have hts := atoms_spec (ws := wsX0_inputPlayed) B.pre
  have hown : s.vm.findClass RX0 = some m.cls := findClass_of_methodNamed B.named
  have hlocks := B.notSynchronized
  have hS : va_S (Ad ad n) s.heap s.heap [] := va_S.rf
  have hl := lv_entry ([.ref (ad k), .int (nI pl), .int fr, .int (nI a)]) (n := 4) (Nat.le_of_ble_eq_true rfl)
  rw [lg_entry_eq]
  generalize (lg_sl ([.ref (ad k), .int (nI pl), .int fr, .int (nI a)]) ++ List.replicate (4 - (lg_sl ([.ref (ad k), .int (nI pl), .int fr, .int (nI a)])).length) Slot.unset).toArray = ls at hl ⊢
  have hl : lv_has ls 4 [(0, .ref (ad k)), (1, .int (nI pl)), (2, .int fr), (3, .int (nI a))] := hl
  have inX0 : ∀ w ∈ u_ws RX0 TX0 2, w ∈ wsX0_inputPlayed := fun w h => List.mem_cons_of_mem _ (List.mem_append_right _ h)
  obtain ⟨h1, ⟨g, h2, hg⟩, ⟨g2, h3, hg0, hg1⟩, h4, h5, hst⟩ := id hH
  have hU : M (k + 3 + pl) = eB cs 16 (U pl) := by
    rcases (show pl = 0 ∨ pl = 1 by omega) with rfl | rfl
    · exact h4
    · exact h5
  have hgp : g2 pl = some (ad (k + 3 + pl)) := by
    rcases (show pl = 0 ∨ pl = 1 by omega) with rfl | rfl
    · exact hg0
    · exact hg1
  refine lv_iload_n hx hb dX0_inputPlayed_0 rfl (lv_at hl 2 rfl) ?_
  refine lv_if_lt (tgt := 17) hx hb dX0_inputPlayed_1 (by decide) (fun c1 => ?_) (fun c1 => ?_)
  · refine lv_iconst (v := (-1)) hx hb dX0_inputPlayed_17 (by decide) ?_
    exact r_i hx hb hr hlocks hK hP hS dX0_inputPlayed_18 ⟨rfl, by unfold hiU; rw [if_neg (fun z => z.1 c1)]⟩
  · obtain ⟨f, hf, rfl⟩ := nI_of c1
    refine lv_iload_n hx hb dX0_inputPlayed_4 rfl (lv_at hl 2 rfl) ?_
    refine lv_iload_n hx hb dX0_inputPlayed_5 rfl (lv_at hl 3 rfl) ?_
    refine n_cmp_ge (tgt := 17) hx hb dX0_inputPlayed_6 (by decide) (by omega) (by omega) (fun c2 => ?_) (fun c2 => ?_)
    · refine lv_iconst (v := (-1)) hx hb dX0_inputPlayed_17 (by decide) ?_
      exact r_i hx hb hr hlocks hK hP hS dX0_inputPlayed_18 ⟨rfl, by unfold hiU; rw [if_neg (fun z => by have h9 := z.2.1; rw [tn_nI hf] at h9; omega)]⟩
    · refine lv_iload_n hx hb dX0_inputPlayed_9 rfl (lv_at hl 3 rfl) ?_
      refine lv_iload_n hx hb dX0_inputPlayed_10 rfl (lv_at hl 2 rfl) ?_
      refine n_sub hx hb (by omega) dX0_inputPlayed_11 ?_
      refine lv_bipush (v := nI 15) hx hb dX0_inputPlayed_12 (by decide) ?_
      refine n_cmp_le (tgt := 19) hx hb dX0_inputPlayed_14 (by decide) (by omega) (by omega) (fun c3 => ?_) (fun c3 => ?_)
      · refine lv_aload_n hx hb dX0_inputPlayed_19 rfl (lv_at hl 0 rfl) ?_
        refine m_get hx hb hts inX0 hown hK hP (ci := 0) rfl (k := k) (by omega) h1 1 (by decide) (hts (.fieldLink RX0 19 "RollbackPair$History" "inputs" "[[B") (by decide +kernel)) rfl dX0_inputPlayed_20 ?_
        refine lv_iload_n hx hb dX0_inputPlayed_23 rfl (lv_at hl 1 rfl) ?_
        refine m_aaldA hx hb hK hP 10 rfl (k := (k + 2)) (by omega) h3 (i := pl) (by omega) (by decide) (r := some (ad (k + 3 + pl))) hgp dX0_inputPlayed_24 ?_
        refine lv_iload_n hx hb dX0_inputPlayed_25 rfl (lv_at hl 2 rfl) ?_
        refine lv_bipush (v := nI 15) hx hb dX0_inputPlayed_26 (by decide) ?_
        refine n_and (d := f % 16) hx hb (and_mod (b := 4) rfl (by decide) (by omega)) dX0_inputPlayed_28 ?_
        refine m_bald hx hb hK hP (k := (k + 3 + pl)) (by omega) (f := (U pl)) hU (i := f % 16) (by omega) (by decide) dX0_inputPlayed_29 ?_
        exact r_i hx hb hr hlocks hK hP hS dX0_inputPlayed_30 ⟨rfl, by unfold hiU; rw [tn_nI hf, if_pos ⟨nI_pos hf, c2, by omega⟩]⟩
      · refine lv_iconst (v := (-1)) hx hb dX0_inputPlayed_17 (by decide) ?_
        exact r_i hx hb hr hlocks hK hP hS dX0_inputPlayed_18 ⟨rfl, by unfold hiU; rw [if_neg (fun z => by have h9 := z.2.2; rw [tn_nI hf] at h9; omega)]⟩
set_option maxHeartbeats 4000000 in
set_option maxRecDepth 100000 in
/-- History.sumBefore(fr, a) -/
theorem c_sumBefore (l : Launch) (D : va_G) (cs : Nat → ClassId) (ad : Nat → Nat) (n : Nat) (hJ : Inj ad n) (M : Nat → va_E) (k : Nat) (X V : Nat → Nat → UInt32) (hh : Nat → Int32) (ww : Nat → UInt64) (U : Nat → Nat → Int32) (hk : k + 53 ≤ n) (hH : HiA ad cs k M X V hh ww U) (a : Nat) (fr : Int32) (ha : a < 2 ^ 20) (hB : ∀ f, f ≤ a → a ≤ f + 15 → Bd (X (f % 16) 0) (V (f % 16) 0) (X (f % 16) 1) (V (f % 16) 1) (ww (f % 16)) f) : CTi l yX0_sumBefore wsX0_sumBefore ({ frames := 1, cells := 0, slots := 0, locals := 22 }) D cs ad n M [.ref (ad k), .int fr, .int (nI a)] (fun r M2 => M2 = M ∧ r = hiS X V hh ww fr a) := by
  refine Met.ofW (cc := cX0_sumBefore) (maxL := 3) (ret := (some .int)) (by decide) rfl ?_
  intro p e s m args below meth c s₁ B hml hv
  obtain ⟨rfl, hP, hK⟩ := hv
  have hx := B.exec
  have hb := B.bytes
  have hr := B.returns
  have hts := atoms_spec (ws := wsX0_sumBefore) B.pre
  have hown : s.vm.findClass RX0 = some m.cls := findClass_of_methodNamed B.named
  have hlocks := B.notSynchronized
  have hS : va_S (Ad ad n) s.heap s.heap [] := va_S.rf
  have hl := lv_entry ([.ref (ad k), .int fr, .int (nI a)]) (n := 3) (Nat.le_of_ble_eq_true rfl)
  rw [lg_entry_eq]
  generalize (lg_sl ([.ref (ad k), .int fr, .int (nI a)]) ++ List.replicate (3 - (lg_sl ([.ref (ad k), .int fr, .int (nI a)])).length) Slot.unset).toArray = ls at hl ⊢
  have hl : lv_has ls 3 [(0, .ref (ad k)), (1, .int fr), (2, .int (nI a))] := hl
  have inX0 : ∀ w ∈ u_ws RX0 TX0 2, w ∈ wsX0_sumBefore := fun w h => List.mem_cons_of_mem _ (List.mem_append_left _ (List.mem_append_right _ h))
  have inX5 : ∀ w ∈ u_ws RX5 TX5 4, w ∈ wsX0_sumBefore := fun w h => List.mem_cons_of_mem _ (List.mem_append_right _ h)
  obtain ⟨h1, ⟨g, h2, hg⟩, ⟨g2, h3, hg0, hg1⟩, h4, h5, hst⟩ := id hH
  refine lv_iload_n hx hb dX0_sumBefore_0 rfl (lv_at hl 1 rfl) ?_
  refine lv_if_lt (tgt := 17) hx hb dX0_sumBefore_1 (by decide) (fun c1 => ?_) (fun c1 => ?_)
  · refine lv_iconst (v := nI 0) hx hb dX0_sumBefore_17 (by decide) ?_
    exact r_i hx hb hr hlocks hK hP hS dX0_sumBefore_18 ⟨rfl, by unfold hiS; rw [if_neg (fun z => z.1 c1)]⟩
  · obtain ⟨f, hf, rfl⟩ := nI_of c1
    refine lv_iload_n hx hb dX0_sumBefore_4 rfl (lv_at hl 1 rfl) ?_
    refine lv_iload_n hx hb dX0_sumBefore_5 rfl (lv_at hl 2 rfl) ?_
    refine n_cmp_gt (tgt := 17) hx hb dX0_sumBefore_6 (by decide) (by omega) (by omega) (fun c2 => ?_) (fun c2 => ?_)
    · refine lv_iconst (v := nI 0) hx hb dX0_sumBefore_17 (by decide) ?_
      exact r_i hx hb hr hlocks hK hP hS dX0_sumBefore_18 ⟨rfl, by unfold hiS; rw [if_neg (fun z => by have h9 := z.2.1; rw [tn_nI hf] at h9; omega)]⟩
    · refine lv_iload_n hx hb dX0_sumBefore_9 rfl (lv_at hl 2 rfl) ?_
      refine lv_iload_n hx hb dX0_sumBefore_10 rfl (lv_at hl 1 rfl) ?_
      refine n_sub hx hb (by omega) dX0_sumBefore_11 ?_
      refine lv_bipush (v := nI 15) hx hb dX0_sumBefore_12 (by decide) ?_
      refine n_cmp_le (tgt := 19) hx hb dX0_sumBefore_14 (by decide) (by omega) (by omega) (fun c3 => ?_) (fun c3 => ?_)
      · refine lv_aload_n hx hb dX0_sumBefore_19 rfl (lv_at hl 0 rfl) ?_
        refine lv_iload_n hx hb dX0_sumBefore_20 rfl (lv_at hl 1 rfl) ?_
        refine k_Vq (As := [.int (nI f)]) (rest := []) (k := k) (ci := 0) ⟨hx, hb, hml, hown, hts⟩ hK hP hS Ad_le (c_before l D cs ad n hJ M k g hk h1 h2 hg f (by omega)) (cwV 1 hts gX0_sumBefore_X0_before rfl rfl rfl (by decide +kernel) ⟨Nat.le_of_ble_eq_true rfl, Nat.le_of_ble_eq_true rfl⟩) (by omega) h1 rfl rfl rfl hl.1 (Nat.le_of_ble_eq_true rfl) dX0_sumBefore_21 ⟨Nat.le_of_ble_eq_true rfl, Nat.le_of_ble_eq_true rfl⟩ (fun r_1 M1 H locs hpo hP hS _ _ => ?_)
        obtain ⟨hMe, rfl⟩ := hpo
        rw [hMe] at hP
        obtain ⟨t1, t2, t3⟩ := hst (f % 16) (by omega)
        refine k_Vi (As := []) (rest := []) (k := (k + 5 + 3 * (f % 16))) (ci := 5) ⟨hx, hb, hml, hown, hts⟩ hK hP hS Ad_le (c_total l D cs ad n hJ M (k + 5 + 3 * (f % 16)) (X (f % 16)) (V (f % 16)) (hh (f % 16)) (ww (f % 16)) (by omega) t1 t2 t3 f (hB f (by omega) (by omega))) (cwV 0 hts gX0_sumBefore_X5_total rfl rfl rfl (by decide +kernel) ⟨Nat.le_of_ble_eq_true rfl, Nat.le_of_ble_eq_true rfl⟩) (by omega) t1 rfl rfl rfl hl.1 (Nat.le_of_ble_eq_true rfl) dX0_sumBefore_24 ⟨Nat.le_of_ble_eq_true rfl, Nat.le_of_ble_eq_true rfl⟩ (fun r_2 M1 H locs hpo hP hS _ _ => ?_)
        obtain ⟨hMe, rfl⟩ := hpo
        rw [hMe] at hP
        exact r_i hx hb hr hlocks hK hP hS dX0_sumBefore_27 ⟨rfl, by unfold hiS; rw [tn_nI hf, if_pos ⟨nI_pos hf, by omega, by omega⟩]⟩
      · refine lv_iconst (v := nI 0) hx hb dX0_sumBefore_17 (by decide) ?_
        exact r_i hx hb hr hlocks hK hP hS dX0_sumBefore_18 ⟨rfl, by unfold hiS; rw [if_neg (fun z => by have h9 := z.2.2; rw [tn_nI hf] at h9; omega)]⟩
end
section
set_option maxRecDepth 20000 in
theorem ggX2_carry_X1_use : GoodIn wsX2_carry wsX1_use := goodIn_r _ [13, 14, 15, 16, 24, 25, 26] (by decide +kernel) (by decide +kernel)
set_option maxRecDepth 20000 in
theorem gX2_carry_X1_use : GoodIn wsX2_carry (wsV RX2 31 RX1 yX1_use wsX1_use) := goodIn_app (goodIn_of _ (by decide +kernel)) ggX2_carry_X1_use
theorem dX2_carry_0 : decode cX2_carry 0 = .ok (.aload_n 0, 1) := by decide +kernel
theorem dX2_carry_1 : decode cX2_carry 1 = .ok (.iload_n 2, 1) := by decide +kernel
theorem dX2_carry_2 : decode cX2_carry 2 = .ok (.putfield 9, 3) := by decide +kernel
theorem dX2_carry_5 : decode cX2_carry 5 = .ok (.aload_n 0, 1) := by decide +kernel
theorem dX2_carry_6 : decode cX2_carry 6 = .ok (.bipush 16, 2) := by decide +kernel
theorem dX2_carry_8 : decode cX2_carry 8 = .ok (.aload_n 1, 1) := by decide +kernel
theorem dX2_carry_9 : decode cX2_carry 9 = .ok (.getfield 15, 3) := by decide +kernel
theorem dX2_carry_12 : decode cX2_carry 12 = .ok (.iload_n 2, 1) := by decide +kernel
theorem dX2_carry_13 : decode cX2_carry 13 = .ok (.isub, 1) := by decide +kernel
theorem dX2_carry_14 : decode cX2_carry 14 = .ok (.invokestatic 20, 3) := by decide +kernel
theorem dX2_carry_17 : decode cX2_carry 17 = .ok (.putfield 26, 3) := by decide +kernel
theorem dX2_carry_20 : decode cX2_carry 20 = .ok (.aload_n 0, 1) := by decide +kernel
theorem dX2_carry_21 : decode cX2_carry 21 = .ok (.lconst 0, 1) := by decide +kernel
theorem dX2_carry_22 : decode cX2_carry 22 = .ok (.putfield 27, 3) := by decide +kernel
theorem dX2_carry_25 : decode cX2_carry 25 = .ok (.iconst 0, 1) := by decide +kernel
theorem dX2_carry_26 : decode cX2_carry 26 = .ok (.istore_n 3, 1) := by decide +kernel
theorem dX2_carry_27 : decode cX2_carry 27 = .ok (.iload_n 3, 1) := by decide +kernel
theorem dX2_carry_28 : decode cX2_carry 28 = .ok (.aload_n 0, 1) := by decide +kernel
theorem dX2_carry_29 : decode cX2_carry 29 = .ok (.getfield 26, 3) := by decide +kernel
theorem dX2_carry_32 : decode cX2_carry 32 = .ok (.if_icmp .ge 30, 3) := by decide +kernel
theorem dX2_carry_35 : decode cX2_carry 35 = .ok (.aload_n 0, 1) := by decide +kernel
theorem dX2_carry_36 : decode cX2_carry 36 = .ok (.dup, 1) := by decide +kernel
theorem dX2_carry_37 : decode cX2_carry 37 = .ok (.getfield 27, 3) := by decide +kernel
theorem dX2_carry_40 : decode cX2_carry 40 = .ok (.aload_n 1, 1) := by decide +kernel
theorem dX2_carry_41 : decode cX2_carry 41 = .ok (.iload_n 2, 1) := by decide +kernel
theorem dX2_carry_42 : decode cX2_carry 42 = .ok (.iload_n 3, 1) := by decide +kernel
theorem dX2_carry_43 : decode cX2_carry 43 = .ok (.iadd, 1) := by decide +kernel
theorem dX2_carry_44 : decode cX2_carry 44 = .ok (.invokevirtual 31, 3) := by decide +kernel
theorem dX2_carry_47 : decode cX2_carry 47 = .ok (.i2l, 1) := by decide +kernel
theorem dX2_carry_48 : decode cX2_carry 48 = .ok (.iconst 3, 1) := by decide +kernel
theorem dX2_carry_49 : decode cX2_carry 49 = .ok (.iload_n 3, 1) := by decide +kernel
theorem dX2_carry_50 : decode cX2_carry 50 = .ok (.imul, 1) := by decide +kernel
theorem dX2_carry_51 : decode cX2_carry 51 = .ok (.lshl, 1) := by decide +kernel
theorem dX2_carry_52 : decode cX2_carry 52 = .ok (.lor, 1) := by decide +kernel
theorem dX2_carry_53 : decode cX2_carry 53 = .ok (.putfield 27, 3) := by decide +kernel
theorem dX2_carry_56 : decode cX2_carry 56 = .ok (.iinc 3 1, 3) := by decide +kernel
theorem dX2_carry_59 : decode cX2_carry 59 = .ok (.goto (-32), 3) := by decide +kernel
theorem dX2_carry_62 : decode cX2_carry 62 = .ok (.return_, 1) := by decide +kernel
theorem dX2_input_0 : decode cX2_input 0 = .ok (.aload_n 0, 1) := by decide +kernel
theorem dX2_input_1 : decode cX2_input 1 = .ok (.getfield 27, 3) := by decide +kernel
theorem dX2_input_4 : decode cX2_input 4 = .ok (.iconst 3, 1) := by decide +kernel
theorem dX2_input_5 : decode cX2_input 5 = .ok (.iload_n 1, 1) := by decide +kernel
theorem dX2_input_6 : decode cX2_input 6 = .ok (.imul, 1) := by decide +kernel
theorem dX2_input_7 : decode cX2_input 7 = .ok (.lushr, 1) := by decide +kernel
theorem dX2_input_8 : decode cX2_input 8 = .ok (.l2i, 1) := by decide +kernel
theorem dX2_input_9 : decode cX2_input 9 = .ok (.bipush 7, 2) := by decide +kernel
theorem dX2_input_11 : decode cX2_input 11 = .ok (.iand, 1) := by decide +kernel
theorem dX2_input_12 : decode cX2_input 12 = .ok (.ireturn, 1) := by decide +kernel
theorem dX2_rightCheck_0 : decode cX2_rightCheck 0 = .ok (.bipush 23, 2) := by decide +kernel
theorem dX2_rightCheck_2 : decode cX2_rightCheck 2 = .ok (.istore_n 1, 1) := by decide +kernel
theorem dX2_rightCheck_3 : decode cX2_rightCheck 3 = .ok (.iload_n 1, 1) := by decide +kernel
theorem dX2_rightCheck_4 : decode cX2_rightCheck 4 = .ok (.bipush 37, 2) := by decide +kernel
theorem dX2_rightCheck_6 : decode cX2_rightCheck 6 = .ok (.imul, 1) := by decide +kernel
theorem dX2_rightCheck_7 : decode cX2_rightCheck 7 = .ok (.aload_n 0, 1) := by decide +kernel
theorem dX2_rightCheck_8 : decode cX2_rightCheck 8 = .ok (.getfield 35, 3) := by decide +kernel
theorem dX2_rightCheck_11 : decode cX2_rightCheck 11 = .ok (.iadd, 1) := by decide +kernel
theorem dX2_rightCheck_12 : decode cX2_rightCheck 12 = .ok (.istore_n 1, 1) := by decide +kernel
theorem dX2_rightCheck_13 : decode cX2_rightCheck 13 = .ok (.iload_n 1, 1) := by decide +kernel
theorem dX2_rightCheck_14 : decode cX2_rightCheck 14 = .ok (.bipush 37, 2) := by decide +kernel
theorem dX2_rightCheck_16 : decode cX2_rightCheck 16 = .ok (.imul, 1) := by decide +kernel
theorem dX2_rightCheck_17 : decode cX2_rightCheck 17 = .ok (.aload_n 0, 1) := by decide +kernel
theorem dX2_rightCheck_18 : decode cX2_rightCheck 18 = .ok (.getfield 39, 3) := by decide +kernel
theorem dX2_rightCheck_21 : decode cX2_rightCheck 21 = .ok (.iadd, 1) := by decide +kernel
theorem dX2_rightCheck_22 : decode cX2_rightCheck 22 = .ok (.istore_n 1, 1) := by decide +kernel
theorem dX2_rightCheck_23 : decode cX2_rightCheck 23 = .ok (.iload_n 1, 1) := by decide +kernel
theorem dX2_rightCheck_24 : decode cX2_rightCheck 24 = .ok (.bipush 37, 2) := by decide +kernel
theorem dX2_rightCheck_26 : decode cX2_rightCheck 26 = .ok (.imul, 1) := by decide +kernel
theorem dX2_rightCheck_27 : decode cX2_rightCheck 27 = .ok (.aload_n 0, 1) := by decide +kernel
theorem dX2_rightCheck_28 : decode cX2_rightCheck 28 = .ok (.getfield 42, 3) := by decide +kernel
theorem dX2_rightCheck_31 : decode cX2_rightCheck 31 = .ok (.iadd, 1) := by decide +kernel
theorem dX2_rightCheck_32 : decode cX2_rightCheck 32 = .ok (.istore_n 1, 1) := by decide +kernel
theorem dX2_rightCheck_33 : decode cX2_rightCheck 33 = .ok (.iload_n 1, 1) := by decide +kernel
theorem dX2_rightCheck_34 : decode cX2_rightCheck 34 = .ok (.bipush 37, 2) := by decide +kernel
theorem dX2_rightCheck_36 : decode cX2_rightCheck 36 = .ok (.imul, 1) := by decide +kernel
theorem dX2_rightCheck_37 : decode cX2_rightCheck 37 = .ok (.aload_n 0, 1) := by decide +kernel
theorem dX2_rightCheck_38 : decode cX2_rightCheck 38 = .ok (.getfield 9, 3) := by decide +kernel
theorem dX2_rightCheck_41 : decode cX2_rightCheck 41 = .ok (.iadd, 1) := by decide +kernel
theorem dX2_rightCheck_42 : decode cX2_rightCheck 42 = .ok (.istore_n 1, 1) := by decide +kernel
theorem dX2_rightCheck_43 : decode cX2_rightCheck 43 = .ok (.iload_n 1, 1) := by decide +kernel
theorem dX2_rightCheck_44 : decode cX2_rightCheck 44 = .ok (.bipush 37, 2) := by decide +kernel
theorem dX2_rightCheck_46 : decode cX2_rightCheck 46 = .ok (.imul, 1) := by decide +kernel
theorem dX2_rightCheck_47 : decode cX2_rightCheck 47 = .ok (.aload_n 0, 1) := by decide +kernel
theorem dX2_rightCheck_48 : decode cX2_rightCheck 48 = .ok (.getfield 26, 3) := by decide +kernel
theorem dX2_rightCheck_51 : decode cX2_rightCheck 51 = .ok (.iadd, 1) := by decide +kernel
theorem dX2_rightCheck_52 : decode cX2_rightCheck 52 = .ok (.istore_n 1, 1) := by decide +kernel
theorem dX2_rightCheck_53 : decode cX2_rightCheck 53 = .ok (.iload_n 1, 1) := by decide +kernel
theorem dX2_rightCheck_54 : decode cX2_rightCheck 54 = .ok (.bipush 37, 2) := by decide +kernel
theorem dX2_rightCheck_56 : decode cX2_rightCheck 56 = .ok (.imul, 1) := by decide +kernel
theorem dX2_rightCheck_57 : decode cX2_rightCheck 57 = .ok (.aload_n 0, 1) := by decide +kernel
theorem dX2_rightCheck_58 : decode cX2_rightCheck 58 = .ok (.getfield 27, 3) := by decide +kernel
theorem dX2_rightCheck_61 : decode cX2_rightCheck 61 = .ok (.l2i, 1) := by decide +kernel
theorem dX2_rightCheck_62 : decode cX2_rightCheck 62 = .ok (.iadd, 1) := by decide +kernel
theorem dX2_rightCheck_63 : decode cX2_rightCheck 63 = .ok (.istore_n 1, 1) := by decide +kernel
theorem dX2_rightCheck_64 : decode cX2_rightCheck 64 = .ok (.iload_n 1, 1) := by decide +kernel
theorem dX2_rightCheck_65 : decode cX2_rightCheck 65 = .ok (.bipush 37, 2) := by decide +kernel
theorem dX2_rightCheck_67 : decode cX2_rightCheck 67 = .ok (.imul, 1) := by decide +kernel
theorem dX2_rightCheck_68 : decode cX2_rightCheck 68 = .ok (.aload_n 0, 1) := by decide +kernel
theorem dX2_rightCheck_69 : decode cX2_rightCheck 69 = .ok (.getfield 27, 3) := by decide +kernel
theorem dX2_rightCheck_72 : decode cX2_rightCheck 72 = .ok (.bipush 32, 2) := by decide +kernel
theorem dX2_rightCheck_74 : decode cX2_rightCheck 74 = .ok (.lushr, 1) := by decide +kernel
theorem dX2_rightCheck_75 : decode cX2_rightCheck 75 = .ok (.l2i, 1) := by decide +kernel
theorem dX2_rightCheck_76 : decode cX2_rightCheck 76 = .ok (.iadd, 1) := by decide +kernel
theorem dX2_rightCheck_77 : decode cX2_rightCheck 77 = .ok (.ireturn, 1) := by decide +kernel
theorem dX2_copyOf_0 : decode cX2_copyOf 0 = .ok (.aload_n 0, 1) := by decide +kernel
theorem dX2_copyOf_1 : decode cX2_copyOf 1 = .ok (.aload_n 1, 1) := by decide +kernel
theorem dX2_copyOf_2 : decode cX2_copyOf 2 = .ok (.getfield 35, 3) := by decide +kernel
theorem dX2_copyOf_5 : decode cX2_copyOf 5 = .ok (.putfield 35, 3) := by decide +kernel
theorem dX2_copyOf_8 : decode cX2_copyOf 8 = .ok (.aload_n 0, 1) := by decide +kernel
theorem dX2_copyOf_9 : decode cX2_copyOf 9 = .ok (.aload_n 1, 1) := by decide +kernel
theorem dX2_copyOf_10 : decode cX2_copyOf 10 = .ok (.getfield 39, 3) := by decide +kernel
theorem dX2_copyOf_13 : decode cX2_copyOf 13 = .ok (.putfield 39, 3) := by decide +kernel
theorem dX2_copyOf_16 : decode cX2_copyOf 16 = .ok (.aload_n 0, 1) := by decide +kernel
theorem dX2_copyOf_17 : decode cX2_copyOf 17 = .ok (.aload_n 1, 1) := by decide +kernel
theorem dX2_copyOf_18 : decode cX2_copyOf 18 = .ok (.getfield 42, 3) := by decide +kernel
theorem dX2_copyOf_21 : decode cX2_copyOf 21 = .ok (.putfield 42, 3) := by decide +kernel
theorem dX2_copyOf_24 : decode cX2_copyOf 24 = .ok (.aload_n 0, 1) := by decide +kernel
theorem dX2_copyOf_25 : decode cX2_copyOf 25 = .ok (.aload_n 1, 1) := by decide +kernel
theorem dX2_copyOf_26 : decode cX2_copyOf 26 = .ok (.getfield 9, 3) := by decide +kernel
theorem dX2_copyOf_29 : decode cX2_copyOf 29 = .ok (.putfield 9, 3) := by decide +kernel
theorem dX2_copyOf_32 : decode cX2_copyOf 32 = .ok (.aload_n 0, 1) := by decide +kernel
theorem dX2_copyOf_33 : decode cX2_copyOf 33 = .ok (.aload_n 1, 1) := by decide +kernel
theorem dX2_copyOf_34 : decode cX2_copyOf 34 = .ok (.getfield 26, 3) := by decide +kernel
theorem dX2_copyOf_37 : decode cX2_copyOf 37 = .ok (.putfield 26, 3) := by decide +kernel
theorem dX2_copyOf_40 : decode cX2_copyOf 40 = .ok (.aload_n 0, 1) := by decide +kernel
theorem dX2_copyOf_41 : decode cX2_copyOf 41 = .ok (.aload_n 1, 1) := by decide +kernel
theorem dX2_copyOf_42 : decode cX2_copyOf 42 = .ok (.getfield 27, 3) := by decide +kernel
theorem dX2_copyOf_45 : decode cX2_copyOf 45 = .ok (.putfield 27, 3) := by decide +kernel
theorem dX2_copyOf_48 : decode cX2_copyOf 48 = .ok (.aload_n 0, 1) := by decide +kernel
theorem dX2_copyOf_49 : decode cX2_copyOf 49 = .ok (.aload_n 1, 1) := by decide +kernel
theorem dX2_copyOf_50 : decode cX2_copyOf 50 = .ok (.getfield 45, 3) := by decide +kernel
theorem dX2_copyOf_53 : decode cX2_copyOf 53 = .ok (.putfield 45, 3) := by decide +kernel
theorem dX2_copyOf_56 : decode cX2_copyOf 56 = .ok (.return_, 1) := by decide +kernel
theorem dX2_flip_0 : decode cX2_flip 0 = .ok (.iload_n 1, 1) := by decide +kernel
theorem dX2_flip_1 : decode cX2_flip 1 = .ok (.tableswitch 133 0 6 #[43, 56, 68, 80, 92, 104, 121], 43) := by decide +kernel
theorem dX2_flip_44 : decode cX2_flip 44 = .ok (.aload_n 0, 1) := by decide +kernel
theorem dX2_flip_45 : decode cX2_flip 45 = .ok (.aload_n 0, 1) := by decide +kernel
theorem dX2_flip_46 : decode cX2_flip 46 = .ok (.getfield 35, 3) := by decide +kernel
theorem dX2_flip_49 : decode cX2_flip 49 = .ok (.iload_n 2, 1) := by decide +kernel
theorem dX2_flip_50 : decode cX2_flip 50 = .ok (.ixor, 1) := by decide +kernel
theorem dX2_flip_51 : decode cX2_flip 51 = .ok (.i2s, 1) := by decide +kernel
theorem dX2_flip_52 : decode cX2_flip 52 = .ok (.putfield 35, 3) := by decide +kernel
theorem dX2_flip_55 : decode cX2_flip 55 = .ok (.iconst 1, 1) := by decide +kernel
theorem dX2_flip_56 : decode cX2_flip 56 = .ok (.ireturn, 1) := by decide +kernel
theorem dX2_flip_57 : decode cX2_flip 57 = .ok (.aload_n 0, 1) := by decide +kernel
theorem dX2_flip_58 : decode cX2_flip 58 = .ok (.dup, 1) := by decide +kernel
theorem dX2_flip_59 : decode cX2_flip 59 = .ok (.getfield 39, 3) := by decide +kernel
theorem dX2_flip_62 : decode cX2_flip 62 = .ok (.iload_n 2, 1) := by decide +kernel
theorem dX2_flip_63 : decode cX2_flip 63 = .ok (.ixor, 1) := by decide +kernel
theorem dX2_flip_64 : decode cX2_flip 64 = .ok (.putfield 39, 3) := by decide +kernel
theorem dX2_flip_67 : decode cX2_flip 67 = .ok (.iconst 1, 1) := by decide +kernel
theorem dX2_flip_68 : decode cX2_flip 68 = .ok (.ireturn, 1) := by decide +kernel
theorem dX2_flip_69 : decode cX2_flip 69 = .ok (.aload_n 0, 1) := by decide +kernel
theorem dX2_flip_70 : decode cX2_flip 70 = .ok (.dup, 1) := by decide +kernel
theorem dX2_flip_71 : decode cX2_flip 71 = .ok (.getfield 42, 3) := by decide +kernel
theorem dX2_flip_74 : decode cX2_flip 74 = .ok (.iload_n 2, 1) := by decide +kernel
theorem dX2_flip_75 : decode cX2_flip 75 = .ok (.ixor, 1) := by decide +kernel
theorem dX2_flip_76 : decode cX2_flip 76 = .ok (.putfield 42, 3) := by decide +kernel
theorem dX2_flip_79 : decode cX2_flip 79 = .ok (.iconst 1, 1) := by decide +kernel
theorem dX2_flip_80 : decode cX2_flip 80 = .ok (.ireturn, 1) := by decide +kernel
theorem dX2_flip_81 : decode cX2_flip 81 = .ok (.aload_n 0, 1) := by decide +kernel
theorem dX2_flip_82 : decode cX2_flip 82 = .ok (.dup, 1) := by decide +kernel
theorem dX2_flip_83 : decode cX2_flip 83 = .ok (.getfield 9, 3) := by decide +kernel
theorem dX2_flip_86 : decode cX2_flip 86 = .ok (.iload_n 2, 1) := by decide +kernel
theorem dX2_flip_87 : decode cX2_flip 87 = .ok (.ixor, 1) := by decide +kernel
theorem dX2_flip_88 : decode cX2_flip 88 = .ok (.putfield 9, 3) := by decide +kernel
theorem dX2_flip_91 : decode cX2_flip 91 = .ok (.iconst 1, 1) := by decide +kernel
theorem dX2_flip_92 : decode cX2_flip 92 = .ok (.ireturn, 1) := by decide +kernel
theorem dX2_flip_93 : decode cX2_flip 93 = .ok (.aload_n 0, 1) := by decide +kernel
theorem dX2_flip_94 : decode cX2_flip 94 = .ok (.dup, 1) := by decide +kernel
theorem dX2_flip_95 : decode cX2_flip 95 = .ok (.getfield 26, 3) := by decide +kernel
theorem dX2_flip_98 : decode cX2_flip 98 = .ok (.iload_n 2, 1) := by decide +kernel
theorem dX2_flip_99 : decode cX2_flip 99 = .ok (.ixor, 1) := by decide +kernel
theorem dX2_flip_100 : decode cX2_flip 100 = .ok (.putfield 26, 3) := by decide +kernel
theorem dX2_flip_103 : decode cX2_flip 103 = .ok (.iconst 1, 1) := by decide +kernel
theorem dX2_flip_104 : decode cX2_flip 104 = .ok (.ireturn, 1) := by decide +kernel
theorem dX2_flip_105 : decode cX2_flip 105 = .ok (.aload_n 0, 1) := by decide +kernel
theorem dX2_flip_106 : decode cX2_flip 106 = .ok (.dup, 1) := by decide +kernel
theorem dX2_flip_107 : decode cX2_flip 107 = .ok (.getfield 27, 3) := by decide +kernel
theorem dX2_flip_110 : decode cX2_flip 110 = .ok (.iload_n 2, 1) := by decide +kernel
theorem dX2_flip_111 : decode cX2_flip 111 = .ok (.i2l, 1) := by decide +kernel
theorem dX2_flip_112 : decode cX2_flip 112 = .ok (.ldc2_w 48, 3) := by decide +kernel
theorem dX2_flip_115 : decode cX2_flip 115 = .ok (.land, 1) := by decide +kernel
theorem dX2_flip_116 : decode cX2_flip 116 = .ok (.lxor, 1) := by decide +kernel
theorem dX2_flip_117 : decode cX2_flip 117 = .ok (.putfield 27, 3) := by decide +kernel
theorem dX2_flip_120 : decode cX2_flip 120 = .ok (.iconst 1, 1) := by decide +kernel
theorem dX2_flip_121 : decode cX2_flip 121 = .ok (.ireturn, 1) := by decide +kernel
theorem dX2_flip_122 : decode cX2_flip 122 = .ok (.aload_n 0, 1) := by decide +kernel
theorem dX2_flip_123 : decode cX2_flip 123 = .ok (.dup, 1) := by decide +kernel
theorem dX2_flip_124 : decode cX2_flip 124 = .ok (.getfield 45, 3) := by decide +kernel
theorem dX2_flip_127 : decode cX2_flip 127 = .ok (.iload_n 2, 1) := by decide +kernel
theorem dX2_flip_128 : decode cX2_flip 128 = .ok (.ixor, 1) := by decide +kernel
theorem dX2_flip_129 : decode cX2_flip 129 = .ok (.putfield 45, 3) := by decide +kernel
theorem dX2_flip_132 : decode cX2_flip 132 = .ok (.iconst 1, 1) := by decide +kernel
theorem dX2_flip_133 : decode cX2_flip 133 = .ok (.ireturn, 1) := by decide +kernel
theorem dX2_flip_134 : decode cX2_flip 134 = .ok (.iconst 0, 1) := by decide +kernel
theorem dX2_flip_135 : decode cX2_flip 135 = .ok (.ireturn, 1) := by decide +kernel
theorem dX4_first_0 : decode cX4_first 0 = .ok (.aload_n 0, 1) := by decide +kernel
theorem dX4_first_1 : decode cX4_first 1 = .ok (.getfield 16, 3) := by decide +kernel
theorem dX4_first_4 : decode cX4_first 4 = .ok (.ifCond .ne 7, 3) := by decide +kernel
theorem dX4_first_7 : decode cX4_first 7 = .ok (.aconst_null, 1) := by decide +kernel
theorem dX4_first_8 : decode cX4_first 8 = .ok (.goto 9, 3) := by decide +kernel
theorem dX4_first_11 : decode cX4_first 11 = .ok (.aload_n 0, 1) := by decide +kernel
theorem dX4_first_12 : decode cX4_first 12 = .ok (.getfield 11, 3) := by decide +kernel
theorem dX4_first_15 : decode cX4_first 15 = .ok (.iconst 0, 1) := by decide +kernel
theorem dX4_first_16 : decode cX4_first 16 = .ok (.aaload, 1) := by decide +kernel
theorem dX4_first_17 : decode cX4_first 17 = .ok (.areturn, 1) := by decide +kernel
theorem dX4_addLast_0 : decode cX4_addLast 0 = .ok (.aload_n 0, 1) := by decide +kernel
theorem dX4_addLast_1 : decode cX4_addLast 1 = .ok (.getfield 16, 3) := by decide +kernel
theorem dX4_addLast_4 : decode cX4_addLast 4 = .ok (.bipush 12, 2) := by decide +kernel
theorem dX4_addLast_6 : decode cX4_addLast 6 = .ok (.if_icmp .ne 5, 3) := by decide +kernel
theorem dX4_addLast_9 : decode cX4_addLast 9 = .ok (.aconst_null, 1) := by decide +kernel
theorem dX4_addLast_10 : decode cX4_addLast 10 = .ok (.areturn, 1) := by decide +kernel
theorem dX4_addLast_11 : decode cX4_addLast 11 = .ok (.aload_n 0, 1) := by decide +kernel
theorem dX4_addLast_12 : decode cX4_addLast 12 = .ok (.dup, 1) := by decide +kernel
theorem dX4_addLast_13 : decode cX4_addLast 13 = .ok (.getfield 16, 3) := by decide +kernel
theorem dX4_addLast_16 : decode cX4_addLast 16 = .ok (.iconst 1, 1) := by decide +kernel
theorem dX4_addLast_17 : decode cX4_addLast 17 = .ok (.iadd, 1) := by decide +kernel
theorem dX4_addLast_18 : decode cX4_addLast 18 = .ok (.putfield 16, 3) := by decide +kernel
theorem dX4_addLast_21 : decode cX4_addLast 21 = .ok (.aload_n 0, 1) := by decide +kernel
theorem dX4_addLast_22 : decode cX4_addLast 22 = .ok (.getfield 11, 3) := by decide +kernel
theorem dX4_addLast_25 : decode cX4_addLast 25 = .ok (.aload_n 0, 1) := by decide +kernel
theorem dX4_addLast_26 : decode cX4_addLast 26 = .ok (.getfield 16, 3) := by decide +kernel
theorem dX4_addLast_29 : decode cX4_addLast 29 = .ok (.iconst 1, 1) := by decide +kernel
theorem dX4_addLast_30 : decode cX4_addLast 30 = .ok (.isub, 1) := by decide +kernel
theorem dX4_addLast_31 : decode cX4_addLast 31 = .ok (.aaload, 1) := by decide +kernel
theorem dX4_addLast_32 : decode cX4_addLast 32 = .ok (.areturn, 1) := by decide +kernel
set_option maxRecDepth 20000 in
theorem ggX4_takeFirst_X4_first : GoodIn wsX4_takeFirst wsX4_first := goodIn_r _ [6, 1, 7, 12, 13] (by decide +kernel) (by decide +kernel)
set_option maxRecDepth 20000 in
theorem gX4_takeFirst_X4_first : GoodIn wsX4_takeFirst (wsV RX4 20 RX4 yX4_first wsX4_first) := goodIn_app (goodIn_of _ (by decide +kernel)) ggX4_takeFirst_X4_first
set_option maxRecDepth 20000 in
theorem ggX4_takeFirst_X4_sendFirstToEnd : GoodIn wsX4_takeFirst wsX4_sendFirstToEnd := goodIn_r _ [11, 1, 7, 2, 3, 4, 5, 6, 12, 13] (by decide +kernel) (by decide +kernel)
set_option maxRecDepth 20000 in
theorem gX4_takeFirst_X4_sendFirstToEnd : GoodIn wsX4_takeFirst (wsV RX4 24 RX4 yX4_sendFirstToEnd wsX4_sendFirstToEnd) := goodIn_app (goodIn_of _ (by decide +kernel)) ggX4_takeFirst_X4_sendFirstToEnd
theorem dX4_takeFirst_0 : decode cX4_takeFirst 0 = .ok (.aload_n 0, 1) := by decide +kernel
theorem dX4_takeFirst_1 : decode cX4_takeFirst 1 = .ok (.invokevirtual 20, 3) := by decide +kernel
theorem dX4_takeFirst_4 : decode cX4_takeFirst 4 = .ok (.astore_n 1, 1) := by decide +kernel
theorem dX4_takeFirst_5 : decode cX4_takeFirst 5 = .ok (.aload_n 0, 1) := by decide +kernel
theorem dX4_takeFirst_6 : decode cX4_takeFirst 6 = .ok (.invokevirtual 24, 3) := by decide +kernel
theorem dX4_takeFirst_9 : decode cX4_takeFirst 9 = .ok (.ifCond .eq 13, 3) := by decide +kernel
theorem dX4_takeFirst_12 : decode cX4_takeFirst 12 = .ok (.aload_n 0, 1) := by decide +kernel
theorem dX4_takeFirst_13 : decode cX4_takeFirst 13 = .ok (.dup, 1) := by decide +kernel
theorem dX4_takeFirst_14 : decode cX4_takeFirst 14 = .ok (.getfield 16, 3) := by decide +kernel
theorem dX4_takeFirst_17 : decode cX4_takeFirst 17 = .ok (.iconst 1, 1) := by decide +kernel
theorem dX4_takeFirst_18 : decode cX4_takeFirst 18 = .ok (.isub, 1) := by decide +kernel
theorem dX4_takeFirst_19 : decode cX4_takeFirst 19 = .ok (.putfield 16, 3) := by decide +kernel
theorem dX4_takeFirst_22 : decode cX4_takeFirst 22 = .ok (.aload_n 1, 1) := by decide +kernel
theorem dX4_takeFirst_23 : decode cX4_takeFirst 23 = .ok (.areturn, 1) := by decide +kernel
set_option maxRecDepth 20000 in
theorem ggX4_doubleFirst_X4_first : GoodIn wsX4_doubleFirst wsX4_first := goodIn_r _ [5, 6, 7, 24, 25] (by decide +kernel) (by decide +kernel)
set_option maxRecDepth 20000 in
theorem gX4_doubleFirst_X4_first : GoodIn wsX4_doubleFirst (wsV RX4 20 RX4 yX4_first wsX4_first) := goodIn_app (goodIn_of _ (by decide +kernel)) ggX4_doubleFirst_X4_first
set_option maxRecDepth 20000 in
theorem ggX4_doubleFirst_X4_addLast : GoodIn wsX4_doubleFirst wsX4_addLast := goodIn_r _ [11, 6, 7, 24, 25] (by decide +kernel) (by decide +kernel)
set_option maxRecDepth 20000 in
theorem gX4_doubleFirst_X4_addLast : GoodIn wsX4_doubleFirst (wsV RX4 28 RX4 yX4_addLast wsX4_addLast) := goodIn_app (goodIn_of _ (by decide +kernel)) ggX4_doubleFirst_X4_addLast
set_option maxRecDepth 20000 in
theorem ggX4_doubleFirst_X2_copyOf : GoodIn wsX4_doubleFirst wsX2_copyOf := goodIn_r _ [16, 17, 18, 19, 20, 21, 22, 23, 26, 27, 28, 29, 30, 31, 32] (by decide +kernel) (by decide +kernel)
set_option maxRecDepth 20000 in
theorem gX4_doubleFirst_X2_copyOf : GoodIn wsX4_doubleFirst (wsV RX4 31 RX2 yX2_copyOf wsX2_copyOf) := goodIn_app (goodIn_of _ (by decide +kernel)) ggX4_doubleFirst_X2_copyOf
theorem dX4_doubleFirst_0 : decode cX4_doubleFirst 0 = .ok (.aload_n 0, 1) := by decide +kernel
theorem dX4_doubleFirst_1 : decode cX4_doubleFirst 1 = .ok (.invokevirtual 20, 3) := by decide +kernel
theorem dX4_doubleFirst_4 : decode cX4_doubleFirst 4 = .ok (.astore_n 1, 1) := by decide +kernel
theorem dX4_doubleFirst_5 : decode cX4_doubleFirst 5 = .ok (.aload_n 1, 1) := by decide +kernel
theorem dX4_doubleFirst_6 : decode cX4_doubleFirst 6 = .ok (.ifnonnull 5, 3) := by decide +kernel
theorem dX4_doubleFirst_9 : decode cX4_doubleFirst 9 = .ok (.iconst 0, 1) := by decide +kernel
theorem dX4_doubleFirst_10 : decode cX4_doubleFirst 10 = .ok (.ireturn, 1) := by decide +kernel
theorem dX4_doubleFirst_11 : decode cX4_doubleFirst 11 = .ok (.aload_n 0, 1) := by decide +kernel
theorem dX4_doubleFirst_12 : decode cX4_doubleFirst 12 = .ok (.invokevirtual 28, 3) := by decide +kernel
theorem dX4_doubleFirst_15 : decode cX4_doubleFirst 15 = .ok (.astore_n 2, 1) := by decide +kernel
theorem dX4_doubleFirst_16 : decode cX4_doubleFirst 16 = .ok (.aload_n 2, 1) := by decide +kernel
theorem dX4_doubleFirst_17 : decode cX4_doubleFirst 17 = .ok (.ifnonnull 5, 3) := by decide +kernel
theorem dX4_doubleFirst_20 : decode cX4_doubleFirst 20 = .ok (.iconst 0, 1) := by decide +kernel
theorem dX4_doubleFirst_21 : decode cX4_doubleFirst 21 = .ok (.ireturn, 1) := by decide +kernel
theorem dX4_doubleFirst_22 : decode cX4_doubleFirst 22 = .ok (.aload_n 2, 1) := by decide +kernel
theorem dX4_doubleFirst_23 : decode cX4_doubleFirst 23 = .ok (.aload_n 1, 1) := by decide +kernel
theorem dX4_doubleFirst_24 : decode cX4_doubleFirst 24 = .ok (.invokevirtual 31, 3) := by decide +kernel
theorem dX4_doubleFirst_27 : decode cX4_doubleFirst 27 = .ok (.iconst 1, 1) := by decide +kernel
theorem dX4_doubleFirst_28 : decode cX4_doubleFirst 28 = .ok (.ireturn, 1) := by decide +kernel
set_option maxRecDepth 20000 in
theorem ggX4_sendFirstToEnd_X4_first : GoodIn wsX4_sendFirstToEnd wsX4_first := goodIn_r _ [7, 1, 2, 8, 9] (by decide +kernel) (by decide +kernel)
set_option maxRecDepth 20000 in
theorem gX4_sendFirstToEnd_X4_first : GoodIn wsX4_sendFirstToEnd (wsV RX4 20 RX4 yX4_first wsX4_first) := goodIn_app (goodIn_of _ (by decide +kernel)) ggX4_sendFirstToEnd_X4_first
theorem dX4_sendFirstToEnd_0 : decode cX4_sendFirstToEnd 0 = .ok (.aload_n 0, 1) := by decide +kernel
theorem dX4_sendFirstToEnd_1 : decode cX4_sendFirstToEnd 1 = .ok (.invokevirtual 20, 3) := by decide +kernel
theorem dX4_sendFirstToEnd_4 : decode cX4_sendFirstToEnd 4 = .ok (.astore_n 1, 1) := by decide +kernel
theorem dX4_sendFirstToEnd_5 : decode cX4_sendFirstToEnd 5 = .ok (.aload_n 1, 1) := by decide +kernel
theorem dX4_sendFirstToEnd_6 : decode cX4_sendFirstToEnd 6 = .ok (.ifnonnull 5, 3) := by decide +kernel
theorem dX4_sendFirstToEnd_9 : decode cX4_sendFirstToEnd 9 = .ok (.iconst 0, 1) := by decide +kernel
theorem dX4_sendFirstToEnd_10 : decode cX4_sendFirstToEnd 10 = .ok (.ireturn, 1) := by decide +kernel
theorem dX4_sendFirstToEnd_11 : decode cX4_sendFirstToEnd 11 = .ok (.iconst 1, 1) := by decide +kernel
theorem dX4_sendFirstToEnd_12 : decode cX4_sendFirstToEnd 12 = .ok (.istore_n 2, 1) := by decide +kernel
theorem dX4_sendFirstToEnd_13 : decode cX4_sendFirstToEnd 13 = .ok (.iload_n 2, 1) := by decide +kernel
theorem dX4_sendFirstToEnd_14 : decode cX4_sendFirstToEnd 14 = .ok (.aload_n 0, 1) := by decide +kernel
theorem dX4_sendFirstToEnd_15 : decode cX4_sendFirstToEnd 15 = .ok (.getfield 16, 3) := by decide +kernel
theorem dX4_sendFirstToEnd_18 : decode cX4_sendFirstToEnd 18 = .ok (.if_icmp .ge 23, 3) := by decide +kernel
theorem dX4_sendFirstToEnd_21 : decode cX4_sendFirstToEnd 21 = .ok (.aload_n 0, 1) := by decide +kernel
theorem dX4_sendFirstToEnd_22 : decode cX4_sendFirstToEnd 22 = .ok (.getfield 11, 3) := by decide +kernel
theorem dX4_sendFirstToEnd_25 : decode cX4_sendFirstToEnd 25 = .ok (.iload_n 2, 1) := by decide +kernel
theorem dX4_sendFirstToEnd_26 : decode cX4_sendFirstToEnd 26 = .ok (.iconst 1, 1) := by decide +kernel
theorem dX4_sendFirstToEnd_27 : decode cX4_sendFirstToEnd 27 = .ok (.isub, 1) := by decide +kernel
theorem dX4_sendFirstToEnd_28 : decode cX4_sendFirstToEnd 28 = .ok (.aload_n 0, 1) := by decide +kernel
theorem dX4_sendFirstToEnd_29 : decode cX4_sendFirstToEnd 29 = .ok (.getfield 11, 3) := by decide +kernel
theorem dX4_sendFirstToEnd_32 : decode cX4_sendFirstToEnd 32 = .ok (.iload_n 2, 1) := by decide +kernel
theorem dX4_sendFirstToEnd_33 : decode cX4_sendFirstToEnd 33 = .ok (.aaload, 1) := by decide +kernel
theorem dX4_sendFirstToEnd_34 : decode cX4_sendFirstToEnd 34 = .ok (.aastore, 1) := by decide +kernel
theorem dX4_sendFirstToEnd_35 : decode cX4_sendFirstToEnd 35 = .ok (.iinc 2 1, 3) := by decide +kernel
theorem dX4_sendFirstToEnd_38 : decode cX4_sendFirstToEnd 38 = .ok (.goto (-25), 3) := by decide +kernel
theorem dX4_sendFirstToEnd_41 : decode cX4_sendFirstToEnd 41 = .ok (.aload_n 0, 1) := by decide +kernel
theorem dX4_sendFirstToEnd_42 : decode cX4_sendFirstToEnd 42 = .ok (.getfield 11, 3) := by decide +kernel
theorem dX4_sendFirstToEnd_45 : decode cX4_sendFirstToEnd 45 = .ok (.aload_n 0, 1) := by decide +kernel
theorem dX4_sendFirstToEnd_46 : decode cX4_sendFirstToEnd 46 = .ok (.getfield 16, 3) := by decide +kernel
theorem dX4_sendFirstToEnd_49 : decode cX4_sendFirstToEnd 49 = .ok (.iconst 1, 1) := by decide +kernel
theorem dX4_sendFirstToEnd_50 : decode cX4_sendFirstToEnd 50 = .ok (.isub, 1) := by decide +kernel
theorem dX4_sendFirstToEnd_51 : decode cX4_sendFirstToEnd 51 = .ok (.aload_n 1, 1) := by decide +kernel
theorem dX4_sendFirstToEnd_52 : decode cX4_sendFirstToEnd 52 = .ok (.aastore, 1) := by decide +kernel
theorem dX4_sendFirstToEnd_53 : decode cX4_sendFirstToEnd 53 = .ok (.iconst 1, 1) := by decide +kernel
theorem dX4_sendFirstToEnd_54 : decode cX4_sendFirstToEnd 54 = .ok (.ireturn, 1) := by decide +kernel
end
section
/-! packets -/
theorem nar_sh {x : Int32} (h : sh x) : narrow .short (.int x) = .int x := by
  have e := pk_ns x
  unfold sh at h
  rw [h] at e
  exact e
theorem fit_sh {x : Int32} (h : sh x) : fits .short (.int x) = true := by
  have e := pk_fs x
  unfold sh at h
  rw [h] at e
  exact e
theorem sh_i (x : Int32) : sh x.toInt16.toInt32 := pk_vs x
abbrev oPk (nu fr ak fi cn : Int32) (bt : Int64) (ch : Int32) : va_E := .inr (2, [.int nu, .int fr, .int ak, .int fi, .int cn, .long bt, .int ch])
theorem t32_bit (y : Int64) (i : Nat) (hi : i < 32) : y.toInt32.toBitVec[i] = y.toBitVec.getLsbD i := by
  show (BitVec.signExtend 32 y.toBitVec)[i] = _
  rw [BitVec.getElem_signExtend]
  simp [show i < 64 by omega]
theorem us_bit (x : Int64) (t i : Nat) (ht : t < 64) (sf : UInt64) (hs : sf.toBitVec.toNat = t) : (x.toUInt64 >>> sf).toInt64.toBitVec.getLsbD i = x.toBitVec.getLsbD (t + i) := by
  show (x.toBitVec >>> (sf.toBitVec % 64)).getLsbD i = _
  have h : (sf.toBitVec % 64).toNat = t := by
    rw [BitVec.toNat_umod, hs]
    exact Nat.mod_eq_of_lt ht
  rw [BitVec.ushiftRight_eq', BitVec.getLsbD_ushiftRight, h]
theorem ss_bit (x : Int64) (t i : Nat) (sf : Int64) (hs : (sf.toBitVec.smod 64).toNat = t) (hi : t + i < 64) : (x >>> sf).toBitVec.getLsbD i = x.toBitVec.getLsbD (t + i) := by
  rw [Int64.toBitVec_shiftRight, BitVec.sshiftRight_eq', BitVec.getLsbD_sshiftRight, hs]
  simp [hi, show i < 64 by omega]
theorem hi_eq (x : Int64) : (x.toUInt64 >>> ((nI 32).toInt64.toUInt64 &&& Int64.toUInt64 63)).toInt64.toInt32 = hi32 x := by
  unfold hi32
  apply Int32.toBitVec_inj.mp
  ext i hi
  rw [t32_bit _ _ hi, t32_bit _ _ hi, us_bit x 32 i (by decide) _ (by decide), ss_bit x 32 i _ (by decide) (by omega)]
theorem sf_u : ∀ j, j < 16 → ((nI (3 * j)).toInt64.toUInt64 &&& Int64.toUInt64 63).toBitVec.toNat = 3 * j := by decide
theorem sf_s : ∀ j, j < 16 → (((nI (3 * j)).toInt64 &&& 63).toBitVec.smod 64).toNat = 3 * j := by decide
theorem min_n {c2 y : Nat} (h : c2 = min 16 y) (hy : y < 2 ^ 31) : (if nI y < nI 16 then nI y else nI 16) = nI c2 := by
  by_cases h2 : y < 16
  · rw [if_pos (nI_lt h2 (by decide)), h, Nat.min_eq_right (by omega)]
  · rw [if_neg (nI_nlt (by omega) hy), h, Nat.min_eq_left (by omega)]
theorem bt3_eq (x : Int64) (j : Nat) (hj : j < 16) : (x.toUInt64 >>> ((nI (3 * j)).toInt64.toUInt64 &&& Int64.toUInt64 63)).toInt64.toInt32 &&& nI 7 = bt3 x j := by
  unfold bt3
  apply Int32.toBitVec_inj.mp
  ext i hi
  rw [t32_bit _ _ hi, Int32.toBitVec_and, Int64.toBitVec_and, BitVec.getElem_and, BitVec.getLsbD_and, t32_bit _ _ hi, us_bit x (3 * j) i (by omega) _ (sf_u j hj)]
  by_cases h : i < 3
  · rw [ss_bit x (3 * j) i _ (sf_s j hj) (by omega)]
    congr 1
  · have h1 : (nI 7).toBitVec[i] = false := by
      have : ∀ i, (h : i < 32) → ¬ i < 3 → (nI 7).toBitVec[i] = false := by decide
      exact this i hi h
    have h2 : (7 : Int64).toBitVec.getLsbD i = false := by
      have : ∀ i, i < 32 → ¬ i < 3 → (7 : Int64).toBitVec.getLsbD i = false := by decide
      exact this i hi h
    rw [h1, h2, Bool.and_false, Bool.and_false]

set_option maxHeartbeats 4000000 in
set_option maxRecDepth 100000 in
/-- Packet.input(j) -/
theorem c_pinput (l : Launch) (D : va_G) (cs : Nat → ClassId) (ad : Nat → Nat) (n : Nat) (hJ : Inj ad n) (M : Nat → va_E) (k : Nat) (nu fr ak fi cn : Int32) (bt : Int64) (ch : Int32) (hk : k < n) (h1 : M k = oPk nu fr ak fi cn bt ch) (j : Nat) (hj : j < 16) : CTi l yX2_input wsX2_input ({ frames := 0, cells := 0, slots := 0, locals := 0 }) D cs ad n M [.ref (ad k), .int (nI j)] (fun r M2 => M2 = M ∧ r = bt3 bt j) := by
  refine Met.ofW (cc := cX2_input) (maxL := 2) (ret := (some .int)) (by decide) rfl ?_
  intro p e s m args below meth c s₁ B hml hv
  obtain ⟨rfl, hP, hK⟩ := hv
  have hx := B.exec
  have hb := B.bytes
  have hr := B.returns
  have hts := atoms_spec (ws := wsX2_input) B.pre
  have hown : s.vm.findClass RX2 = some m.cls := findClass_of_methodNamed B.named
  have hlocks := B.notSynchronized
  have hS : va_S (Ad ad n) s.heap s.heap [] := va_S.rf
  have hl := lv_entry ([.ref (ad k), .int (nI j)]) (n := 2) (Nat.le_of_ble_eq_true rfl)
  rw [lg_entry_eq]
  generalize (lg_sl ([.ref (ad k), .int (nI j)]) ++ List.replicate (2 - (lg_sl ([.ref (ad k), .int (nI j)])).length) Slot.unset).toArray = ls at hl ⊢
  have hl : lv_has ls 2 [(0, .ref (ad k)), (1, .int (nI j))] := hl
  have inX2 : ∀ w ∈ u_ws RX2 TX2 7, w ∈ wsX2_input := fun w h => List.mem_cons_of_mem _ (List.mem_append_right _ h)
  refine lv_aload_n hx hb dX2_input_0 rfl (lv_at hl 0 rfl) ?_
  refine m_get hx hb hts inX2 hown hK hP (ci := 2) rfl (k := k) (by omega) h1 5 (by decide) (hts (.fieldLink RX2 27 "RollbackPair$Packet" "bits" "J") (by decide +kernel)) rfl dX2_input_1 ?_
  refine lv_iconst (v := nI 3) hx hb dX2_input_4 (by decide) ?_
  refine lv_iload_n hx hb dX2_input_5 rfl (lv_at hl 1 rfl) ?_
  refine n_mul hx hb dX2_input_6 ?_
  refine lv_lushr hx hb dX2_input_7 rfl ?_
  refine lv_l2i hx hb dX2_input_8 rfl ?_
  refine lv_bipush (v := nI 7) hx hb dX2_input_9 (by decide) ?_
  refine lv_iand hx hb dX2_input_11 ?_
  exact r_i hx hb hr hlocks hK hP hS dX2_input_12 ⟨rfl, bt3_eq bt j hj⟩
set_option maxHeartbeats 4000000 in
set_option maxRecDepth 100000 in
/-- Packet.rightCheck() -/
theorem c_rightCheck (l : Launch) (D : va_G) (cs : Nat → ClassId) (ad : Nat → Nat) (n : Nat) (hJ : Inj ad n) (M : Nat → va_E) (k : Nat) (nu fr ak fi cn : Int32) (bt : Int64) (ch : Int32) (hk : k < n) (h1 : M k = oPk nu fr ak fi cn bt ch) : CTi l yX2_rightCheck wsX2_rightCheck ({ frames := 0, cells := 0, slots := 0, locals := 0 }) D cs ad n M [.ref (ad k)] (fun r M2 => M2 = M ∧ r = ck nu fr ak fi cn bt.toInt32 (hi32 bt)) := by
  refine Met.ofW (cc := cX2_rightCheck) (maxL := 2) (ret := (some .int)) (by decide) rfl ?_
  intro p e s m args below meth c s₁ B hml hv
  obtain ⟨rfl, hP, hK⟩ := hv
  have hx := B.exec
  have hb := B.bytes
  have hr := B.returns
  have hts := atoms_spec (ws := wsX2_rightCheck) B.pre
  have hown : s.vm.findClass RX2 = some m.cls := findClass_of_methodNamed B.named
  have hlocks := B.notSynchronized
  have hS : va_S (Ad ad n) s.heap s.heap [] := va_S.rf
  have hl := lv_entry ([.ref (ad k)]) (n := 2) (Nat.le_of_ble_eq_true rfl)
  rw [lg_entry_eq]
  generalize (lg_sl ([.ref (ad k)]) ++ List.replicate (2 - (lg_sl ([.ref (ad k)])).length) Slot.unset).toArray = ls at hl ⊢
  have hl : lv_has ls 2 [(0, .ref (ad k))] := hl
  have inX2 : ∀ w ∈ u_ws RX2 TX2 7, w ∈ wsX2_rightCheck := fun w h => List.mem_cons_of_mem _ (List.mem_append_right _ h)
  refine lv_bipush (v := nI 23) hx hb dX2_rightCheck_0 (by decide) ?_
  refine lv_istore_n (lv' := [(1, .int (nI 23)), (0, .ref (ad k))]) hx hb dX2_rightCheck_2 rfl hl (by decide) rfl (fun ls hl => ?_)
  refine lv_iload_n hx hb dX2_rightCheck_3 rfl (lv_at hl 0 rfl) ?_
  refine lv_bipush (v := nI 37) hx hb dX2_rightCheck_4 (by decide) ?_
  refine n_mul hx hb dX2_rightCheck_6 ?_
  refine lv_aload_n hx hb dX2_rightCheck_7 rfl (lv_at hl 1 rfl) ?_
  refine m_get hx hb hts inX2 hown hK hP (ci := 2) rfl (k := k) (by omega) h1 0 (by decide) (hts (.fieldLink RX2 35 "RollbackPair$Packet" "number" "S") (by decide +kernel)) rfl dX2_rightCheck_8 ?_
  refine lv_iadd hx hb dX2_rightCheck_11 ?_
  refine lv_istore_n (lv' := [(1, .int ((nI (23 * 37)) + nu)), (0, .ref (ad k))]) hx hb dX2_rightCheck_12 rfl hl (by decide) rfl (fun ls hl => ?_)
  refine lv_iload_n hx hb dX2_rightCheck_13 rfl (lv_at hl 0 rfl) ?_
  refine lv_bipush (v := nI 37) hx hb dX2_rightCheck_14 (by decide) ?_
  refine lv_imul hx hb dX2_rightCheck_16 ?_
  refine lv_aload_n hx hb dX2_rightCheck_17 rfl (lv_at hl 1 rfl) ?_
  refine m_get hx hb hts inX2 hown hK hP (ci := 2) rfl (k := k) (by omega) h1 1 (by decide) (hts (.fieldLink RX2 39 "RollbackPair$Packet" "frame" "I") (by decide +kernel)) rfl dX2_rightCheck_18 ?_
  refine lv_iadd hx hb dX2_rightCheck_21 ?_
  refine lv_istore_n (lv' := [(1, .int ((((nI (23 * 37)) + nu) * (nI 37)) + fr)), (0, .ref (ad k))]) hx hb dX2_rightCheck_22 rfl hl (by decide) rfl (fun ls hl => ?_)
  refine lv_iload_n hx hb dX2_rightCheck_23 rfl (lv_at hl 0 rfl) ?_
  refine lv_bipush (v := nI 37) hx hb dX2_rightCheck_24 (by decide) ?_
  refine lv_imul hx hb dX2_rightCheck_26 ?_
  refine lv_aload_n hx hb dX2_rightCheck_27 rfl (lv_at hl 1 rfl) ?_
  refine m_get hx hb hts inX2 hown hK hP (ci := 2) rfl (k := k) (by omega) h1 2 (by decide) (hts (.fieldLink RX2 42 "RollbackPair$Packet" "ack" "I") (by decide +kernel)) rfl dX2_rightCheck_28 ?_
  refine lv_iadd hx hb dX2_rightCheck_31 ?_
  refine lv_istore_n (lv' := [(1, .int ((((((nI (23 * 37)) + nu) * (nI 37)) + fr) * (nI 37)) + ak)), (0, .ref (ad k))]) hx hb dX2_rightCheck_32 rfl hl (by decide) rfl (fun ls hl => ?_)
  refine lv_iload_n hx hb dX2_rightCheck_33 rfl (lv_at hl 0 rfl) ?_
  refine lv_bipush (v := nI 37) hx hb dX2_rightCheck_34 (by decide) ?_
  refine lv_imul hx hb dX2_rightCheck_36 ?_
  refine lv_aload_n hx hb dX2_rightCheck_37 rfl (lv_at hl 1 rfl) ?_
  refine m_get hx hb hts inX2 hown hK hP (ci := 2) rfl (k := k) (by omega) h1 3 (by decide) (hts (.fieldLink RX2 9 "RollbackPair$Packet" "first" "I") (by decide +kernel)) rfl dX2_rightCheck_38 ?_
  refine lv_iadd hx hb dX2_rightCheck_41 ?_
  refine lv_istore_n (lv' := [(1, .int ((((((((nI (23 * 37)) + nu) * (nI 37)) + fr) * (nI 37)) + ak) * (nI 37)) + fi)), (0, .ref (ad k))]) hx hb dX2_rightCheck_42 rfl hl (by decide) rfl (fun ls hl => ?_)
  refine lv_iload_n hx hb dX2_rightCheck_43 rfl (lv_at hl 0 rfl) ?_
  refine lv_bipush (v := nI 37) hx hb dX2_rightCheck_44 (by decide) ?_
  refine lv_imul hx hb dX2_rightCheck_46 ?_
  refine lv_aload_n hx hb dX2_rightCheck_47 rfl (lv_at hl 1 rfl) ?_
  refine m_get hx hb hts inX2 hown hK hP (ci := 2) rfl (k := k) (by omega) h1 4 (by decide) (hts (.fieldLink RX2 26 "RollbackPair$Packet" "count" "I") (by decide +kernel)) rfl dX2_rightCheck_48 ?_
  refine lv_iadd hx hb dX2_rightCheck_51 ?_
  refine lv_istore_n (lv' := [(1, .int ((((((((((nI (23 * 37)) + nu) * (nI 37)) + fr) * (nI 37)) + ak) * (nI 37)) + fi) * (nI 37)) + cn)), (0, .ref (ad k))]) hx hb dX2_rightCheck_52 rfl hl (by decide) rfl (fun ls hl => ?_)
  refine lv_iload_n hx hb dX2_rightCheck_53 rfl (lv_at hl 0 rfl) ?_
  refine lv_bipush (v := nI 37) hx hb dX2_rightCheck_54 (by decide) ?_
  refine lv_imul hx hb dX2_rightCheck_56 ?_
  refine lv_aload_n hx hb dX2_rightCheck_57 rfl (lv_at hl 1 rfl) ?_
  refine m_get hx hb hts inX2 hown hK hP (ci := 2) rfl (k := k) (by omega) h1 5 (by decide) (hts (.fieldLink RX2 27 "RollbackPair$Packet" "bits" "J") (by decide +kernel)) rfl dX2_rightCheck_58 ?_
  refine lv_l2i hx hb dX2_rightCheck_61 rfl ?_
  refine lv_iadd hx hb dX2_rightCheck_62 ?_
  refine lv_istore_n (lv' := [(1, .int ((((((((((((nI (23 * 37)) + nu) * (nI 37)) + fr) * (nI 37)) + ak) * (nI 37)) + fi) * (nI 37)) + cn) * (nI 37)) + bt.toInt32)), (0, .ref (ad k))]) hx hb dX2_rightCheck_63 rfl hl (by decide) rfl (fun ls hl => ?_)
  refine lv_iload_n hx hb dX2_rightCheck_64 rfl (lv_at hl 0 rfl) ?_
  refine lv_bipush (v := nI 37) hx hb dX2_rightCheck_65 (by decide) ?_
  refine lv_imul hx hb dX2_rightCheck_67 ?_
  refine lv_aload_n hx hb dX2_rightCheck_68 rfl (lv_at hl 1 rfl) ?_
  refine m_get hx hb hts inX2 hown hK hP (ci := 2) rfl (k := k) (by omega) h1 5 (by decide) (hts (.fieldLink RX2 27 "RollbackPair$Packet" "bits" "J") (by decide +kernel)) rfl dX2_rightCheck_69 ?_
  refine lv_bipush (v := nI 32) hx hb dX2_rightCheck_72 (by decide) ?_
  refine lv_lushr hx hb dX2_rightCheck_74 rfl ?_
  refine lv_l2i hx hb dX2_rightCheck_75 rfl ?_
  refine lv_iadd hx hb dX2_rightCheck_76 ?_
  exact r_i hx hb hr hlocks hK hP hS dX2_rightCheck_77 ⟨rfl, by rw [← hi_eq]; rfl⟩
set_option maxHeartbeats 4000000 in
set_option maxRecDepth 100000 in
/-- Packet.copyOf(b) -/
theorem c_copyOf (l : Launch) (D : va_G) (cs : Nat → ClassId) (ad : Nat → Nat) (n : Nat) (hJ : Inj ad n) (M : Nat → va_E) (k : Nat) (nu fr ak fi cn : Int32) (bt : Int64) (ch : Int32) (hk : k < n) (h1 : M k = oPk nu fr ak fi cn bt ch) (b : Nat) (nu2 fr2 ak2 fi2 cn2 : Int32) (bt2 : Int64) (ch2 : Int32) (hb0 : b < n) (hkb : k ≠ b) (g1 : M b = oPk nu2 fr2 ak2 fi2 cn2 bt2 ch2) (hsh : sh nu2) : CTv l yX2_copyOf wsX2_copyOf ({ frames := 0, cells := 0, slots := 0, locals := 0 }) D cs ad n M [.ref (ad k), .ref (ad b)] (fun M2 => M2 k = oPk nu2 fr2 ak2 fi2 cn2 bt2 ch2 ∧ ∀ i, i ≠ k → M2 i = M i) := by
  refine Met.ofW (cc := cX2_copyOf) (maxL := 2) (ret := none) (by decide) rfl ?_
  intro p e s m args below meth c s₁ B hml hv
  obtain ⟨rfl, hP, hK⟩ := hv
  have hx := B.exec
  have hb := B.bytes
  have hr := B.returns
  have hts := atoms_spec (ws := wsX2_copyOf) B.pre
  have hown : s.vm.findClass RX2 = some m.cls := findClass_of_methodNamed B.named
  have hlocks := B.notSynchronized
  have hS : va_S (Ad ad n) s.heap s.heap [] := va_S.rf
  have hl := lv_entry ([.ref (ad k), .ref (ad b)]) (n := 2) (Nat.le_of_ble_eq_true rfl)
  rw [lg_entry_eq]
  generalize (lg_sl ([.ref (ad k), .ref (ad b)]) ++ List.replicate (2 - (lg_sl ([.ref (ad k), .ref (ad b)])).length) Slot.unset).toArray = ls at hl ⊢
  have hl : lv_has ls 2 [(0, .ref (ad k)), (1, .ref (ad b))] := hl
  have inX2 : ∀ w ∈ u_ws RX2 TX2 7, w ∈ wsX2_copyOf := fun w h => List.mem_cons_of_mem _ (List.mem_append_right _ h)
  refine lv_aload_n hx hb dX2_copyOf_0 rfl (lv_at hl 0 rfl) ?_
  refine lv_aload_n hx hb dX2_copyOf_1 rfl (lv_at hl 1 rfl) ?_
  refine m_get hx hb hts inX2 hown hK hP (ci := 2) rfl (k := b) (by omega) g1 0 (by decide) (hts (.fieldLink RX2 35 "RollbackPair$Packet" "number" "S") (by decide +kernel)) rfl dX2_copyOf_2 ?_
  refine m_put hx hb hts inX2 tyX2 tyX2_ok nmX2 hown hK hP hJ hS (ci := 2) rfl (k := k) (by omega) h1 0 (by decide) (hts (.fieldLink RX2 35 "RollbackPair$Packet" "number" "S") (by decide +kernel)) rfl (nar_sh hsh) (fit_sh hsh) (Nat.le_of_ble_eq_true rfl) (fs' := [.int nu2, .int fr, .int ak, .int fi, .int cn, .long bt, .int ch]) rfl dX2_copyOf_5 (fun H locs hP hS => ?_)
  obtain ⟨M_1, eM_1⟩ : ∃ z, z = va_up M k (.inr (2, [.int nu2, .int fr, .int ak, .int fi, .int cn, .long bt, .int ch])) := ⟨_, rfl⟩
  rw [← eM_1] at hP
  have h1_1 : M_1 k = .inr (2, [.int nu2, .int fr, .int ak, .int fi, .int cn, .long bt, .int ch]) := by rw [eM_1]; exact va_up_self _ _ _
  have h1_2 : M_1 b = .inr (2, [.int nu2, .int fr2, .int ak2, .int fi2, .int cn2, .long bt2, .int ch2]) := by rw [eM_1]; exact (va_up_ne _ _ (by omega)).trans g1
  refine lv_aload_n hx hb dX2_copyOf_8 rfl (lv_at hl 0 rfl) ?_
  refine lv_aload_n hx hb dX2_copyOf_9 rfl (lv_at hl 1 rfl) ?_
  refine m_get hx hb hts inX2 hown hK hP (ci := 2) rfl (k := b) (by omega) h1_2 1 (by decide) (hts (.fieldLink RX2 39 "RollbackPair$Packet" "frame" "I") (by decide +kernel)) rfl dX2_copyOf_10 ?_
  refine m_put hx hb hts inX2 tyX2 tyX2_ok nmX2 hown hK hP hJ hS (ci := 2) rfl (k := k) (by omega) h1_1 1 (by decide) (hts (.fieldLink RX2 39 "RollbackPair$Packet" "frame" "I") (by decide +kernel)) rfl rfl rfl (Nat.le_of_ble_eq_true rfl) (fs' := [.int nu2, .int fr2, .int ak, .int fi, .int cn, .long bt, .int ch]) rfl dX2_copyOf_13 (fun H locs hP hS => ?_)
  obtain ⟨M_2, eM_2⟩ : ∃ z, z = va_up M_1 k (.inr (2, [.int nu2, .int fr2, .int ak, .int fi, .int cn, .long bt, .int ch])) := ⟨_, rfl⟩
  rw [← eM_2] at hP
  have h2_1 : M_2 k = .inr (2, [.int nu2, .int fr2, .int ak, .int fi, .int cn, .long bt, .int ch]) := by rw [eM_2]; exact va_up_self _ _ _
  have h2_2 : M_2 b = .inr (2, [.int nu2, .int fr2, .int ak2, .int fi2, .int cn2, .long bt2, .int ch2]) := by rw [eM_2]; exact (va_up_ne _ _ (by omega)).trans h1_2
  refine lv_aload_n hx hb dX2_copyOf_16 rfl (lv_at hl 0 rfl) ?_
  refine lv_aload_n hx hb dX2_copyOf_17 rfl (lv_at hl 1 rfl) ?_
  refine m_get hx hb hts inX2 hown hK hP (ci := 2) rfl (k := b) (by omega) h2_2 2 (by decide) (hts (.fieldLink RX2 42 "RollbackPair$Packet" "ack" "I") (by decide +kernel)) rfl dX2_copyOf_18 ?_
  refine m_put hx hb hts inX2 tyX2 tyX2_ok nmX2 hown hK hP hJ hS (ci := 2) rfl (k := k) (by omega) h2_1 2 (by decide) (hts (.fieldLink RX2 42 "RollbackPair$Packet" "ack" "I") (by decide +kernel)) rfl rfl rfl (Nat.le_of_ble_eq_true rfl) (fs' := [.int nu2, .int fr2, .int ak2, .int fi, .int cn, .long bt, .int ch]) rfl dX2_copyOf_21 (fun H locs hP hS => ?_)
  obtain ⟨M_3, eM_3⟩ : ∃ z, z = va_up M_2 k (.inr (2, [.int nu2, .int fr2, .int ak2, .int fi, .int cn, .long bt, .int ch])) := ⟨_, rfl⟩
  rw [← eM_3] at hP
  have h3_1 : M_3 k = .inr (2, [.int nu2, .int fr2, .int ak2, .int fi, .int cn, .long bt, .int ch]) := by rw [eM_3]; exact va_up_self _ _ _
  have h3_2 : M_3 b = .inr (2, [.int nu2, .int fr2, .int ak2, .int fi2, .int cn2, .long bt2, .int ch2]) := by rw [eM_3]; exact (va_up_ne _ _ (by omega)).trans h2_2
  refine lv_aload_n hx hb dX2_copyOf_24 rfl (lv_at hl 0 rfl) ?_
  refine lv_aload_n hx hb dX2_copyOf_25 rfl (lv_at hl 1 rfl) ?_
  refine m_get hx hb hts inX2 hown hK hP (ci := 2) rfl (k := b) (by omega) h3_2 3 (by decide) (hts (.fieldLink RX2 9 "RollbackPair$Packet" "first" "I") (by decide +kernel)) rfl dX2_copyOf_26 ?_
  refine m_put hx hb hts inX2 tyX2 tyX2_ok nmX2 hown hK hP hJ hS (ci := 2) rfl (k := k) (by omega) h3_1 3 (by decide) (hts (.fieldLink RX2 9 "RollbackPair$Packet" "first" "I") (by decide +kernel)) rfl rfl rfl (Nat.le_of_ble_eq_true rfl) (fs' := [.int nu2, .int fr2, .int ak2, .int fi2, .int cn, .long bt, .int ch]) rfl dX2_copyOf_29 (fun H locs hP hS => ?_)
  obtain ⟨M_4, eM_4⟩ : ∃ z, z = va_up M_3 k (.inr (2, [.int nu2, .int fr2, .int ak2, .int fi2, .int cn, .long bt, .int ch])) := ⟨_, rfl⟩
  rw [← eM_4] at hP
  have h4_1 : M_4 k = .inr (2, [.int nu2, .int fr2, .int ak2, .int fi2, .int cn, .long bt, .int ch]) := by rw [eM_4]; exact va_up_self _ _ _
  have h4_2 : M_4 b = .inr (2, [.int nu2, .int fr2, .int ak2, .int fi2, .int cn2, .long bt2, .int ch2]) := by rw [eM_4]; exact (va_up_ne _ _ (by omega)).trans h3_2
  refine lv_aload_n hx hb dX2_copyOf_32 rfl (lv_at hl 0 rfl) ?_
  refine lv_aload_n hx hb dX2_copyOf_33 rfl (lv_at hl 1 rfl) ?_
  refine m_get hx hb hts inX2 hown hK hP (ci := 2) rfl (k := b) (by omega) h4_2 4 (by decide) (hts (.fieldLink RX2 26 "RollbackPair$Packet" "count" "I") (by decide +kernel)) rfl dX2_copyOf_34 ?_
  refine m_put hx hb hts inX2 tyX2 tyX2_ok nmX2 hown hK hP hJ hS (ci := 2) rfl (k := k) (by omega) h4_1 4 (by decide) (hts (.fieldLink RX2 26 "RollbackPair$Packet" "count" "I") (by decide +kernel)) rfl rfl rfl (Nat.le_of_ble_eq_true rfl) (fs' := [.int nu2, .int fr2, .int ak2, .int fi2, .int cn2, .long bt, .int ch]) rfl dX2_copyOf_37 (fun H locs hP hS => ?_)
  obtain ⟨M_5, eM_5⟩ : ∃ z, z = va_up M_4 k (.inr (2, [.int nu2, .int fr2, .int ak2, .int fi2, .int cn2, .long bt, .int ch])) := ⟨_, rfl⟩
  rw [← eM_5] at hP
  have h5_1 : M_5 k = .inr (2, [.int nu2, .int fr2, .int ak2, .int fi2, .int cn2, .long bt, .int ch]) := by rw [eM_5]; exact va_up_self _ _ _
  have h5_2 : M_5 b = .inr (2, [.int nu2, .int fr2, .int ak2, .int fi2, .int cn2, .long bt2, .int ch2]) := by rw [eM_5]; exact (va_up_ne _ _ (by omega)).trans h4_2
  refine lv_aload_n hx hb dX2_copyOf_40 rfl (lv_at hl 0 rfl) ?_
  refine lv_aload_n hx hb dX2_copyOf_41 rfl (lv_at hl 1 rfl) ?_
  refine m_get hx hb hts inX2 hown hK hP (ci := 2) rfl (k := b) (by omega) h5_2 5 (by decide) (hts (.fieldLink RX2 27 "RollbackPair$Packet" "bits" "J") (by decide +kernel)) rfl dX2_copyOf_42 ?_
  refine m_put hx hb hts inX2 tyX2 tyX2_ok nmX2 hown hK hP hJ hS (ci := 2) rfl (k := k) (by omega) h5_1 5 (by decide) (hts (.fieldLink RX2 27 "RollbackPair$Packet" "bits" "J") (by decide +kernel)) rfl rfl rfl (Nat.le_of_ble_eq_true rfl) (fs' := [.int nu2, .int fr2, .int ak2, .int fi2, .int cn2, .long bt2, .int ch]) rfl dX2_copyOf_45 (fun H locs hP hS => ?_)
  obtain ⟨M_6, eM_6⟩ : ∃ z, z = va_up M_5 k (.inr (2, [.int nu2, .int fr2, .int ak2, .int fi2, .int cn2, .long bt2, .int ch])) := ⟨_, rfl⟩
  rw [← eM_6] at hP
  have h6_1 : M_6 k = .inr (2, [.int nu2, .int fr2, .int ak2, .int fi2, .int cn2, .long bt2, .int ch]) := by rw [eM_6]; exact va_up_self _ _ _
  have h6_2 : M_6 b = .inr (2, [.int nu2, .int fr2, .int ak2, .int fi2, .int cn2, .long bt2, .int ch2]) := by rw [eM_6]; exact (va_up_ne _ _ (by omega)).trans h5_2
  refine lv_aload_n hx hb dX2_copyOf_48 rfl (lv_at hl 0 rfl) ?_
  refine lv_aload_n hx hb dX2_copyOf_49 rfl (lv_at hl 1 rfl) ?_
  refine m_get hx hb hts inX2 hown hK hP (ci := 2) rfl (k := b) (by omega) h6_2 6 (by decide) (hts (.fieldLink RX2 45 "RollbackPair$Packet" "check" "I") (by decide +kernel)) rfl dX2_copyOf_50 ?_
  refine m_put hx hb hts inX2 tyX2 tyX2_ok nmX2 hown hK hP hJ hS (ci := 2) rfl (k := k) (by omega) h6_1 6 (by decide) (hts (.fieldLink RX2 45 "RollbackPair$Packet" "check" "I") (by decide +kernel)) rfl rfl rfl (Nat.le_of_ble_eq_true rfl) (fs' := [.int nu2, .int fr2, .int ak2, .int fi2, .int cn2, .long bt2, .int ch2]) rfl dX2_copyOf_53 (fun H locs hP hS => ?_)
  obtain ⟨M_7, eM_7⟩ : ∃ z, z = va_up M_6 k (.inr (2, [.int nu2, .int fr2, .int ak2, .int fi2, .int cn2, .long bt2, .int ch2])) := ⟨_, rfl⟩
  rw [← eM_7] at hP
  have h7_1 : M_7 k = .inr (2, [.int nu2, .int fr2, .int ak2, .int fi2, .int cn2, .long bt2, .int ch2]) := by rw [eM_7]; exact va_up_self _ _ _
  have h7_2 : M_7 b = .inr (2, [.int nu2, .int fr2, .int ak2, .int fi2, .int cn2, .long bt2, .int ch2]) := by rw [eM_7]; exact (va_up_ne _ _ (by omega)).trans h6_2
  exact r_v hx hb hr hlocks hK hP hS dX2_copyOf_56 ⟨h7_1, fun i hi => by rw [eM_7, va_up_ne _ _ (by omega), eM_6, va_up_ne _ _ (by omega), eM_5, va_up_ne _ _ (by omega), eM_4, va_up_ne _ _ (by omega), eM_3, va_up_ne _ _ (by omega), eM_2, va_up_ne _ _ (by omega), eM_1, va_up_ne _ _ (by omega)]⟩
abbrev oFl (nu fr ak fi cn : Int32) (bt : Int64) (ch : Int32) (j : Nat) (bits : Int32) : va_E := oPk (if j = 0 then (nu ^^^ bits).toInt16.toInt32 else nu) (if j = 1 then fr ^^^ bits else fr) (if j = 2 then ak ^^^ bits else ak) (if j = 3 then fi ^^^ bits else fi) (if j = 4 then cn ^^^ bits else cn) (if j = 5 then bt ^^^ (bits.toInt64 &&& (4294967295 : Int64)) else bt) (if j = 6 then ch ^^^ bits else ch)
set_option maxHeartbeats 4000000 in
set_option maxRecDepth 100000 in
/-- Packet.flip(j, bits) -/
theorem c_flip (l : Launch) (D : va_G) (cs : Nat → ClassId) (ad : Nat → Nat) (n : Nat) (hJ : Inj ad n) (M : Nat → va_E) (k : Nat) (nu fr ak fi cn : Int32) (bt : Int64) (ch : Int32) (hk : k < n) (h1 : M k = oPk nu fr ak fi cn bt ch) (j : Nat) (bits : Int32) (hj : j ≤ 6) : CTi l yX2_flip wsX2_flip ({ frames := 0, cells := 0, slots := 0, locals := 0 }) D cs ad n M [.ref (ad k), .int (nI j), .int bits] (fun r M2 => r = nI 1 ∧ M2 k = oFl nu fr ak fi cn bt ch j bits ∧ ∀ i, i ≠ k → M2 i = M i) := by
  refine Met.ofW (cc := cX2_flip) (maxL := 3) (ret := (some .boolean)) (by decide) rfl ?_
  intro p e s m args below meth c s₁ B hml hv
  obtain ⟨rfl, hP, hK⟩ := hv
  have hx := B.exec
  have hb := B.bytes
  have hr := B.returns
  have hts := atoms_spec (ws := wsX2_flip) B.pre
  have hown : s.vm.findClass RX2 = some m.cls := findClass_of_methodNamed B.named
  have hlocks := B.notSynchronized
  have hS : va_S (Ad ad n) s.heap s.heap [] := va_S.rf
  have hl := lv_entry ([.ref (ad k), .int (nI j), .int bits]) (n := 3) (Nat.le_of_ble_eq_true rfl)
  rw [lg_entry_eq]
  generalize (lg_sl ([.ref (ad k), .int (nI j), .int bits]) ++ List.replicate (3 - (lg_sl ([.ref (ad k), .int (nI j), .int bits])).length) Slot.unset).toArray = ls at hl ⊢
  have hl : lv_has ls 3 [(0, .ref (ad k)), (1, .int (nI j)), (2, .int bits)] := hl
  have inX2 : ∀ w ∈ u_ws RX2 TX2 7, w ∈ wsX2_flip := fun w h => List.mem_cons_of_mem _ (List.mem_append_right _ h)
  rcases (show j = 0 ∨ j = 1 ∨ j = 2 ∨ j = 3 ∨ j = 4 ∨ j = 5 ∨ j = 6 by omega) with rfl | rfl | rfl | rfl | rfl | rfl | rfl
  · refine lv_iload_n hx hb dX2_flip_0 rfl (lv_at hl 1 rfl) ?_
    refine lv_tableIn (off := 43) (tgt := 44) hx hb dX2_flip_1 (by decide) (by decide) (by decide) (by decide) ?_
    refine lv_aload_n hx hb dX2_flip_44 rfl (lv_at hl 0 rfl) ?_
    refine lv_aload_n hx hb dX2_flip_45 rfl (lv_at hl 0 rfl) ?_
    refine m_get hx hb hts inX2 hown hK hP (ci := 2) rfl (k := k) (by omega) h1 0 (by decide) (hts (.fieldLink RX2 35 "RollbackPair$Packet" "number" "S") (by decide +kernel)) rfl dX2_flip_46 ?_
    refine lv_iload_n hx hb dX2_flip_49 rfl (lv_at hl 2 rfl) ?_
    refine lv_ixor hx hb dX2_flip_50 ?_
    refine lv_i2s hx hb dX2_flip_51 rfl ?_
    refine m_put hx hb hts inX2 tyX2 tyX2_ok nmX2 hown hK hP hJ hS (ci := 2) rfl (k := k) (by omega) h1 0 (by decide) (hts (.fieldLink RX2 35 "RollbackPair$Packet" "number" "S") (by decide +kernel)) rfl (nar_sh (sh_i _)) (fit_sh (sh_i _)) (Nat.le_of_ble_eq_true rfl) (fs' := [.int ((nu ^^^ bits).toInt16.toInt32), .int fr, .int ak, .int fi, .int cn, .long bt, .int ch]) rfl dX2_flip_52 (fun H locs hP hS => ?_)
    obtain ⟨M_1, eM_1⟩ : ∃ z, z = va_up M k (.inr (2, [.int ((nu ^^^ bits).toInt16.toInt32), .int fr, .int ak, .int fi, .int cn, .long bt, .int ch])) := ⟨_, rfl⟩
    rw [← eM_1] at hP
    have h1_1 : M_1 k = .inr (2, [.int ((nu ^^^ bits).toInt16.toInt32), .int fr, .int ak, .int fi, .int cn, .long bt, .int ch]) := by rw [eM_1]; exact va_up_self _ _ _
    refine lv_iconst (v := nI 1) hx hb dX2_flip_55 (by decide) ?_
    exact r_z hx hb hr hlocks hK hP hS dX2_flip_56 (by first | rfl | decide) ⟨rfl, h1_1, fun i hi => by rw [eM_1, va_up_ne _ _ (by omega)]⟩
  · refine lv_iload_n hx hb dX2_flip_0 rfl (lv_at hl 1 rfl) ?_
    refine lv_tableIn (off := 56) (tgt := 57) hx hb dX2_flip_1 (by decide) (by decide) (by decide) (by decide) ?_
    refine lv_aload_n hx hb dX2_flip_57 rfl (lv_at hl 0 rfl) ?_
    refine lv_dup hx hb dX2_flip_58 rfl ?_
    refine m_get hx hb hts inX2 hown hK hP (ci := 2) rfl (k := k) (by omega) h1 1 (by decide) (hts (.fieldLink RX2 39 "RollbackPair$Packet" "frame" "I") (by decide +kernel)) rfl dX2_flip_59 ?_
    refine lv_iload_n hx hb dX2_flip_62 rfl (lv_at hl 2 rfl) ?_
    refine lv_ixor hx hb dX2_flip_63 ?_
    refine m_put hx hb hts inX2 tyX2 tyX2_ok nmX2 hown hK hP hJ hS (ci := 2) rfl (k := k) (by omega) h1 1 (by decide) (hts (.fieldLink RX2 39 "RollbackPair$Packet" "frame" "I") (by decide +kernel)) rfl rfl rfl (Nat.le_of_ble_eq_true rfl) (fs' := [.int nu, .int (fr ^^^ bits), .int ak, .int fi, .int cn, .long bt, .int ch]) rfl dX2_flip_64 (fun H locs hP hS => ?_)
    obtain ⟨M_1, eM_1⟩ : ∃ z, z = va_up M k (.inr (2, [.int nu, .int (fr ^^^ bits), .int ak, .int fi, .int cn, .long bt, .int ch])) := ⟨_, rfl⟩
    rw [← eM_1] at hP
    have h1_1 : M_1 k = .inr (2, [.int nu, .int (fr ^^^ bits), .int ak, .int fi, .int cn, .long bt, .int ch]) := by rw [eM_1]; exact va_up_self _ _ _
    refine lv_iconst (v := nI 1) hx hb dX2_flip_67 (by decide) ?_
    exact r_z hx hb hr hlocks hK hP hS dX2_flip_68 (by first | rfl | decide) ⟨rfl, h1_1, fun i hi => by rw [eM_1, va_up_ne _ _ (by omega)]⟩
  · refine lv_iload_n hx hb dX2_flip_0 rfl (lv_at hl 1 rfl) ?_
    refine lv_tableIn (off := 68) (tgt := 69) hx hb dX2_flip_1 (by decide) (by decide) (by decide) (by decide) ?_
    refine lv_aload_n hx hb dX2_flip_69 rfl (lv_at hl 0 rfl) ?_
    refine lv_dup hx hb dX2_flip_70 rfl ?_
    refine m_get hx hb hts inX2 hown hK hP (ci := 2) rfl (k := k) (by omega) h1 2 (by decide) (hts (.fieldLink RX2 42 "RollbackPair$Packet" "ack" "I") (by decide +kernel)) rfl dX2_flip_71 ?_
    refine lv_iload_n hx hb dX2_flip_74 rfl (lv_at hl 2 rfl) ?_
    refine lv_ixor hx hb dX2_flip_75 ?_
    refine m_put hx hb hts inX2 tyX2 tyX2_ok nmX2 hown hK hP hJ hS (ci := 2) rfl (k := k) (by omega) h1 2 (by decide) (hts (.fieldLink RX2 42 "RollbackPair$Packet" "ack" "I") (by decide +kernel)) rfl rfl rfl (Nat.le_of_ble_eq_true rfl) (fs' := [.int nu, .int fr, .int (ak ^^^ bits), .int fi, .int cn, .long bt, .int ch]) rfl dX2_flip_76 (fun H locs hP hS => ?_)
    obtain ⟨M_1, eM_1⟩ : ∃ z, z = va_up M k (.inr (2, [.int nu, .int fr, .int (ak ^^^ bits), .int fi, .int cn, .long bt, .int ch])) := ⟨_, rfl⟩
    rw [← eM_1] at hP
    have h1_1 : M_1 k = .inr (2, [.int nu, .int fr, .int (ak ^^^ bits), .int fi, .int cn, .long bt, .int ch]) := by rw [eM_1]; exact va_up_self _ _ _
    refine lv_iconst (v := nI 1) hx hb dX2_flip_79 (by decide) ?_
    exact r_z hx hb hr hlocks hK hP hS dX2_flip_80 (by first | rfl | decide) ⟨rfl, h1_1, fun i hi => by rw [eM_1, va_up_ne _ _ (by omega)]⟩
  · refine lv_iload_n hx hb dX2_flip_0 rfl (lv_at hl 1 rfl) ?_
    refine lv_tableIn (off := 80) (tgt := 81) hx hb dX2_flip_1 (by decide) (by decide) (by decide) (by decide) ?_
    refine lv_aload_n hx hb dX2_flip_81 rfl (lv_at hl 0 rfl) ?_
    refine lv_dup hx hb dX2_flip_82 rfl ?_
    refine m_get hx hb hts inX2 hown hK hP (ci := 2) rfl (k := k) (by omega) h1 3 (by decide) (hts (.fieldLink RX2 9 "RollbackPair$Packet" "first" "I") (by decide +kernel)) rfl dX2_flip_83 ?_
    refine lv_iload_n hx hb dX2_flip_86 rfl (lv_at hl 2 rfl) ?_
    refine lv_ixor hx hb dX2_flip_87 ?_
    refine m_put hx hb hts inX2 tyX2 tyX2_ok nmX2 hown hK hP hJ hS (ci := 2) rfl (k := k) (by omega) h1 3 (by decide) (hts (.fieldLink RX2 9 "RollbackPair$Packet" "first" "I") (by decide +kernel)) rfl rfl rfl (Nat.le_of_ble_eq_true rfl) (fs' := [.int nu, .int fr, .int ak, .int (fi ^^^ bits), .int cn, .long bt, .int ch]) rfl dX2_flip_88 (fun H locs hP hS => ?_)
    obtain ⟨M_1, eM_1⟩ : ∃ z, z = va_up M k (.inr (2, [.int nu, .int fr, .int ak, .int (fi ^^^ bits), .int cn, .long bt, .int ch])) := ⟨_, rfl⟩
    rw [← eM_1] at hP
    have h1_1 : M_1 k = .inr (2, [.int nu, .int fr, .int ak, .int (fi ^^^ bits), .int cn, .long bt, .int ch]) := by rw [eM_1]; exact va_up_self _ _ _
    refine lv_iconst (v := nI 1) hx hb dX2_flip_91 (by decide) ?_
    exact r_z hx hb hr hlocks hK hP hS dX2_flip_92 (by first | rfl | decide) ⟨rfl, h1_1, fun i hi => by rw [eM_1, va_up_ne _ _ (by omega)]⟩
  · refine lv_iload_n hx hb dX2_flip_0 rfl (lv_at hl 1 rfl) ?_
    refine lv_tableIn (off := 92) (tgt := 93) hx hb dX2_flip_1 (by decide) (by decide) (by decide) (by decide) ?_
    refine lv_aload_n hx hb dX2_flip_93 rfl (lv_at hl 0 rfl) ?_
    refine lv_dup hx hb dX2_flip_94 rfl ?_
    refine m_get hx hb hts inX2 hown hK hP (ci := 2) rfl (k := k) (by omega) h1 4 (by decide) (hts (.fieldLink RX2 26 "RollbackPair$Packet" "count" "I") (by decide +kernel)) rfl dX2_flip_95 ?_
    refine lv_iload_n hx hb dX2_flip_98 rfl (lv_at hl 2 rfl) ?_
    refine lv_ixor hx hb dX2_flip_99 ?_
    refine m_put hx hb hts inX2 tyX2 tyX2_ok nmX2 hown hK hP hJ hS (ci := 2) rfl (k := k) (by omega) h1 4 (by decide) (hts (.fieldLink RX2 26 "RollbackPair$Packet" "count" "I") (by decide +kernel)) rfl rfl rfl (Nat.le_of_ble_eq_true rfl) (fs' := [.int nu, .int fr, .int ak, .int fi, .int (cn ^^^ bits), .long bt, .int ch]) rfl dX2_flip_100 (fun H locs hP hS => ?_)
    obtain ⟨M_1, eM_1⟩ : ∃ z, z = va_up M k (.inr (2, [.int nu, .int fr, .int ak, .int fi, .int (cn ^^^ bits), .long bt, .int ch])) := ⟨_, rfl⟩
    rw [← eM_1] at hP
    have h1_1 : M_1 k = .inr (2, [.int nu, .int fr, .int ak, .int fi, .int (cn ^^^ bits), .long bt, .int ch]) := by rw [eM_1]; exact va_up_self _ _ _
    refine lv_iconst (v := nI 1) hx hb dX2_flip_103 (by decide) ?_
    exact r_z hx hb hr hlocks hK hP hS dX2_flip_104 (by first | rfl | decide) ⟨rfl, h1_1, fun i hi => by rw [eM_1, va_up_ne _ _ (by omega)]⟩
  · refine lv_iload_n hx hb dX2_flip_0 rfl (lv_at hl 1 rfl) ?_
    refine lv_tableIn (off := 104) (tgt := 105) hx hb dX2_flip_1 (by decide) (by decide) (by decide) (by decide) ?_
    refine lv_aload_n hx hb dX2_flip_105 rfl (lv_at hl 0 rfl) ?_
    refine lv_dup hx hb dX2_flip_106 rfl ?_
    refine m_get hx hb hts inX2 hown hK hP (ci := 2) rfl (k := k) (by omega) h1 5 (by decide) (hts (.fieldLink RX2 27 "RollbackPair$Packet" "bits" "J") (by decide +kernel)) rfl dX2_flip_107 ?_
    refine lv_iload_n hx hb dX2_flip_110 rfl (lv_at hl 2 rfl) ?_
    refine lv_i2l hx hb dX2_flip_111 rfl ?_
    refine lv_ldc2 hx hb hown (hts (.constantLong RX2 48 (4294967295)) (by decide +kernel)) dX2_flip_112 ?_
    refine lv_land hx hb dX2_flip_115 ?_
    refine lv_lxor hx hb dX2_flip_116 ?_
    refine m_put hx hb hts inX2 tyX2 tyX2_ok nmX2 hown hK hP hJ hS (ci := 2) rfl (k := k) (by omega) h1 5 (by decide) (hts (.fieldLink RX2 27 "RollbackPair$Packet" "bits" "J") (by decide +kernel)) rfl rfl rfl (Nat.le_of_ble_eq_true rfl) (fs' := [.int nu, .int fr, .int ak, .int fi, .int cn, .long (bt ^^^ (bits.toInt64 &&& (4294967295 : Int64))), .int ch]) rfl dX2_flip_117 (fun H locs hP hS => ?_)
    obtain ⟨M_1, eM_1⟩ : ∃ z, z = va_up M k (.inr (2, [.int nu, .int fr, .int ak, .int fi, .int cn, .long (bt ^^^ (bits.toInt64 &&& (4294967295 : Int64))), .int ch])) := ⟨_, rfl⟩
    rw [← eM_1] at hP
    have h1_1 : M_1 k = .inr (2, [.int nu, .int fr, .int ak, .int fi, .int cn, .long (bt ^^^ (bits.toInt64 &&& (4294967295 : Int64))), .int ch]) := by rw [eM_1]; exact va_up_self _ _ _
    refine lv_iconst (v := nI 1) hx hb dX2_flip_120 (by decide) ?_
    exact r_z hx hb hr hlocks hK hP hS dX2_flip_121 (by first | rfl | decide) ⟨rfl, h1_1, fun i hi => by rw [eM_1, va_up_ne _ _ (by omega)]⟩
  · refine lv_iload_n hx hb dX2_flip_0 rfl (lv_at hl 1 rfl) ?_
    refine lv_tableIn (off := 121) (tgt := 122) hx hb dX2_flip_1 (by decide) (by decide) (by decide) (by decide) ?_
    refine lv_aload_n hx hb dX2_flip_122 rfl (lv_at hl 0 rfl) ?_
    refine lv_dup hx hb dX2_flip_123 rfl ?_
    refine m_get hx hb hts inX2 hown hK hP (ci := 2) rfl (k := k) (by omega) h1 6 (by decide) (hts (.fieldLink RX2 45 "RollbackPair$Packet" "check" "I") (by decide +kernel)) rfl dX2_flip_124 ?_
    refine lv_iload_n hx hb dX2_flip_127 rfl (lv_at hl 2 rfl) ?_
    refine lv_ixor hx hb dX2_flip_128 ?_
    refine m_put hx hb hts inX2 tyX2 tyX2_ok nmX2 hown hK hP hJ hS (ci := 2) rfl (k := k) (by omega) h1 6 (by decide) (hts (.fieldLink RX2 45 "RollbackPair$Packet" "check" "I") (by decide +kernel)) rfl rfl rfl (Nat.le_of_ble_eq_true rfl) (fs' := [.int nu, .int fr, .int ak, .int fi, .int cn, .long bt, .int (ch ^^^ bits)]) rfl dX2_flip_129 (fun H locs hP hS => ?_)
    obtain ⟨M_1, eM_1⟩ : ∃ z, z = va_up M k (.inr (2, [.int nu, .int fr, .int ak, .int fi, .int cn, .long bt, .int (ch ^^^ bits)])) := ⟨_, rfl⟩
    rw [← eM_1] at hP
    have h1_1 : M_1 k = .inr (2, [.int nu, .int fr, .int ak, .int fi, .int cn, .long bt, .int (ch ^^^ bits)]) := by rw [eM_1]; exact va_up_self _ _ _
    refine lv_iconst (v := nI 1) hx hb dX2_flip_132 (by decide) ?_
    exact r_z hx hb hr hlocks hK hP hS dX2_flip_133 (by first | rfl | decide) ⟨rfl, h1_1, fun i hi => by rw [eM_1, va_up_ne _ _ (by omega)]⟩
set_option maxHeartbeats 4000000 in
set_option maxRecDepth 100000 in
/-- Packet.flip, refused -/
theorem c_flip_no (l : Launch) (D : va_G) (cs : Nat → ClassId) (ad : Nat → Nat) (n : Nat) (hJ : Inj ad n) (M : Nat → va_E) (k : Nat) (x bits : Int32) (hz : x < 0 ∨ nI 6 < x) : CTi l yX2_flip wsX2_flip ({ frames := 0, cells := 0, slots := 0, locals := 0 }) D cs ad n M [.ref (ad k), .int x, .int bits] (fun r M2 => M2 = M ∧ r = nI 0) := by
  refine Met.ofW (cc := cX2_flip) (maxL := 3) (ret := (some .boolean)) (by decide) rfl ?_
  intro p e s m args below meth c s₁ B hml hv
  obtain ⟨rfl, hP, hK⟩ := hv
  have hx := B.exec
  have hb := B.bytes
  have hr := B.returns
  have hts := atoms_spec (ws := wsX2_flip) B.pre
  have hown : s.vm.findClass RX2 = some m.cls := findClass_of_methodNamed B.named
  have hlocks := B.notSynchronized
  have hS : va_S (Ad ad n) s.heap s.heap [] := va_S.rf
  have hl := lv_entry ([.ref (ad k), .int x, .int bits]) (n := 3) (Nat.le_of_ble_eq_true rfl)
  rw [lg_entry_eq]
  generalize (lg_sl ([.ref (ad k), .int x, .int bits]) ++ List.replicate (3 - (lg_sl ([.ref (ad k), .int x, .int bits])).length) Slot.unset).toArray = ls at hl ⊢
  have hl : lv_has ls 3 [(0, .ref (ad k)), (1, .int x), (2, .int bits)] := hl
  have inX2 : ∀ w ∈ u_ws RX2 TX2 7, w ∈ wsX2_flip := fun w h => List.mem_cons_of_mem _ (List.mem_append_right _ h)
  refine lv_iload_n hx hb dX2_flip_0 rfl (lv_at hl 1 rfl) ?_
  refine lv_tableOut (tgt := 134) hx hb dX2_flip_1 (hz.elim (fun z => Or.inl (Int32.lt_iff_toInt_lt.mp z)) (fun z => Or.inr (Int32.lt_iff_toInt_lt.mp z))) (by decide) ?_
  refine lv_iconst (v := nI 0) hx hb dX2_flip_134 (by decide) ?_
  exact r_z hx hb hr hlocks hK hP hS dX2_flip_135 (by first | rfl | decide) ⟨rfl, rfl⟩
set_option maxHeartbeats 4000000 in
set_option maxRecDepth 100000 in
/-- Packet.carry(inputs, t) -/
theorem c_carry (l : Launch) (D : va_G) (cs : Nat → ClassId) (ad : Nat → Nat) (n : Nat) (hJ : Inj ad n) (M : Nat → va_E) (k : Nat) (nu fr ak fi cn : Int32) (bt : Int64) (ch : Int32) (hk : k < n) (h1 : M k = oPk nu fr ak fi cn bt ch) (ki kj N b ct : Nat) (g : Nat → Int32) (ed : Int32) (hki : ki < n) (hkj : kj < n) (hne : ki ≠ kj) (hne2 : k ≠ ki) (hne3 : k ≠ kj) (hN : N = 2 ^ b) (hb0 : b ≤ 20) (hct : ct < 2 ^ 20) (g1 : M ki = .inr (1, [.ref (ad kj), .int (nI ct), .int ed])) (g2 : M kj = eB cs N g) (tt : Nat) (htt : tt ≤ ct) : CTv l yX2_carry wsX2_carry ({ frames := 1, cells := 0, slots := 0, locals := 21 }) D cs ad n M [.ref (ad k), .ref (ad ki), .int (nI tt)] (fun M2 => M2 k = oPk nu fr ak (nI tt) (nI (min 16 (ct - tt))) (pkB (inU N ct g ed) tt (min 16 (ct - tt))) ch ∧ ∀ i, i ≠ k → M2 i = M i) := by
  refine Met.ofW (cc := cX2_carry) (maxL := 4) (ret := none) (by decide) rfl ?_
  intro p e s m args below meth c s₁ B hml hv
  obtain ⟨rfl, hP, hK⟩ := hv
  have hx := B.exec
  have hb := B.bytes
  have hr := B.returns
  have hts := atoms_spec (ws := wsX2_carry) B.pre
  have hown : s.vm.findClass RX2 = some m.cls := findClass_of_methodNamed B.named
  have hlocks := B.notSynchronized
  have hS : va_S (Ad ad n) s.heap s.heap [] := va_S.rf
  have hl := lv_entry ([.ref (ad k), .ref (ad ki), .int (nI tt)]) (n := 4) (Nat.le_of_ble_eq_true rfl)
  rw [lg_entry_eq]
  generalize (lg_sl ([.ref (ad k), .ref (ad ki), .int (nI tt)]) ++ List.replicate (4 - (lg_sl ([.ref (ad k), .ref (ad ki), .int (nI tt)])).length) Slot.unset).toArray = ls at hl ⊢
  have hl : lv_has ls 4 [(0, .ref (ad k)), (1, .ref (ad ki)), (2, .int (nI tt))] := hl
  have inX2 : ∀ w ∈ u_ws RX2 TX2 7, w ∈ wsX2_carry := fun w h => List.mem_cons_of_mem _ (List.mem_append_left _ (List.mem_append_right _ h))
  have inX1 : ∀ w ∈ u_ws RX1 TX1 3, w ∈ wsX2_carry := fun w h => List.mem_cons_of_mem _ (List.mem_append_right _ h)
  obtain ⟨cc2, hcc⟩ : ∃ z, z = min 16 (ct - tt) := ⟨_, rfl⟩
  rw [← hcc]
  refine lv_aload_n hx hb dX2_carry_0 rfl (lv_at hl 0 rfl) ?_
  refine lv_iload_n hx hb dX2_carry_1 rfl (lv_at hl 2 rfl) ?_
  refine m_put hx hb hts inX2 tyX2 tyX2_ok nmX2 hown hK hP hJ hS (ci := 2) rfl (k := k) (by omega) h1 3 (by decide) (hts (.fieldLink RX2 9 "RollbackPair$Packet" "first" "I") (by decide +kernel)) rfl rfl rfl (Nat.le_of_ble_eq_true rfl) (fs' := [.int nu, .int fr, .int ak, .int (nI tt), .int cn, .long bt, .int ch]) rfl dX2_carry_2 (fun H locs hP hS => ?_)
  obtain ⟨M_1, eM_1⟩ : ∃ z, z = va_up M k (.inr (2, [.int nu, .int fr, .int ak, .int (nI tt), .int cn, .long bt, .int ch])) := ⟨_, rfl⟩
  rw [← eM_1] at hP
  have h1_1 : M_1 k = .inr (2, [.int nu, .int fr, .int ak, .int (nI tt), .int cn, .long bt, .int ch]) := by rw [eM_1]; exact va_up_self _ _ _
  have h1_2 : M_1 ki = .inr (1, [.ref (ad kj), .int (nI ct), .int ed]) := by rw [eM_1]; exact (va_up_ne _ _ (by omega)).trans g1
  have h1_3 : M_1 kj = eB cs N g := by rw [eM_1]; exact (va_up_ne _ _ (by omega)).trans g2
  refine lv_aload_n hx hb dX2_carry_5 rfl (lv_at hl 0 rfl) ?_
  refine lv_bipush (v := nI 16) hx hb dX2_carry_6 (by decide) ?_
  refine lv_aload_n hx hb dX2_carry_8 rfl (lv_at hl 1 rfl) ?_
  refine m_get hx hb hts inX1 hown hK hP (ci := 1) rfl (k := ki) (by omega) h1_2 1 (by decide) (hts (.fieldLink RX2 15 "RollbackPair$Inputs" "count" "I") (by decide +kernel)) rfl dX2_carry_9 ?_
  refine lv_iload_n hx hb dX2_carry_12 rfl (lv_at hl 2 rfl) ?_
  refine n_sub hx hb htt dX2_carry_13 ?_
  refine va_mmin hx hb (hml.trans hl.1.symm) hown (hts (.methodLink RX2 20 Lib.Math.min.name) (by decide +kernel)) (hts (.static Lib.Math.min.name) (by decide +kernel)) (hts (.initialized "java/lang/Math") (by decide +kernel)) (hts (.code Lib.Math.min.name Lib.Math.min.code 2 (some .int)) (by decide +kernel)) (Nat.le_of_ble_eq_true rfl) (Nat.le_of_ble_eq_true rfl) (Nat.zero_le _) (Nat.zero_le _) dX2_carry_14 ?_
  refine n_val (show _ = nI cc2 from min_n hcc (by omega)) ?_
  refine m_put hx hb hts inX2 tyX2 tyX2_ok nmX2 hown hK hP hJ hS (ci := 2) rfl (k := k) (by omega) h1_1 4 (by decide) (hts (.fieldLink RX2 26 "RollbackPair$Packet" "count" "I") (by decide +kernel)) rfl rfl rfl (Nat.le_of_ble_eq_true rfl) (fs' := [.int nu, .int fr, .int ak, .int (nI tt), .int (nI cc2), .long bt, .int ch]) rfl dX2_carry_17 (fun H locs hP hS => ?_)
  obtain ⟨M_2, eM_2⟩ : ∃ z, z = va_up M_1 k (.inr (2, [.int nu, .int fr, .int ak, .int (nI tt), .int (nI cc2), .long bt, .int ch])) := ⟨_, rfl⟩
  rw [← eM_2] at hP
  have h2_1 : M_2 k = .inr (2, [.int nu, .int fr, .int ak, .int (nI tt), .int (nI cc2), .long bt, .int ch]) := by rw [eM_2]; exact va_up_self _ _ _
  have h2_2 : M_2 ki = .inr (1, [.ref (ad kj), .int (nI ct), .int ed]) := by rw [eM_2]; exact (va_up_ne _ _ (by omega)).trans h1_2
  have h2_3 : M_2 kj = eB cs N g := by rw [eM_2]; exact (va_up_ne _ _ (by omega)).trans h1_3
  refine lv_aload_n hx hb dX2_carry_20 rfl (lv_at hl 0 rfl) ?_
  refine lv_lconst (v := 0) hx hb dX2_carry_21 (by decide) ?_
  refine m_put hx hb hts inX2 tyX2 tyX2_ok nmX2 hown hK hP hJ hS (ci := 2) rfl (k := k) (by omega) h2_1 5 (by decide) (hts (.fieldLink RX2 27 "RollbackPair$Packet" "bits" "J") (by decide +kernel)) rfl rfl rfl (Nat.le_of_ble_eq_true rfl) (fs' := [.int nu, .int fr, .int ak, .int (nI tt), .int (nI cc2), .long (0 : Int64), .int ch]) rfl dX2_carry_22 (fun H locs hP hS => ?_)
  obtain ⟨M_3, eM_3⟩ : ∃ z, z = va_up M_2 k (.inr (2, [.int nu, .int fr, .int ak, .int (nI tt), .int (nI cc2), .long (0 : Int64), .int ch])) := ⟨_, rfl⟩
  rw [← eM_3] at hP
  have h3_1 : M_3 k = .inr (2, [.int nu, .int fr, .int ak, .int (nI tt), .int (nI cc2), .long (0 : Int64), .int ch]) := by rw [eM_3]; exact va_up_self _ _ _
  have h3_2 : M_3 ki = .inr (1, [.ref (ad kj), .int (nI ct), .int ed]) := by rw [eM_3]; exact (va_up_ne _ _ (by omega)).trans h2_2
  have h3_3 : M_3 kj = eB cs N g := by rw [eM_3]; exact (va_up_ne _ _ (by omega)).trans h2_3
  refine lv_iconst (v := nI 0) hx hb dX2_carry_25 (by decide) ?_
  refine lv_istore_n (lv' := [(3, .int (nI 0)), (0, .ref (ad k)), (1, .ref (ad ki)), (2, .int (nI tt))]) hx hb dX2_carry_26 rfl hl (by decide) rfl (fun ls hl => ?_)
  refine lpW (fun i (x : Nat × (Nat → va_E)) ls H locs => x.1 ≤ cc2 ∧ i = cc2 - x.1 ∧ x.2 k = oPk nu fr ak (nI tt) (nI cc2) (pkB (inU N ct g ed) tt x.1) ch ∧ (∀ i, i ≠ k → x.2 i = M i) ∧ lv_has ls 4 [(3, .int (nI x.1)), (0, .ref (ad k)), (1, .ref (ad ki)), (2, .int (nI tt))] ∧ va_P D vwCl (sg ad n x.2) H ∧ va_S (Ad ad n) s.heap H locs) 27 (fun _ => []) (fun i x ls H locs hC ih => ?_) cc2 (0, M_3) ls _ _ ⟨Nat.zero_le _, rfl, h3_1, fun i hi => show M_3 i = M i from by rw [eM_3, va_up_ne _ _ (by omega), eM_2, va_up_ne _ _ (by omega), eM_1, va_up_ne _ _ (by omega)], lv_sub hl [0, 1, 2, 3] rfl, hP, hS⟩
  obtain ⟨j, Mj⟩ := x
  obtain ⟨i1, i2, i3, i4, hl, hP, hS⟩ := hC
  dsimp only at i1 i2 i3 i4 hl hP hS ih ⊢
  have f1 : Mj ki = .inr (1, [.ref (ad kj), .int (nI ct), .int ed]) := (i4 _ (by omega)).trans g1
  have f2 : Mj kj = eB cs N g := (i4 _ (by omega)).trans g2
  refine lv_iload_n hx hb dX2_carry_27 rfl (lv_at hl 0 rfl) ?_
  refine lv_aload_n hx hb dX2_carry_28 rfl (lv_at hl 1 rfl) ?_
  refine m_get hx hb hts inX2 hown hK hP (ci := 2) rfl (k := k) (by omega) i3 4 (by decide) (hts (.fieldLink RX2 26 "RollbackPair$Packet" "count" "I") (by decide +kernel)) rfl dX2_carry_29 ?_
  refine n_cmp_ge (tgt := 62) hx hb dX2_carry_32 (by decide) (by omega) (by omega) (fun c1 => ?_) (fun c1 => ?_)
  · exact r_v hx hb hr hlocks hK hP hS dX2_carry_62 ⟨by rw [i3, show j = cc2 by omega], i4⟩
  · refine lv_aload_n hx hb dX2_carry_35 rfl (lv_at hl 1 rfl) ?_
    refine lv_dup hx hb dX2_carry_36 rfl ?_
    refine m_get hx hb hts inX2 hown hK hP (ci := 2) rfl (k := k) (by omega) i3 5 (by decide) (hts (.fieldLink RX2 27 "RollbackPair$Packet" "bits" "J") (by decide +kernel)) rfl dX2_carry_37 ?_
    refine lv_aload_n hx hb dX2_carry_40 rfl (lv_at hl 2 rfl) ?_
    refine lv_iload_n hx hb dX2_carry_41 rfl (lv_at hl 3 rfl) ?_
    refine lv_iload_n hx hb dX2_carry_42 rfl (lv_at hl 0 rfl) ?_
    refine n_add hx hb dX2_carry_43 ?_
    refine k_Vi (As := [.int (nI (tt + j))]) (rest := [.long (pkB (inU N ct g ed) tt j), .ref (ad k)]) (k := ki) (ci := 1) ⟨hx, hb, hml, hown, hts⟩ hK hP hS Ad_le (c_use l D cs ad n hJ Mj ki kj N b ct g ed hki hkj hne hN hb0 (by omega) f1 f2 (tt + j) (by omega)) (cwV 1 hts gX2_carry_X1_use rfl rfl rfl (by decide +kernel) ⟨Nat.le_of_ble_eq_true rfl, Nat.le_of_ble_eq_true rfl⟩) (by omega) f1 rfl rfl rfl hl.1 (Nat.le_of_ble_eq_true rfl) dX2_carry_44 ⟨Nat.le_of_ble_eq_true rfl, Nat.le_of_ble_eq_true rfl⟩ (fun r_1 M1 H locs hpo hP hS _ _ => ?_)
    obtain ⟨hMe, rfl⟩ := hpo
    rw [hMe] at hP
    refine lv_i2l hx hb dX2_carry_47 rfl ?_
    refine lv_iconst (v := nI 3) hx hb dX2_carry_48 (by decide) ?_
    refine lv_iload_n hx hb dX2_carry_49 rfl (lv_at hl 0 rfl) ?_
    refine n_mul hx hb dX2_carry_50 ?_
    refine lv_lshl hx hb dX2_carry_51 rfl ?_
    refine lv_lor hx hb dX2_carry_52 ?_
    refine m_put hx hb hts inX2 tyX2 tyX2_ok nmX2 hown hK hP hJ hS (ci := 2) rfl (k := k) (by omega) i3 5 (by decide) (hts (.fieldLink RX2 27 "RollbackPair$Packet" "bits" "J") (by decide +kernel)) rfl rfl rfl (Nat.le_of_ble_eq_true rfl) (fs' := [.int nu, .int fr, .int ak, .int (nI tt), .int (nI cc2), .long ((pkB (inU N ct g ed) tt j) ||| (((inU N ct g ed (tt + j)).toInt64) <<< ((nI (3 * j)).toInt64 &&& 63))), .int ch]) rfl dX2_carry_53 (fun H locs hP hS => ?_)
    obtain ⟨M_51, eM_51⟩ : ∃ z, z = va_up Mj k (.inr (2, [.int nu, .int fr, .int ak, .int (nI tt), .int (nI cc2), .long ((pkB (inU N ct g ed) tt j) ||| (((inU N ct g ed (tt + j)).toInt64) <<< ((nI (3 * j)).toInt64 &&& 63))), .int ch])) := ⟨_, rfl⟩
    rw [← eM_51] at hP
    have h51_1 : M_51 k = .inr (2, [.int nu, .int fr, .int ak, .int (nI tt), .int (nI cc2), .long ((pkB (inU N ct g ed) tt j) ||| (((inU N ct g ed (tt + j)).toInt64) <<< ((nI (3 * j)).toInt64 &&& 63))), .int ch]) := by rw [eM_51]; exact va_up_self _ _ _
    have h51_2 : M_51 ki = .inr (1, [.ref (ad kj), .int (nI ct), .int ed]) := by rw [eM_51]; exact (va_up_ne _ _ (by omega)).trans f1
    have h51_3 : M_51 kj = eB cs N g := by rw [eM_51]; exact (va_up_ne _ _ (by omega)).trans f2
    refine lv_iinc (v := nI (j + 1)) (lv' := [(3, .int (nI (j + 1))), (0, .ref (ad k)), (1, .ref (ad ki)), (2, .int (nI tt))]) hx hb dX2_carry_56 hl (k := 0) rfl (nI_1 _) (by decide) rfl (fun ls hl => ?_)
    refine lv_goto (tgt := 27) hx hb dX2_carry_59 (by decide) ?_
    exact ih (cc2 - (j + 1)) (by omega) (j + 1, M_51) ls H locs ⟨by omega, rfl, h51_1, fun i hi => (by rw [eM_51, va_up_ne _ _ hi] : M_51 i = Mj i).trans (i4 i hi), lv_sub hl [0, 1, 2, 3] rfl, hP, hS⟩
end
