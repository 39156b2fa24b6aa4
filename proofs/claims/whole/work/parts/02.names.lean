def RX0 : String := "FrameTalk$Frame"
def TX0 : u_T := fun k => match k with
  | 0 => ("FrameTalk$Frame", "outer", "LFrameTalk$Frame;", true)
  | 1 => ("FrameTalk$Frame", "depth", "I", true)
  | 2 => ("FrameTalk$Frame", "inner", "LFrameTalk$Frame;", false)
  | 3 => ("FrameTalk$Frame", "node", "LFrameTalk$Node;", false)
  | 4 => ("FrameTalk$Frame", "working", "I", false)
  | 5 => ("FrameTalk$Frame", "a", "LFrameTalk$Thing;", false)
  | 6 => ("FrameTalk$Frame", "b", "LFrameTalk$Thing;", false)
  | 7 => ("FrameTalk$Frame", "c", "LFrameTalk$Thing;", false)
  | 8 => ("FrameTalk$Frame", "latest", "LFrameTalk$Thing;", false)
  | _ => ("FrameTalk$Frame", "left", "J", false)
def tyX0 : Nat → FieldType := fun k => match k with
  | 0 => .object "FrameTalk$Frame"
  | 1 => .int
  | 2 => .object "FrameTalk$Frame"
  | 3 => .object "FrameTalk$Node"
  | 4 => .int
  | 5 => .object "FrameTalk$Thing"
  | 6 => .object "FrameTalk$Thing"
  | 7 => .object "FrameTalk$Thing"
  | 8 => .object "FrameTalk$Thing"
  | _ => .long
abbrev wsX00 : List Cond := u_ws RX0 TX0 10
theorem nmX0 : ∀ a, a < 10 → ∀ b, b < 10 → a ≠ b → (TX0 a).2.1 ≠ (TX0 b).2.1 := by decide +kernel
theorem tyX0_ok : ∀ k, k < 10 → parseFieldDescriptor (TX0 k).2.2.1 = some (tyX0 k) := by decide +kernel
abbrev cX0_init : ByteArray := prog_2_method_1_code
def yX0_init : MethodName := ⟨RX0, "<init>", "(LFrameTalk$Frame;I)V"⟩
abbrev cX0_within : ByteArray := prog_2_method_2_code
def yX0_within : MethodName := ⟨RX0, "within", "()LFrameTalk$Frame;"⟩
abbrev cX0_begin : ByteArray := prog_2_method_3_code
def yX0_begin : MethodName := ⟨RX0, "begin", "(LFrameTalk$Node;)V"⟩
abbrev cX0_receive : ByteArray := prog_2_method_4_code
def yX0_receive : MethodName := ⟨RX0, "receive", "(LFrameTalk$Thing;)V"⟩
def RX1 : String := "FrameTalk$Machine"
def TX1 : u_T := fun k => match k with
  | 0 => ("FrameTalk$Machine", "program", "LFrameTalk$Program;", true)
  | 1 => ("FrameTalk$Machine", "maker", "LFrameTalk$Maker;", true)
  | 2 => ("FrameTalk$Machine", "slots", "[LFrameTalk$Thing;", true)
  | 3 => ("FrameTalk$Machine", "outermost", "LFrameTalk$Frame;", true)
  | 4 => ("FrameTalk$Machine", "top", "LFrameTalk$Frame;", false)
  | 5 => ("FrameTalk$Machine", "held", "LFrameTalk$Thing;", false)
  | 6 => ("FrameTalk$Machine", "gave", "LFrameTalk$Thing;", false)
  | 7 => ("FrameTalk$Machine", "stepsUsedEver", "I", false)
  | 8 => ("FrameTalk$Machine", "stepsAllowed", "I", false)
  | 9 => ("FrameTalk$Machine", "spent", "Z", false)
  | 10 => ("FrameTalk$Machine", "stepsTaken", "I", false)
  | 11 => ("FrameTalk$Machine", "faultKind", "I", false)
  | _ => ("FrameTalk$Machine", "faultAt", "I", false)
def tyX1 : Nat → FieldType := fun k => match k with
  | 0 => .object "FrameTalk$Program"
  | 1 => .object "FrameTalk$Maker"
  | 2 => .array (.object "FrameTalk$Thing")
  | 3 => .object "FrameTalk$Frame"
  | 4 => .object "FrameTalk$Frame"
  | 5 => .object "FrameTalk$Thing"
  | 6 => .object "FrameTalk$Thing"
  | 7 => .int
  | 8 => .int
  | 9 => .boolean
  | 10 => .int
  | 11 => .int
  | _ => .int
abbrev wsX10 : List Cond := u_ws RX1 TX1 13
theorem nmX1 : ∀ a, a < 13 → ∀ b, b < 13 → a ≠ b → (TX1 a).2.1 ≠ (TX1 b).2.1 := by decide +kernel
theorem tyX1_ok : ∀ k, k < 13 → parseFieldDescriptor (TX1 k).2.2.1 = some (tyX1 k) := by decide +kernel
abbrev cX1_init : ByteArray := prog_3_method_1_code
def yX1_init : MethodName := ⟨RX1, "<init>", "()V"⟩
abbrev cX1_canSee : ByteArray := prog_3_method_2_code
def yX1_canSee : MethodName := ⟨RX1, "canSee", "(I)Z"⟩
abbrev cX1_seenAt : ByteArray := prog_3_method_3_code
def yX1_seenAt : MethodName := ⟨RX1, "seenAt", "(I)LFrameTalk$Thing;"⟩
abbrev cX1_forget : ByteArray := prog_3_method_4_code
def yX1_forget : MethodName := ⟨RX1, "forget", "()V"⟩
abbrev cX1_begin : ByteArray := prog_3_method_5_code
def yX1_begin : MethodName := ⟨RX1, "begin", "(LFrameTalk$Node;I)V"⟩
abbrev cX1_isAtWork : ByteArray := prog_3_method_6_code
def yX1_isAtWork : MethodName := ⟨RX1, "isAtWork", "()Z"⟩
abbrev cX1_takeTurn : ByteArray := prog_3_method_7_code
def yX1_takeTurn : MethodName := ⟨RX1, "takeTurn", "()V"⟩
abbrev cX1_end : ByteArray := prog_3_method_8_code
def yX1_end : MethodName := ⟨RX1, "end", "()I"⟩
abbrev cX1_open : ByteArray := prog_3_method_9_code
def yX1_open : MethodName := ⟨RX1, "open", "(LFrameTalk$Node;)V"⟩
abbrev cX1_close : ByteArray := prog_3_method_10_code
def yX1_close : MethodName := ⟨RX1, "close", "(LFrameTalk$Frame;LFrameTalk$Thing;)V"⟩
abbrev cX1_workPart : ByteArray := prog_3_method_11_code
def yX1_workPart : MethodName := ⟨RX1, "workPart", "(LFrameTalk$Frame;I)V"⟩
abbrev cX1_nextPart : ByteArray := prog_3_method_12_code
def yX1_nextPart : MethodName := ⟨RX1, "nextPart", "(LFrameTalk$Frame;)I"⟩
abbrev cX1_nextInOrder : ByteArray := prog_3_method_13_code
def yX1_nextInOrder : MethodName := ⟨RX1, "nextInOrder", "(LFrameTalk$Frame;)I"⟩
abbrev cX1_nextOfIf : ByteArray := prog_3_method_14_code
def yX1_nextOfIf : MethodName := ⟨RX1, "nextOfIf", "(LFrameTalk$Frame;)I"⟩
abbrev cX1_nextOfTimes : ByteArray := prog_3_method_15_code
def yX1_nextOfTimes : MethodName := ⟨RX1, "nextOfTimes", "(LFrameTalk$Frame;)I"⟩
abbrev cX1_passFault : ByteArray := prog_3_method_16_code
def yX1_passFault : MethodName := ⟨RX1, "passFault", "(LFrameTalk$Frame;)V"⟩
abbrev cX1_takesFault : ByteArray := prog_3_method_17_code
def yX1_takesFault : MethodName := ⟨RX1, "takesFault", "(LFrameTalk$Frame;)Z"⟩
abbrev cX1_clearFault : ByteArray := prog_3_method_18_code
def yX1_clearFault : MethodName := ⟨RX1, "clearFault", "()V"⟩
abbrev cX1_failAt : ByteArray := prog_3_method_19_code
def yX1_failAt : MethodName := ⟨RX1, "failAt", "(II)LFrameTalk$Thing;"⟩
abbrev cX1_lacks : ByteArray := prog_3_method_20_code
def yX1_lacks : MethodName := ⟨RX1, "lacks", "(LFrameTalk$Frame;LFrameTalk$Thing;I)Z"⟩
abbrev cX1_finish : ByteArray := prog_3_method_21_code
def yX1_finish : MethodName := ⟨RX1, "finish", "(LFrameTalk$Frame;)LFrameTalk$Thing;"⟩
abbrev cX1_isSlot : ByteArray := prog_3_method_22_code
def yX1_isSlot : MethodName := ⟨RX1, "isSlot", "(I)Z"⟩
abbrev cX1_useSlot : ByteArray := prog_3_method_23_code
def yX1_useSlot : MethodName := ⟨RX1, "useSlot", "(LFrameTalk$Frame;)LFrameTalk$Thing;"⟩
abbrev cX1_field : ByteArray := prog_3_method_24_code
def yX1_field : MethodName := ⟨RX1, "field", "(LFrameTalk$Frame;)LFrameTalk$Thing;"⟩
abbrev cX1_store : ByteArray := prog_3_method_25_code
def yX1_store : MethodName := ⟨RX1, "store", "(LFrameTalk$Frame;)LFrameTalk$Thing;"⟩
abbrev cX1_side : ByteArray := prog_3_method_26_code
def yX1_side : MethodName := ⟨RX1, "side", "(LFrameTalk$Frame;)LFrameTalk$Thing;"⟩
abbrev cX1_send : ByteArray := prog_3_method_27_code
def yX1_send : MethodName := ⟨RX1, "send", "(LFrameTalk$Frame;)LFrameTalk$Thing;"⟩
abbrev cX1_reckon : ByteArray := prog_3_method_28_code
def yX1_reckon : MethodName := ⟨RX1, "reckon", "(LFrameTalk$Frame;ILFrameTalk$Thing;)LFrameTalk$Thing;"⟩
abbrev cX1_row : ByteArray := prog_3_method_29_code
def yX1_row : MethodName := ⟨RX1, "row", "(LFrameTalk$Frame;)LFrameTalk$Thing;"⟩
abbrev cX1_lacksPlace : ByteArray := prog_3_method_30_code
def yX1_lacksPlace : MethodName := ⟨RX1, "lacksPlace", "(LFrameTalk$Frame;)Z"⟩
abbrev cX1_put : ByteArray := prog_3_method_31_code
def yX1_put : MethodName := ⟨RX1, "put", "(LFrameTalk$Frame;)LFrameTalk$Thing;"⟩
abbrev cX1_at : ByteArray := prog_3_method_32_code
def yX1_at : MethodName := ⟨RX1, "at", "(LFrameTalk$Frame;)LFrameTalk$Thing;"⟩
abbrev cX1_size : ByteArray := prog_3_method_33_code
def yX1_size : MethodName := ⟨RX1, "size", "(LFrameTalk$Frame;)LFrameTalk$Thing;"⟩
abbrev cX1_hold : ByteArray := prog_3_method_34_code
def yX1_hold : MethodName := ⟨RX1, "hold", "(LFrameTalk$Frame;)LFrameTalk$Thing;"⟩
def RX2 : String := "FrameTalk$Maker"
def TX2 : u_T := fun k => match k with
  | 0 => ("FrameTalk$Maker", "made", "I", false)
  | _ => ("FrameTalk$Maker", "placesUsed", "I", false)
def tyX2 : Nat → FieldType := fun k => match k with
  | 0 => .int
  | _ => .int
abbrev wsX20 : List Cond := u_ws RX2 TX2 2
theorem nmX2 : ∀ a, a < 2 → ∀ b, b < 2 → a ≠ b → (TX2 a).2.1 ≠ (TX2 b).2.1 := by decide +kernel
theorem tyX2_ok : ∀ k, k < 2 → parseFieldDescriptor (TX2 k).2.2.1 = some (tyX2 k) := by decide +kernel
abbrev cX2_init : ByteArray := prog_4_method_1_code
def yX2_init : MethodName := ⟨RX2, "<init>", "()V"⟩
abbrev cX2_withValue : ByteArray := prog_4_method_2_code
def yX2_withValue : MethodName := ⟨RX2, "withValue", "(IJ)LFrameTalk$Thing;"⟩
abbrev cX2_withFields : ByteArray := prog_4_method_3_code
def yX2_withFields : MethodName := ⟨RX2, "withFields", "(ILFrameTalk$Thing;LFrameTalk$Thing;)LFrameTalk$Thing;"⟩
abbrev cX2_hasRoomFor : ByteArray := prog_4_method_4_code
def yX2_hasRoomFor : MethodName := ⟨RX2, "hasRoomFor", "(I)Z"⟩
abbrev cX2_row : ByteArray := prog_4_method_5_code
def yX2_row : MethodName := ⟨RX2, "row", "(II)LFrameTalk$Thing;"⟩
abbrev cX2_rowWithoutPlaces : ByteArray := prog_4_method_6_code
def yX2_rowWithoutPlaces : MethodName := ⟨RX2, "rowWithoutPlaces", "()LFrameTalk$Thing;"⟩
def RX3 : String := "FrameTalk$Node"
def TX3 : u_T := fun k => match k with
  | 0 => ("FrameTalk$Node", "number", "I", true)
  | 1 => ("FrameTalk$Node", "op", "I", true)
  | 2 => ("FrameTalk$Node", "literal", "J", true)
  | 3 => ("FrameTalk$Node", "a", "I", false)
  | 4 => ("FrameTalk$Node", "b", "I", false)
  | _ => ("FrameTalk$Node", "c", "I", false)
def tyX3 : Nat → FieldType := fun k => match k with
  | 0 => .int
  | 1 => .int
  | 2 => .long
  | 3 => .int
  | 4 => .int
  | _ => .int
abbrev wsX30 : List Cond := u_ws RX3 TX3 6
theorem nmX3 : ∀ a, a < 6 → ∀ b, b < 6 → a ≠ b → (TX3 a).2.1 ≠ (TX3 b).2.1 := by decide +kernel
theorem tyX3_ok : ∀ k, k < 6 → parseFieldDescriptor (TX3 k).2.2.1 = some (tyX3 k) := by decide +kernel
abbrev cX3_init : ByteArray := prog_5_method_1_code
def yX3_init : MethodName := ⟨RX3, "<init>", "(IIJ)V"⟩
abbrev cX3_get : ByteArray := prog_5_method_2_code
def yX3_get : MethodName := ⟨RX3, "get", "(I)I"⟩
abbrev cX3_set : ByteArray := prog_5_method_3_code
def yX3_set : MethodName := ⟨RX3, "set", "(II)V"⟩
abbrev cX3_works : ByteArray := prog_5_method_4_code
def yX3_works : MethodName := ⟨RX3, "works", "(I)Z"⟩
def RX4 : String := "FrameTalk$Program"
def TX4 : u_T := fun k => match k with
  | _ => ("FrameTalk$Program", "nodes", "Ljava/util/ArrayList;", true)
def tyX4 : Nat → FieldType := fun k => match k with
  | _ => .object "java/util/ArrayList"
abbrev wsX40 : List Cond := u_ws RX4 TX4 1
theorem nmX4 : ∀ a, a < 1 → ∀ b, b < 1 → a ≠ b → (TX4 a).2.1 ≠ (TX4 b).2.1 := by decide +kernel
theorem tyX4_ok : ∀ k, k < 1 → parseFieldDescriptor (TX4 k).2.2.1 = some (tyX4 k) := by decide +kernel
abbrev cX4_init : ByteArray := prog_6_method_1_code
def yX4_init : MethodName := ⟨RX4, "<init>", "()V"⟩
abbrev cX4_at : ByteArray := prog_6_method_2_code
def yX4_at : MethodName := ⟨RX4, "at", "(I)LFrameTalk$Node;"⟩
abbrev cX4_addLiteral : ByteArray := prog_6_method_3_code
def yX4_addLiteral : MethodName := ⟨RX4, "addLiteral", "(J)I"⟩
abbrev cX4_add : ByteArray := prog_6_method_4_code
def yX4_add : MethodName := ⟨RX4, "add", "(IIII)I"⟩
abbrev cX4_setPart : ByteArray := prog_6_method_5_code
def yX4_setPart : MethodName := ⟨RX4, "setPart", "(LFrameTalk$Node;II)V"⟩
abbrev cX4_clear : ByteArray := prog_6_method_6_code
def yX4_clear : MethodName := ⟨RX4, "clear", "()V"⟩
abbrev cX4_append : ByteArray := prog_6_method_7_code
def yX4_append : MethodName := ⟨RX4, "append", "(LFrameTalk$Node;)I"⟩
def RX5 : String := "FrameTalk$Thing"
def TX5 : u_T := fun k => match k with
  | 0 => ("FrameTalk$Thing", "number", "I", true)
  | 1 => ("FrameTalk$Thing", "kind", "I", true)
  | 2 => ("FrameTalk$Thing", "value", "J", false)
  | 3 => ("FrameTalk$Thing", "first", "LFrameTalk$Thing;", false)
  | 4 => ("FrameTalk$Thing", "second", "LFrameTalk$Thing;", false)
  | 5 => ("FrameTalk$Thing", "use", "I", false)
  | _ => ("FrameTalk$Thing", "places", "[LFrameTalk$Thing;", false)
def tyX5 : Nat → FieldType := fun k => match k with
  | 0 => .int
  | 1 => .int
  | 2 => .long
  | 3 => .object "FrameTalk$Thing"
  | 4 => .object "FrameTalk$Thing"
  | 5 => .int
  | _ => .array (.object "FrameTalk$Thing")
abbrev wsX50 : List Cond := u_ws RX5 TX5 7
theorem nmX5 : ∀ a, a < 7 → ∀ b, b < 7 → a ≠ b → (TX5 a).2.1 ≠ (TX5 b).2.1 := by decide +kernel
theorem tyX5_ok : ∀ k, k < 7 → parseFieldDescriptor (TX5 k).2.2.1 = some (tyX5 k) := by decide +kernel
abbrev cX5_init : ByteArray := prog_7_method_1_code
def yX5_init : MethodName := ⟨RX5, "<init>", "(II)V"⟩
abbrev cX5_isA : ByteArray := prog_7_method_2_code
def yX5_isA : MethodName := ⟨RX5, "isA", "(I)Z"⟩
abbrev cX5_hasValue : ByteArray := prog_7_method_3_code
def yX5_hasValue : MethodName := ⟨RX5, "hasValue", "()Z"⟩
abbrev cX5_hasPlace : ByteArray := prog_7_method_4_code
def yX5_hasPlace : MethodName := ⟨RX5, "hasPlace", "(I)Z"⟩
abbrev cX5_isRowFor : ByteArray := prog_7_method_5_code
def yX5_isRowFor : MethodName := ⟨RX5, "isRowFor", "(LFrameTalk$Thing;)Z"⟩
abbrev cX5_tell : ByteArray := prog_7_method_6_code
def yX5_tell : MethodName := ⟨RX5, "tell", "(I)I"⟩
abbrev cX5_placesOrNone : ByteArray := prog_7_method_7_code
def yX5_placesOrNone : MethodName := ⟨RX5, "placesOrNone", "()I"⟩
abbrev cX5_useOrNone : ByteArray := prog_7_method_8_code
def yX5_useOrNone : MethodName := ⟨RX5, "useOrNone", "()I"⟩
abbrev cX5_numberOf : ByteArray := prog_7_method_9_code
def yX5_numberOf : MethodName := ⟨RX5, "numberOf", "(LFrameTalk$Thing;)I"⟩
def RX6 : String := "FrameTalk"
def TX6 : u_T := fun k => match k with
  | 0 => ("FrameTalk", "program", "LFrameTalk$Program;", true)
  | _ => ("FrameTalk", "machine", "LFrameTalk$Machine;", true)
def tyX6 : Nat → FieldType := fun k => match k with
  | 0 => .object "FrameTalk$Program"
  | _ => .object "FrameTalk$Machine"
abbrev wsX60 : List Cond := u_ws RX6 TX6 2
theorem nmX6 : ∀ a, a < 2 → ∀ b, b < 2 → a ≠ b → (TX6 a).2.1 ≠ (TX6 b).2.1 := by decide +kernel
theorem tyX6_ok : ∀ k, k < 2 → parseFieldDescriptor (TX6 k).2.2.1 = some (tyX6 k) := by decide +kernel
abbrev cX6_init : ByteArray := prog_1_method_1_code
def yX6_init : MethodName := ⟨RX6, "<init>", "()V"⟩
abbrev cX6_lit : ByteArray := prog_1_method_2_code
def yX6_lit : MethodName := ⟨RX6, "lit", "(J)I"⟩
abbrev cX6_node : ByteArray := prog_1_method_3_code
def yX6_node : MethodName := ⟨RX6, "node", "(IIII)I"⟩
abbrev cX6_part : ByteArray := prog_1_method_4_code
def yX6_part : MethodName := ⟨RX6, "part", "(III)I"⟩
abbrev cX6_run : ByteArray := prog_1_method_5_code
def yX6_run : MethodName := ⟨RX6, "run", "(II)I"⟩
abbrev cX6_value : ByteArray := prog_1_method_6_code
def yX6_value : MethodName := ⟨RX6, "value", "(I)J"⟩
abbrev cX6_thing : ByteArray := prog_1_method_7_code
def yX6_thing : MethodName := ⟨RX6, "thing", "(II)I"⟩
abbrev cX6_fault : ByteArray := prog_1_method_8_code
def yX6_fault : MethodName := ⟨RX6, "fault", "()I"⟩
abbrev cX6_faultNode : ByteArray := prog_1_method_9_code
def yX6_faultNode : MethodName := ⟨RX6, "faultNode", "()I"⟩
abbrev cX6_steps : ByteArray := prog_1_method_10_code
def yX6_steps : MethodName := ⟨RX6, "steps", "()I"⟩
abbrev cX6_wipe : ByteArray := prog_1_method_11_code
def yX6_wipe : MethodName := ⟨RX6, "wipe", "()V"⟩
def RX7 : String := "FrameTalkModel"
def TX7 : u_T := fun k => match k with
  | 0 => ("FrameTalkModel", "named", "[I", true)
  | 1 => ("FrameTalkModel", "op", "[I", true)
  | 2 => ("FrameTalkModel", "parts", "[I", true)
  | 3 => ("FrameTalkModel", "literal", "[J", true)
  | 4 => ("FrameTalkModel", "nodes", "I", false)
  | 5 => ("FrameTalkModel", "kind", "[I", true)
  | 6 => ("FrameTalkModel", "one", "[I", true)
  | 7 => ("FrameTalkModel", "two", "[I", true)
  | 8 => ("FrameTalkModel", "value", "[J", true)
  | 9 => ("FrameTalkModel", "things", "I", false)
  | 10 => ("FrameTalkModel", "places", "[I", true)
  | 11 => ("FrameTalkModel", "placed", "I", false)
  | 12 => ("FrameTalkModel", "slots", "[I", true)
  | 13 => ("FrameTalkModel", "held", "I", false)
  | 14 => ("FrameTalkModel", "workNode", "[I", true)
  | 15 => ("FrameTalkModel", "phase", "[I", true)
  | 16 => ("FrameTalkModel", "gave", "[I", true)
  | 17 => ("FrameTalkModel", "times", "[J", true)
  | 18 => ("FrameTalkModel", "depth", "I", false)
  | 19 => ("FrameTalkModel", "got", "I", false)
  | 20 => ("FrameTalkModel", "out", "I", false)
  | 21 => ("FrameTalkModel", "outNode", "I", false)
  | 22 => ("FrameTalkModel", "left", "I", false)
  | 23 => ("FrameTalkModel", "taken", "I", false)
  | 24 => ("FrameTalkModel", "spent", "I", false)
  | 25 => ("FrameTalkModel", "given", "I", false)
  | 26 => ("FrameTalkModel", "fault", "I", false)
  | _ => ("FrameTalkModel", "faultNode", "I", false)
def tyX7 : Nat → FieldType := fun k => match k with
  | 0 => .array .int
  | 1 => .array .int
  | 2 => .array .int
  | 3 => .array .long
  | 4 => .int
  | 5 => .array .int
  | 6 => .array .int
  | 7 => .array .int
  | 8 => .array .long
  | 9 => .int
  | 10 => .array .int
  | 11 => .int
  | 12 => .array .int
  | 13 => .int
  | 14 => .array .int
  | 15 => .array .int
  | 16 => .array .int
  | 17 => .array .long
  | 18 => .int
  | 19 => .int
  | 20 => .int
  | 21 => .int
  | 22 => .int
  | 23 => .int
  | 24 => .int
  | 25 => .int
  | 26 => .int
  | _ => .int
abbrev wsX70 : List Cond := u_ws RX7 TX7 28
theorem nmX7 : ∀ a, a < 28 → ∀ b, b < 28 → a ≠ b → (TX7 a).2.1 ≠ (TX7 b).2.1 := by decide +kernel
theorem tyX7_ok : ∀ k, k < 28 → parseFieldDescriptor (TX7 k).2.2.1 = some (tyX7 k) := by decide +kernel
abbrev cX7_init : ByteArray := prog_9_method_1_code
def yX7_init : MethodName := ⟨RX7, "<init>", "()V"⟩
abbrev cX7_lit : ByteArray := prog_9_method_2_code
def yX7_lit : MethodName := ⟨RX7, "lit", "(J)I"⟩
abbrev cX7_isNode : ByteArray := prog_9_method_3_code
def yX7_isNode : MethodName := ⟨RX7, "isNode", "(II)Z"⟩
abbrev cX7_join : ByteArray := prog_9_method_4_code
def yX7_join : MethodName := ⟨RX7, "join", "(III)V"⟩
abbrev cX7_node : ByteArray := prog_9_method_5_code
def yX7_node : MethodName := ⟨RX7, "node", "(IIII)I"⟩
abbrev cX7_part : ByteArray := prog_9_method_6_code
def yX7_part : MethodName := ⟨RX7, "part", "(III)I"⟩
abbrev cX7_number : ByteArray := prog_9_method_7_code
def yX7_number : MethodName := ⟨RX7, "number", "(II)I"⟩
abbrev cX7_make : ByteArray := prog_9_method_8_code
def yX7_make : MethodName := ⟨RX7, "make", "(IJII)I"⟩
abbrev cX7_num : ByteArray := prog_9_method_9_code
def yX7_num : MethodName := ⟨RX7, "num", "(J)I"⟩
abbrev cX7_fail : ByteArray := prog_9_method_10_code
def yX7_fail : MethodName := ⟨RX7, "fail", "(II)I"⟩
abbrev cX7_is : ByteArray := prog_9_method_11_code
def yX7_is : MethodName := ⟨RX7, "is", "(III)Z"⟩
abbrev cX7_enter : ByteArray := prog_9_method_12_code
def yX7_enter : MethodName := ⟨RX7, "enter", "(I)V"⟩
abbrev cX7_begin : ByteArray := prog_9_method_13_code
def yX7_begin : MethodName := ⟨RX7, "begin", "(II)V"⟩
abbrev cX7_run : ByteArray := prog_9_method_14_code
def yX7_run : MethodName := ⟨RX7, "run", "(II)I"⟩
abbrev cX7_outward : ByteArray := prog_9_method_15_code
def yX7_outward : MethodName := ⟨RX7, "outward", "(I)V"⟩
abbrev cX7_forward : ByteArray := prog_9_method_16_code
def yX7_forward : MethodName := ⟨RX7, "forward", "(I)V"⟩
abbrev cX7_part0 : ByteArray := prog_9_method_17_code
def yX7_part0 : MethodName := ⟨RX7, "part0", "(I)V"⟩
abbrev cX7_choose : ByteArray := prog_9_method_18_code
def yX7_choose : MethodName := ⟨RX7, "choose", "(I)V"⟩
abbrev cX7_again : ByteArray := prog_9_method_19_code
def yX7_again : MethodName := ⟨RX7, "again", "(I)V"⟩
abbrev cX7_eager : ByteArray := prog_9_method_20_code
def yX7_eager : MethodName := ⟨RX7, "eager", "(I)V"⟩
abbrev cX7_act : ByteArray := prog_9_method_21_code
def yX7_act : MethodName := ⟨RX7, "act", "(IIII)I"⟩
abbrev cX7_noSlot : ByteArray := prog_9_method_22_code
def yX7_noSlot : MethodName := ⟨RX7, "noSlot", "(II)Z"⟩
abbrev cX7_simple : ByteArray := prog_9_method_23_code
def yX7_simple : MethodName := ⟨RX7, "simple", "(IIII)I"⟩
abbrev cX7_send : ByteArray := prog_9_method_24_code
def yX7_send : MethodName := ⟨RX7, "send", "(III)I"⟩
abbrev cX7_reckon : ByteArray := prog_9_method_25_code
def yX7_reckon : MethodName := ⟨RX7, "reckon", "(IIJJ)I"⟩
abbrev cX7_larger : ByteArray := prog_9_method_26_code
def yX7_larger : MethodName := ⟨RX7, "larger", "(IIII)I"⟩
abbrev cX7_newRow : ByteArray := prog_9_method_27_code
def yX7_newRow : MethodName := ⟨RX7, "newRow", "(II)I"⟩
abbrev cX7_inRow : ByteArray := prog_9_method_28_code
def yX7_inRow : MethodName := ⟨RX7, "inRow", "(IIII)I"⟩
abbrev cX7_thingAt : ByteArray := prog_9_method_29_code
def yX7_thingAt : MethodName := ⟨RX7, "thingAt", "(I)I"⟩
abbrev cX7_value : ByteArray := prog_9_method_30_code
def yX7_value : MethodName := ⟨RX7, "value", "(I)J"⟩
abbrev cX7_thing : ByteArray := prog_9_method_31_code
def yX7_thing : MethodName := ⟨RX7, "thing", "(II)I"⟩
abbrev cX7_fault : ByteArray := prog_9_method_32_code
def yX7_fault : MethodName := ⟨RX7, "fault", "()I"⟩
abbrev cX7_faultNode : ByteArray := prog_9_method_33_code
def yX7_faultNode : MethodName := ⟨RX7, "faultNode", "()I"⟩
abbrev cX7_steps : ByteArray := prog_9_method_34_code
def yX7_steps : MethodName := ⟨RX7, "steps", "()I"⟩
abbrev cX7_wipe : ByteArray := prog_9_method_35_code
def yX7_wipe : MethodName := ⟨RX7, "wipe", "()V"⟩
def RJx145de : String := "java/io/Serializable"
def TJx145de : u_T := fun k => match k with
  | _ => ("", "", "", false)
def tyJx145de : Nat → FieldType := fun k => match k with
  | _ => .int
abbrev wsJx145de0 : List Cond := u_ws RJx145de TJx145de 0
theorem nmJx145de : ∀ a, a < 0 → ∀ b, b < 0 → a ≠ b → (TJx145de a).2.1 ≠ (TJx145de b).2.1 := by decide +kernel
theorem tyJx145de_ok : ∀ k, k < 0 → parseFieldDescriptor (TJx145de k).2.2.1 = some (tyJx145de k) := by decide +kernel
def RJx8e188 : String := "java/lang/Cloneable"
def TJx8e188 : u_T := fun k => match k with
  | _ => ("", "", "", false)
def tyJx8e188 : Nat → FieldType := fun k => match k with
  | _ => .int
abbrev wsJx8e1880 : List Cond := u_ws RJx8e188 TJx8e188 0
theorem nmJx8e188 : ∀ a, a < 0 → ∀ b, b < 0 → a ≠ b → (TJx8e188 a).2.1 ≠ (TJx8e188 b).2.1 := by decide +kernel
theorem tyJx8e188_ok : ∀ k, k < 0 → parseFieldDescriptor (TJx8e188 k).2.2.1 = some (tyJx8e188 k) := by decide +kernel
def RJxab1ab : String := "java/lang/Iterable"
def TJxab1ab : u_T := fun k => match k with
  | _ => ("", "", "", false)
def tyJxab1ab : Nat → FieldType := fun k => match k with
  | _ => .int
abbrev wsJxab1ab0 : List Cond := u_ws RJxab1ab TJxab1ab 0
theorem nmJxab1ab : ∀ a, a < 0 → ∀ b, b < 0 → a ≠ b → (TJxab1ab a).2.1 ≠ (TJxab1ab b).2.1 := by decide +kernel
theorem tyJxab1ab_ok : ∀ k, k < 0 → parseFieldDescriptor (TJxab1ab k).2.2.1 = some (tyJxab1ab k) := by decide +kernel
def RJ9 : String := "java/lang/Math"
def TJ9 : u_T := fun k => match k with
  | _ => ("", "", "", false)
def tyJ9 : Nat → FieldType := fun k => match k with
  | _ => .int
abbrev wsJ90 : List Cond := u_ws RJ9 TJ9 0
theorem nmJ9 : ∀ a, a < 0 → ∀ b, b < 0 → a ≠ b → (TJ9 a).2.1 ≠ (TJ9 b).2.1 := by decide +kernel
theorem tyJ9_ok : ∀ k, k < 0 → parseFieldDescriptor (TJ9 k).2.2.1 = some (tyJ9 k) := by decide +kernel
abbrev cJ9_max_7cf53 : ByteArray := prog_13_method_65_code
def yJ9_max_7cf53 : MethodName := ⟨RJ9, "max", "(II)I"⟩
abbrev cJ9_min_7cf53 : ByteArray := prog_13_method_69_code
def yJ9_min_7cf53 : MethodName := ⟨RJ9, "min", "(II)I"⟩
def RJ10 : String := "java/lang/System"
def TJ10 : u_T := fun k => match k with
  | _ => ("", "", "", false)
def tyJ10 : Nat → FieldType := fun k => match k with
  | _ => .int
abbrev wsJ100 : List Cond := u_ws RJ10 TJ10 0
theorem nmJ10 : ∀ a, a < 0 → ∀ b, b < 0 → a ≠ b → (TJ10 a).2.1 ≠ (TJ10 b).2.1 := by decide +kernel
theorem tyJ10_ok : ∀ k, k < 0 → parseFieldDescriptor (TJ10 k).2.2.1 = some (tyJ10 k) := by decide +kernel
def RJxa1e45 : String := "java/util/AbstractCollection"
def TJxa1e45 : u_T := fun k => match k with
  | _ => ("", "", "", false)
def tyJxa1e45 : Nat → FieldType := fun k => match k with
  | _ => .int
abbrev wsJxa1e450 : List Cond := u_ws RJxa1e45 TJxa1e45 0
theorem nmJxa1e45 : ∀ a, a < 0 → ∀ b, b < 0 → a ≠ b → (TJxa1e45 a).2.1 ≠ (TJxa1e45 b).2.1 := by decide +kernel
theorem tyJxa1e45_ok : ∀ k, k < 0 → parseFieldDescriptor (TJxa1e45 k).2.2.1 = some (tyJxa1e45 k) := by decide +kernel
abbrev cJxa1e45_init_da8c8 : ByteArray := prog_15_method_1_code
def yJxa1e45_init_da8c8 : MethodName := ⟨RJxa1e45, "<init>", "()V"⟩
def RJxc12de : String := "java/util/AbstractList"
def TJxc12de : u_T := fun k => match k with
  | _ => ("", "", "", false)
def tyJxc12de : Nat → FieldType := fun k => match k with
  | _ => .int
abbrev wsJxc12de0 : List Cond := u_ws RJxc12de TJxc12de 0
theorem nmJxc12de : ∀ a, a < 0 → ∀ b, b < 0 → a ≠ b → (TJxc12de a).2.1 ≠ (TJxc12de b).2.1 := by decide +kernel
theorem tyJxc12de_ok : ∀ k, k < 0 → parseFieldDescriptor (TJxc12de k).2.2.1 = some (tyJxc12de k) := by decide +kernel
abbrev cJxc12de_init_da8c8 : ByteArray := prog_16_method_1_code
def yJxc12de_init_da8c8 : MethodName := ⟨RJxc12de, "<init>", "()V"⟩
def RJx4a65c : String := "java/util/ArrayList"
def TJx4a65c : u_T := fun k => match k with
  | 0 => ("java/util/AbstractList", "modCount", "I", false)
  | 1 => ("java/util/ArrayList", "elementData", "[Ljava/lang/Object;", false)
  | _ => ("java/util/ArrayList", "size", "I", false)
def tyJx4a65c : Nat → FieldType := fun k => match k with
  | 0 => .int
  | 1 => .array (.object "java/lang/Object")
  | _ => .int
abbrev wsJx4a65c0 : List Cond := u_ws RJx4a65c TJx4a65c 3
theorem nmJx4a65c : ∀ a, a < 3 → ∀ b, b < 3 → a ≠ b → (TJx4a65c a).2.1 ≠ (TJx4a65c b).2.1 := by decide +kernel
theorem tyJx4a65c_ok : ∀ k, k < 3 → parseFieldDescriptor (TJx4a65c k).2.2.1 = some (tyJx4a65c k) := by decide +kernel
abbrev cJx4a65c_init_da8c8 : ByteArray := prog_17_method_2_code
def yJx4a65c_init_da8c8 : MethodName := ⟨RJx4a65c, "<init>", "()V"⟩
abbrev cJx4a65c_grow_92f84 : ByteArray := prog_17_method_6_code
def yJx4a65c_grow_92f84 : MethodName := ⟨RJx4a65c, "grow", "(I)[Ljava/lang/Object;"⟩
abbrev cJx4a65c_grow_d5877 : ByteArray := prog_17_method_7_code
def yJx4a65c_grow_d5877 : MethodName := ⟨RJx4a65c, "grow", "()[Ljava/lang/Object;"⟩
abbrev cJx4a65c_size_8abf5 : ByteArray := prog_17_method_8_code
def yJx4a65c_size_8abf5 : MethodName := ⟨RJx4a65c, "size", "()I"⟩
abbrev cJx4a65c_elementData_915e3 : ByteArray := prog_17_method_18_code
def yJx4a65c_elementData_915e3 : MethodName := ⟨RJx4a65c, "elementData", "(I)Ljava/lang/Object;"⟩
abbrev cJx4a65c_get_915e3 : ByteArray := prog_17_method_20_code
def yJx4a65c_get_915e3 : MethodName := ⟨RJx4a65c, "get", "(I)Ljava/lang/Object;"⟩
abbrev cJx4a65c_add_72be8 : ByteArray := prog_17_method_24_code
def yJx4a65c_add_72be8 : MethodName := ⟨RJx4a65c, "add", "(Ljava/lang/Object;[Ljava/lang/Object;I)V"⟩
abbrev cJx4a65c_add_9ea2d : ByteArray := prog_17_method_25_code
def yJx4a65c_add_9ea2d : MethodName := ⟨RJx4a65c, "add", "(Ljava/lang/Object;)Z"⟩
abbrev cJx4a65c_clear_da8c8 : ByteArray := prog_17_method_40_code
def yJx4a65c_clear_da8c8 : MethodName := ⟨RJx4a65c, "clear", "()V"⟩
def RJ7 : String := "java/util/Arrays"
def TJ7 : u_T := fun k => match k with
  | _ => ("", "", "", false)
def tyJ7 : Nat → FieldType := fun k => match k with
  | _ => .int
abbrev wsJ70 : List Cond := u_ws RJ7 TJ7 0
theorem nmJ7 : ∀ a, a < 0 → ∀ b, b < 0 → a ≠ b → (TJ7 a).2.1 ≠ (TJ7 b).2.1 := by decide +kernel
theorem tyJ7_ok : ∀ k, k < 0 → parseFieldDescriptor (TJ7 k).2.2.1 = some (tyJ7 k) := by decide +kernel
abbrev cJ7_copyOf_1904c : ByteArray := prog_18_method_119_code
def yJ7_copyOf_1904c : MethodName := ⟨RJ7, "copyOf", "([Ljava/lang/Object;I)[Ljava/lang/Object;"⟩
abbrev cJ7_copyOf_6403c : ByteArray := prog_18_method_120_code
def yJ7_copyOf_6403c : MethodName := ⟨RJ7, "copyOf", "([Ljava/lang/Object;ILjava/lang/Class;)[Ljava/lang/Object;"⟩
def RJx5ef63 : String := "java/util/Collection"
def TJx5ef63 : u_T := fun k => match k with
  | _ => ("", "", "", false)
def tyJx5ef63 : Nat → FieldType := fun k => match k with
  | _ => .int
abbrev wsJx5ef630 : List Cond := u_ws RJx5ef63 TJx5ef63 0
theorem nmJx5ef63 : ∀ a, a < 0 → ∀ b, b < 0 → a ≠ b → (TJx5ef63 a).2.1 ≠ (TJx5ef63 b).2.1 := by decide +kernel
theorem tyJx5ef63_ok : ∀ k, k < 0 → parseFieldDescriptor (TJx5ef63 k).2.2.1 = some (tyJx5ef63 k) := by decide +kernel
def RJxbd725 : String := "java/util/List"
def TJxbd725 : u_T := fun k => match k with
  | _ => ("", "", "", false)
def tyJxbd725 : Nat → FieldType := fun k => match k with
  | _ => .int
abbrev wsJxbd7250 : List Cond := u_ws RJxbd725 TJxbd725 0
theorem nmJxbd725 : ∀ a, a < 0 → ∀ b, b < 0 → a ≠ b → (TJxbd725 a).2.1 ≠ (TJxbd725 b).2.1 := by decide +kernel
theorem tyJxbd725_ok : ∀ k, k < 0 → parseFieldDescriptor (TJxbd725 k).2.2.1 = some (tyJxbd725 k) := by decide +kernel
def RJ15 : String := "java/util/Objects"
def TJ15 : u_T := fun k => match k with
  | _ => ("", "", "", false)
def tyJ15 : Nat → FieldType := fun k => match k with
  | _ => .int
abbrev wsJ150 : List Cond := u_ws RJ15 TJ15 0
theorem nmJ15 : ∀ a, a < 0 → ∀ b, b < 0 → a ≠ b → (TJ15 a).2.1 ≠ (TJ15 b).2.1 := by decide +kernel
theorem tyJ15_ok : ∀ k, k < 0 → parseFieldDescriptor (TJ15 k).2.2.1 = some (tyJ15 k) := by decide +kernel
abbrev cJ15_checkIndex_7cf53 : ByteArray := prog_21_method_17_code
def yJ15_checkIndex_7cf53 : MethodName := ⟨RJ15, "checkIndex", "(II)I"⟩
def RJxf0a74 : String := "java/util/RandomAccess"
def TJxf0a74 : u_T := fun k => match k with
  | _ => ("", "", "", false)
def tyJxf0a74 : Nat → FieldType := fun k => match k with
  | _ => .int
abbrev wsJxf0a740 : List Cond := u_ws RJxf0a74 TJxf0a74 0
theorem nmJxf0a74 : ∀ a, a < 0 → ∀ b, b < 0 → a ≠ b → (TJxf0a74 a).2.1 ≠ (TJxf0a74 b).2.1 := by decide +kernel
theorem tyJxf0a74_ok : ∀ k, k < 0 → parseFieldDescriptor (TJxf0a74 k).2.2.1 = some (tyJxf0a74 k) := by decide +kernel
def RJxa66e6 : String := "java/util/SequencedCollection"
def TJxa66e6 : u_T := fun k => match k with
  | _ => ("", "", "", false)
def tyJxa66e6 : Nat → FieldType := fun k => match k with
  | _ => .int
abbrev wsJxa66e60 : List Cond := u_ws RJxa66e6 TJxa66e6 0
theorem nmJxa66e6 : ∀ a, a < 0 → ∀ b, b < 0 → a ≠ b → (TJxa66e6 a).2.1 ≠ (TJxa66e6 b).2.1 := by decide +kernel
theorem tyJxa66e6_ok : ∀ k, k < 0 → parseFieldDescriptor (TJxa66e6 k).2.2.1 = some (tyJxa66e6 k) := by decide +kernel
def RJ8 : String := "jdk/internal/util/ArraysSupport"
def TJ8 : u_T := fun k => match k with
  | _ => ("", "", "", false)
def tyJ8 : Nat → FieldType := fun k => match k with
  | _ => .int
abbrev wsJ80 : List Cond := u_ws RJ8 TJ8 0
theorem nmJ8 : ∀ a, a < 0 → ∀ b, b < 0 → a ≠ b → (TJ8 a).2.1 ≠ (TJ8 b).2.1 := by decide +kernel
theorem tyJ8_ok : ∀ k, k < 0 → parseFieldDescriptor (TJ8 k).2.2.1 = some (tyJ8 k) := by decide +kernel
abbrev cJ8_newLength_cabcc : ByteArray := prog_24_method_27_code
def yJ8_newLength_cabcc : MethodName := ⟨RJ8, "newLength", "(III)I"⟩
abbrev cJ8_hugeLength_7cf53 : ByteArray := prog_24_method_28_code
def yJ8_hugeLength_7cf53 : MethodName := ⟨RJ8, "hugeLength", "(II)I"⟩
def RJ3 : String := "jdk/internal/util/Preconditions"
def TJ3 : u_T := fun k => match k with
  | _ => ("", "", "", false)
def tyJ3 : Nat → FieldType := fun k => match k with
  | _ => .int
abbrev wsJ30 : List Cond := u_ws RJ3 TJ3 0
theorem nmJ3 : ∀ a, a < 0 → ∀ b, b < 0 → a ≠ b → (TJ3 a).2.1 ≠ (TJ3 b).2.1 := by decide +kernel
theorem tyJ3_ok : ∀ k, k < 0 → parseFieldDescriptor (TJ3 k).2.2.1 = some (tyJ3 k) := by decide +kernel
abbrev cJ3_checkIndex_8e157 : ByteArray := prog_25_method_11_code
def yJ3_checkIndex_8e157 : MethodName := ⟨RJ3, "checkIndex", "(IILjava/util/function/BiFunction;)I"⟩
def RL : String := "FrameTalkLaw"
abbrev cL_law : ByteArray := code
def yL_law : MethodName := ⟨RL, "law", "([I)Z"⟩
abbrev vwCl : List vw_C := [(RJx4a65c, TJx4a65c, 3), (RX0, TX0, 10), (RX1, TX1, 13), (RX2, TX2, 2), (RX3, TX3, 6), (RX4, TX4, 1), (RX5, TX5, 7), (RX6, TX6, 2), (RX7, TX7, 28)]
/-- the words that every contract takes: the tables' good ones -/
def wsL_law : List Cond := lw_tbl.filter goodWord
theorem gdL : wsL_law.all goodWord = true := List.all_eq_true.mpr (fun w h => (List.mem_filter.mp h).2)
theorem tbp {w : Cond} (i : Nat) (h : (k2_sels lw_privs)[i]? = some w) (g : goodWord w = true) : w ∈ wsL_law := List.mem_filter.mpr ⟨List.mem_append_left _ (List.mem_of_getElem? h), g⟩
theorem tb1 {w : Cond} (i : Nat) (h : tables_1_1[i]? = some w) (g : goodWord w = true) : w ∈ wsL_law := List.mem_filter.mpr ⟨List.mem_append_right _ (List.mem_append_left _ (List.mem_of_getElem? h)), g⟩
theorem tb2 {w : Cond} (i : Nat) (h : tables_1_2[i]? = some w) (g : goodWord w = true) : w ∈ wsL_law := List.mem_filter.mpr ⟨List.mem_append_right _ (List.mem_append_right _ (List.mem_append_left _ (List.mem_of_getElem? h))), g⟩
theorem tb3 {w : Cond} (i : Nat) (h : tables_1_3[i]? = some w) (g : goodWord w = true) : w ∈ wsL_law := List.mem_filter.mpr ⟨List.mem_append_right _ (List.mem_append_right _ (List.mem_append_right _ (List.mem_append_left _ (List.mem_of_getElem? h)))), g⟩
theorem tb4 {w : Cond} (i : Nat) (h : tables_1_4[i]? = some w) (g : goodWord w = true) : w ∈ wsL_law := List.mem_filter.mpr ⟨List.mem_append_right _ (List.mem_append_right _ (List.mem_append_right _ (List.mem_append_right _ (List.mem_of_getElem? h)))), g⟩
