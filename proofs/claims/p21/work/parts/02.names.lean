def RX0 : String := "ShortFrames$Cutter"
def TX0 : u_T := fun k => match k with
  | 0 => ("ShortFrames$Cutter", "squeezer", "LShortFrames$Squeezer;", true)
  | 1 => ("ShortFrames$Cutter", "squeezed", "LShortFrames$Row;", true)
  | _ => ("ShortFrames$Cutter", "piece", "LShortFrames$Row;", true)
def tyX0 : Nat → FieldType := fun k => match k with
  | 0 => .object "ShortFrames$Squeezer"
  | 1 => .object "ShortFrames$Row"
  | _ => .object "ShortFrames$Row"
abbrev wsX00 : List Cond := u_ws RX0 TX0 3
theorem nmX0 : ∀ a, a < 3 → ∀ b, b < 3 → a ≠ b → (TX0 a).2.1 ≠ (TX0 b).2.1 := by decide +kernel
theorem tyX0_ok : ∀ k, k < 3 → parseFieldDescriptor (TX0 k).2.2.1 = some (tyX0 k) := by decide +kernel
abbrev cX0_init : ByteArray := prog_2_method_1_code
def yX0_init : MethodName := ⟨RX0, "<init>", "(LShortFrames$Squeezer;)V"⟩
abbrev cX0_divide : ByteArray := prog_2_method_2_code
def yX0_divide : MethodName := ⟨RX0, "divide", "(LShortFrames$Row;IILShortFrames$Frames;)I"⟩
abbrev cX0_divideRest : ByteArray := prog_2_method_3_code
def yX0_divideRest : MethodName := ⟨RX0, "divideRest", "(LShortFrames$Row;IIILShortFrames$Frames;)I"⟩
abbrev cX0_begin : ByteArray := prog_2_method_4_code
def yX0_begin : MethodName := ⟨RX0, "begin", "(III)V"⟩
def RX1 : String := "ShortFrames$Frames"
def TX1 : u_T := fun k => match k with
  | 0 => ("ShortFrames$Frames", "rows", "[LShortFrames$Row;", true)
  | _ => ("ShortFrames$Frames", "size", "I", false)
def tyX1 : Nat → FieldType := fun k => match k with
  | 0 => .array (.object "ShortFrames$Row")
  | _ => .int
abbrev wsX10 : List Cond := u_ws RX1 TX1 2
theorem nmX1 : ∀ a, a < 2 → ∀ b, b < 2 → a ≠ b → (TX1 a).2.1 ≠ (TX1 b).2.1 := by decide +kernel
theorem tyX1_ok : ∀ k, k < 2 → parseFieldDescriptor (TX1 k).2.2.1 = some (tyX1 k) := by decide +kernel
abbrev cX1_init : ByteArray := prog_3_method_1_code
def yX1_init : MethodName := ⟨RX1, "<init>", "()V"⟩
abbrev cX1_size : ByteArray := prog_3_method_2_code
def yX1_size : MethodName := ⟨RX1, "size", "()I"⟩
abbrev cX1_has : ByteArray := prog_3_method_3_code
def yX1_has : MethodName := ⟨RX1, "has", "(I)Z"⟩
abbrev cX1_at : ByteArray := prog_3_method_4_code
def yX1_at : MethodName := ⟨RX1, "at", "(I)LShortFrames$Row;"⟩
abbrev cX1_clear : ByteArray := prog_3_method_5_code
def yX1_clear : MethodName := ⟨RX1, "clear", "()V"⟩
abbrev cX1_store : ByteArray := prog_3_method_6_code
def yX1_store : MethodName := ⟨RX1, "store", "(ILShortFrames$Row;)Z"⟩
def RX2 : String := "ShortFrames$Heap"
def TX2 : u_T := fun k => match k with
  | 0 => ("ShortFrames$Heap", "content", "LShortFrames$Row;", true)
  | 1 => ("ShortFrames$Heap", "lengths", "[I", true)
  | 2 => ("ShortFrames$Heap", "there", "Z", false)
  | 3 => ("ShortFrames$Heap", "z", "I", false)
  | 4 => ("ShortFrames$Heap", "tag", "I", false)
  | 5 => ("ShortFrames$Heap", "time", "I", false)
  | 6 => ("ShortFrames$Heap", "parts", "I", false)
  | _ => ("ShortFrames$Heap", "bytes", "I", false)
def tyX2 : Nat → FieldType := fun k => match k with
  | 0 => .object "ShortFrames$Row"
  | 1 => .array .int
  | 2 => .boolean
  | 3 => .int
  | 4 => .int
  | 5 => .int
  | 6 => .int
  | _ => .int
abbrev wsX20 : List Cond := u_ws RX2 TX2 8
theorem nmX2 : ∀ a, a < 8 → ∀ b, b < 8 → a ≠ b → (TX2 a).2.1 ≠ (TX2 b).2.1 := by decide +kernel
theorem tyX2_ok : ∀ k, k < 8 → parseFieldDescriptor (TX2 k).2.2.1 = some (tyX2 k) := by decide +kernel
abbrev cX2_init : ByteArray := prog_4_method_1_code
def yX2_init : MethodName := ⟨RX2, "<init>", "()V"⟩
abbrev cX2_isThere : ByteArray := prog_4_method_2_code
def yX2_isThere : MethodName := ⟨RX2, "isThere", "()Z"⟩
abbrev cX2_isOf : ByteArray := prog_4_method_3_code
def yX2_isOf : MethodName := ⟨RX2, "isOf", "(II)Z"⟩
abbrev cX2_beganBy : ByteArray := prog_4_method_4_code
def yX2_beganBy : MethodName := ⟨RX2, "beganBy", "(I)Z"⟩
abbrev cX2_parts : ByteArray := prog_4_method_5_code
def yX2_parts : MethodName := ⟨RX2, "parts", "()I"⟩
abbrev cX2_bytes : ByteArray := prog_4_method_6_code
def yX2_bytes : MethodName := ⟨RX2, "bytes", "()I"⟩
abbrev cX2_content : ByteArray := prog_4_method_7_code
def yX2_content : MethodName := ⟨RX2, "content", "()LShortFrames$Row;"⟩
abbrev cX2_begin : ByteArray := prog_4_method_8_code
def yX2_begin : MethodName := ⟨RX2, "begin", "(III)V"⟩
abbrev cX2_end : ByteArray := prog_4_method_9_code
def yX2_end : MethodName := ⟨RX2, "end", "()V"⟩
abbrev cX2_hasJust : ByteArray := prog_4_method_10_code
def yX2_hasJust : MethodName := ⟨RX2, "hasJust", "(II)Z"⟩
abbrev cX2_meets : ByteArray := prog_4_method_11_code
def yX2_meets : MethodName := ⟨RX2, "meets", "(II)Z"⟩
abbrev cX2_keep : ByteArray := prog_4_method_12_code
def yX2_keep : MethodName := ⟨RX2, "keep", "(ILShortFrames$Row;I)V"⟩
abbrev cX2_isWhole : ByteArray := prog_4_method_13_code
def yX2_isWhole : MethodName := ⟨RX2, "isWhole", "()Z"⟩
def RX3 : String := "ShortFrames$Known"
def TX3 : u_T := fun k => match k with
  | 0 => ("ShortFrames$Known", "there", "[Z", true)
  | 1 => ("ShortFrames$Known", "contexts", "[J", true)
  | 2 => ("ShortFrames$Known", "senderOwn", "J", false)
  | _ => ("ShortFrames$Known", "receiverOwn", "J", false)
def tyX3 : Nat → FieldType := fun k => match k with
  | 0 => .array .boolean
  | 1 => .array .long
  | 2 => .long
  | _ => .long
abbrev wsX30 : List Cond := u_ws RX3 TX3 4
theorem nmX3 : ∀ a, a < 4 → ∀ b, b < 4 → a ≠ b → (TX3 a).2.1 ≠ (TX3 b).2.1 := by decide +kernel
theorem tyX3_ok : ∀ k, k < 4 → parseFieldDescriptor (TX3 k).2.2.1 = some (tyX3 k) := by decide +kernel
abbrev cX3_init : ByteArray := prog_5_method_1_code
def yX3_init : MethodName := ⟨RX3, "<init>", "()V"⟩
abbrev cX3_isThere : ByteArray := prog_5_method_2_code
def yX3_isThere : MethodName := ⟨RX3, "isThere", "(I)Z"⟩
abbrev cX3_contextOf : ByteArray := prog_5_method_3_code
def yX3_contextOf : MethodName := ⟨RX3, "contextOf", "(I)J"⟩
abbrev cX3_setContext : ByteArray := prog_5_method_4_code
def yX3_setContext : MethodName := ⟨RX3, "setContext", "(IZJ)V"⟩
abbrev cX3_setLink : ByteArray := prog_5_method_5_code
def yX3_setLink : MethodName := ⟨RX3, "setLink", "(IZJ)V"⟩
abbrev cX3_own : ByteArray := prog_5_method_6_code
def yX3_own : MethodName := ⟨RX3, "own", "(I)J"⟩
abbrev cX3_least : ByteArray := prog_5_method_7_code
def yX3_least : MethodName := ⟨RX3, "least", "(J)I"⟩
def RX4 : String := "ShortFrames$Mode"
def TX4 : u_T := fun k => match k with
  | _ => ("", "", "", false)
def tyX4 : Nat → FieldType := fun k => match k with
  | _ => .int
abbrev wsX40 : List Cond := u_ws RX4 TX4 0
theorem nmX4 : ∀ a, a < 0 → ∀ b, b < 0 → a ≠ b → (TX4 a).2.1 ≠ (TX4 b).2.1 := by decide +kernel
theorem tyX4_ok : ∀ k, k < 0 → parseFieldDescriptor (TX4 k).2.2.1 = some (tyX4 k) := by decide +kernel
abbrev cX4_bytesOf : ByteArray := prog_6_method_2_code
def yX4_bytesOf : MethodName := ⟨RX4, "bytesOf", "(I)I"⟩
abbrev cX4_usesContext : ByteArray := prog_6_method_3_code
def yX4_usesContext : MethodName := ⟨RX4, "usesContext", "(I)Z"⟩
abbrev cX4_ofSource : ByteArray := prog_6_method_4_code
def yX4_ofSource : MethodName := ⟨RX4, "ofSource", "(LShortFrames$Known;JJ)I"⟩
abbrev cX4_ofGoal : ByteArray := prog_6_method_5_code
def yX4_ofGoal : MethodName := ⟨RX4, "ofGoal", "(LShortFrames$Known;JJ)I"⟩
abbrev cX4_ofOne : ByteArray := prog_6_method_6_code
def yX4_ofOne : MethodName := ⟨RX4, "ofOne", "(LShortFrames$Known;IJJ)I"⟩
abbrev cX4_ofLast : ByteArray := prog_6_method_7_code
def yX4_ofLast : MethodName := ⟨RX4, "ofLast", "(LShortFrames$Known;IJ)I"⟩
abbrev cX4_ofMany : ByteArray := prog_6_method_8_code
def yX4_ofMany : MethodName := ⟨RX4, "ofMany", "(JJ)I"⟩
def RX5 : String := "ShortFrames$Packet"
def TX5 : u_T := fun k => match k with
  | _ => ("", "", "", false)
def tyX5 : Nat → FieldType := fun k => match k with
  | _ => .int
abbrev wsX50 : List Cond := u_ws RX5 TX5 0
theorem nmX5 : ∀ a, a < 0 → ∀ b, b < 0 → a ≠ b → (TX5 a).2.1 ≠ (TX5 b).2.1 := by decide +kernel
theorem tyX5_ok : ∀ k, k < 0 → parseFieldDescriptor (TX5 k).2.2.1 = some (tyX5 k) := by decide +kernel
abbrev cX5_firstFour : ByteArray := prog_7_method_2_code
def yX5_firstFour : MethodName := ⟨RX5, "firstFour", "(II)J"⟩
abbrev cX5_isPacket : ByteArray := prog_7_method_3_code
def yX5_isPacket : MethodName := ⟨RX5, "isPacket", "(LShortFrames$Row;)Z"⟩
abbrev cX5_hasPorts : ByteArray := prog_7_method_4_code
def yX5_hasPorts : MethodName := ⟨RX5, "hasPorts", "(LShortFrames$Row;)Z"⟩
abbrev cX5_t : ByteArray := prog_7_method_5_code
def yX5_t : MethodName := ⟨RX5, "t", "(LShortFrames$Row;)I"⟩
abbrev cX5_l : ByteArray := prog_7_method_6_code
def yX5_l : MethodName := ⟨RX5, "l", "(LShortFrames$Row;)I"⟩
abbrev cX5_headOf : ByteArray := prog_7_method_7_code
def yX5_headOf : MethodName := ⟨RX5, "headOf", "(LShortFrames$Row;)I"⟩
def RX6 : String := "ShortFrames$Receiver"
def TX6 : u_T := fun k => match k with
  | 0 => ("ShortFrames$Receiver", "unfolder", "LShortFrames$Unfolder;", true)
  | 1 => ("ShortFrames$Receiver", "heaps", "[LShortFrames$Heap;", true)
  | 2 => ("ShortFrames$Receiver", "clock", "I", false)
  | 3 => ("ShortFrames$Receiver", "whole", "I", false)
  | 4 => ("ShortFrames$Receiver", "dropped", "I", false)
  | 5 => ("ShortFrames$Receiver", "late", "I", false)
  | _ => ("ShortFrames$Receiver", "anew", "I", false)
def tyX6 : Nat → FieldType := fun k => match k with
  | 0 => .object "ShortFrames$Unfolder"
  | 1 => .array (.object "ShortFrames$Heap")
  | 2 => .int
  | 3 => .int
  | 4 => .int
  | 5 => .int
  | _ => .int
abbrev wsX60 : List Cond := u_ws RX6 TX6 7
theorem nmX6 : ∀ a, a < 7 → ∀ b, b < 7 → a ≠ b → (TX6 a).2.1 ≠ (TX6 b).2.1 := by decide +kernel
theorem tyX6_ok : ∀ k, k < 7 → parseFieldDescriptor (TX6 k).2.2.1 = some (tyX6 k) := by decide +kernel
abbrev cX6_init : ByteArray := prog_8_method_1_code
def yX6_init : MethodName := ⟨RX6, "<init>", "(LShortFrames$Unfolder;)V"⟩
abbrev cX6_heaps : ByteArray := prog_8_method_3_code
def yX6_heaps : MethodName := ⟨RX6, "heaps", "()I"⟩
abbrev cX6_parts : ByteArray := prog_8_method_4_code
def yX6_parts : MethodName := ⟨RX6, "parts", "()I"⟩
abbrev cX6_bytes : ByteArray := prog_8_method_5_code
def yX6_bytes : MethodName := ⟨RX6, "bytes", "()I"⟩
abbrev cX6_listen : ByteArray := prog_8_method_6_code
def yX6_listen : MethodName := ⟨RX6, "listen", "(LShortFrames$Row;LShortFrames$Row;)I"⟩
abbrev cX6_hearsAll : ByteArray := prog_8_method_7_code
def yX6_hearsAll : MethodName := ⟨RX6, "hearsAll", "(LShortFrames$Row;LShortFrames$Row;)I"⟩
abbrev cX6_hearsFirst : ByteArray := prog_8_method_8_code
def yX6_hearsFirst : MethodName := ⟨RX6, "hearsFirst", "(LShortFrames$Row;LShortFrames$Row;)I"⟩
abbrev cX6_hearsPart : ByteArray := prog_8_method_9_code
def yX6_hearsPart : MethodName := ⟨RX6, "hearsPart", "(LShortFrames$Row;ILShortFrames$Row;ILShortFrames$Row;)I"⟩
abbrev cX6_zOf : ByteArray := prog_8_method_10_code
def yX6_zOf : MethodName := ⟨RX6, "zOf", "(LShortFrames$Row;)I"⟩
abbrev cX6_dropLateHeaps : ByteArray := prog_8_method_11_code
def yX6_dropLateHeaps : MethodName := ⟨RX6, "dropLateHeaps", "()V"⟩
abbrev cX6_indexFor : ByteArray := prog_8_method_12_code
def yX6_indexFor : MethodName := ⟨RX6, "indexFor", "(II)I"⟩
def RX7 : String := "ShortFrames$Row"
def TX7 : u_T := fun k => match k with
  | 0 => ("ShortFrames$Row", "bytes", "[I", true)
  | _ => ("ShortFrames$Row", "length", "I", false)
def tyX7 : Nat → FieldType := fun k => match k with
  | 0 => .array .int
  | _ => .int
abbrev wsX70 : List Cond := u_ws RX7 TX7 2
theorem nmX7 : ∀ a, a < 2 → ∀ b, b < 2 → a ≠ b → (TX7 a).2.1 ≠ (TX7 b).2.1 := by decide +kernel
theorem tyX7_ok : ∀ k, k < 2 → parseFieldDescriptor (TX7 k).2.2.1 = some (tyX7 k) := by decide +kernel
abbrev cX7_init : ByteArray := prog_9_method_1_code
def yX7_init : MethodName := ⟨RX7, "<init>", "(I)V"⟩
abbrev cX7_length : ByteArray := prog_9_method_2_code
def yX7_length : MethodName := ⟨RX7, "length", "()I"⟩
abbrev cX7_has : ByteArray := prog_9_method_3_code
def yX7_has : MethodName := ⟨RX7, "has", "(I)Z"⟩
abbrev cX7_takes : ByteArray := prog_9_method_4_code
def yX7_takes : MethodName := ⟨RX7, "takes", "(I)Z"⟩
abbrev cX7_at : ByteArray := prog_9_method_5_code
def yX7_at : MethodName := ⟨RX7, "at", "(I)I"⟩
abbrev cX7_set : ByteArray := prog_9_method_6_code
def yX7_set : MethodName := ⟨RX7, "set", "(II)V"⟩
abbrev cX7_add : ByteArray := prog_9_method_7_code
def yX7_add : MethodName := ⟨RX7, "add", "(I)V"⟩
abbrev cX7_shorten : ByteArray := prog_9_method_9_code
def yX7_shorten : MethodName := ⟨RX7, "shorten", "(I)V"⟩
abbrev cX7_becomeZeros : ByteArray := prog_9_method_10_code
def yX7_becomeZeros : MethodName := ⟨RX7, "becomeZeros", "(I)V"⟩
abbrev cX7_become : ByteArray := prog_9_method_11_code
def yX7_become : MethodName := ⟨RX7, "become", "(LShortFrames$Row;)V"⟩
abbrev cX7_addAll : ByteArray := prog_9_method_12_code
def yX7_addAll : MethodName := ⟨RX7, "addAll", "(LShortFrames$Row;II)V"⟩
abbrev cX7_number : ByteArray := prog_9_method_13_code
def yX7_number : MethodName := ⟨RX7, "number", "(II)J"⟩
abbrev cX7_setNumber : ByteArray := prog_9_method_14_code
def yX7_setNumber : MethodName := ⟨RX7, "setNumber", "(IJI)V"⟩
abbrev cX7_addNumber : ByteArray := prog_9_method_15_code
def yX7_addNumber : MethodName := ⟨RX7, "addNumber", "(JI)V"⟩
def RX8 : String := "ShortFrames$Squeezer"
def TX8 : u_T := fun k => match k with
  | _ => ("ShortFrames$Squeezer", "known", "LShortFrames$Known;", true)
def tyX8 : Nat → FieldType := fun k => match k with
  | _ => .object "ShortFrames$Known"
abbrev wsX80 : List Cond := u_ws RX8 TX8 1
theorem nmX8 : ∀ a, a < 1 → ∀ b, b < 1 → a ≠ b → (TX8 a).2.1 ≠ (TX8 b).2.1 := by decide +kernel
theorem tyX8_ok : ∀ k, k < 1 → parseFieldDescriptor (TX8 k).2.2.1 = some (tyX8 k) := by decide +kernel
abbrev cX8_init : ByteArray := prog_10_method_1_code
def yX8_init : MethodName := ⟨RX8, "<init>", "(LShortFrames$Known;)V"⟩
abbrev cX8_write : ByteArray := prog_10_method_2_code
def yX8_write : MethodName := ⟨RX8, "write", "(LShortFrames$Row;LShortFrames$Row;)I"⟩
abbrev cX8_contextOf : ByteArray := prog_10_method_3_code
def yX8_contextOf : MethodName := ⟨RX8, "contextOf", "(IJ)I"⟩
abbrev cX8_trafficOf : ByteArray := prog_10_method_4_code
def yX8_trafficOf : MethodName := ⟨RX8, "trafficOf", "(LShortFrames$Row;)I"⟩
abbrev cX8_hopsOf : ByteArray := prog_10_method_5_code
def yX8_hopsOf : MethodName := ⟨RX8, "hopsOf", "(I)I"⟩
abbrev cX8_writeTraffic : ByteArray := prog_10_method_6_code
def yX8_writeTraffic : MethodName := ⟨RX8, "writeTraffic", "(LShortFrames$Row;ILShortFrames$Row;)V"⟩
abbrev cX8_writeAddress : ByteArray := prog_10_method_7_code
def yX8_writeAddress : MethodName := ⟨RX8, "writeAddress", "(IJJLShortFrames$Row;)V"⟩
abbrev cX8_writePorts : ByteArray := prog_10_method_8_code
def yX8_writePorts : MethodName := ⟨RX8, "writePorts", "(LShortFrames$Row;LShortFrames$Row;)V"⟩
def RX9 : String := "ShortFrames$Unfolder"
def TX9 : u_T := fun k => match k with
  | 0 => ("ShortFrames$Unfolder", "known", "LShortFrames$Known;", true)
  | 1 => ("ShortFrames$Unfolder", "packet", "LShortFrames$Row;", true)
  | 2 => ("ShortFrames$Unfolder", "at", "I", false)
  | 3 => ("ShortFrames$Unfolder", "fault", "I", false)
  | 4 => ("ShortFrames$Unfolder", "place", "I", false)
  | 5 => ("ShortFrames$Unfolder", "firstByte", "I", false)
  | 6 => ("ShortFrames$Unfolder", "secondByte", "I", false)
  | 7 => ("ShortFrames$Unfolder", "contexts", "I", false)
  | 8 => ("ShortFrames$Unfolder", "portsForm", "I", false)
  | _ => ("ShortFrames$Unfolder", "headBytes", "I", false)
def tyX9 : Nat → FieldType := fun k => match k with
  | 0 => .object "ShortFrames$Known"
  | 1 => .object "ShortFrames$Row"
  | 2 => .int
  | 3 => .int
  | 4 => .int
  | 5 => .int
  | 6 => .int
  | 7 => .int
  | 8 => .int
  | _ => .int
abbrev wsX90 : List Cond := u_ws RX9 TX9 10
theorem nmX9 : ∀ a, a < 10 → ∀ b, b < 10 → a ≠ b → (TX9 a).2.1 ≠ (TX9 b).2.1 := by decide +kernel
theorem tyX9_ok : ∀ k, k < 10 → parseFieldDescriptor (TX9 k).2.2.1 = some (tyX9 k) := by decide +kernel
abbrev cX9_init : ByteArray := prog_11_method_1_code
def yX9_init : MethodName := ⟨RX9, "<init>", "(LShortFrames$Known;)V"⟩
abbrev cX9_packet : ByteArray := prog_11_method_2_code
def yX9_packet : MethodName := ⟨RX9, "packet", "()LShortFrames$Row;"⟩
abbrev cX9_read : ByteArray := prog_11_method_5_code
def yX9_read : MethodName := ⟨RX9, "read", "(LShortFrames$Row;II)Z"⟩
abbrev cX9_fails : ByteArray := prog_11_method_6_code
def yX9_fails : MethodName := ⟨RX9, "fails", "(II)Z"⟩
abbrev cX9_has : ByteArray := prog_11_method_7_code
def yX9_has : MethodName := ⟨RX9, "has", "(LShortFrames$Row;I)Z"⟩
abbrev cX9_next : ByteArray := prog_11_method_8_code
def yX9_next : MethodName := ⟨RX9, "next", "(LShortFrames$Row;)I"⟩
abbrev cX9_traffic : ByteArray := prog_11_method_9_code
def yX9_traffic : MethodName := ⟨RX9, "traffic", "()I"⟩
abbrev cX9_ports : ByteArray := prog_11_method_10_code
def yX9_ports : MethodName := ⟨RX9, "ports", "()Z"⟩
abbrev cX9_source : ByteArray := prog_11_method_11_code
def yX9_source : MethodName := ⟨RX9, "source", "()I"⟩
abbrev cX9_goal : ByteArray := prog_11_method_12_code
def yX9_goal : MethodName := ⟨RX9, "goal", "()I"⟩
abbrev cX9_readsForm : ByteArray := prog_11_method_13_code
def yX9_readsForm : MethodName := ⟨RX9, "readsForm", "(LShortFrames$Row;)Z"⟩
abbrev cX9_readsContexts : ByteArray := prog_11_method_14_code
def yX9_readsContexts : MethodName := ⟨RX9, "readsContexts", "(LShortFrames$Row;)Z"⟩
abbrev cX9_readsTraffic : ByteArray := prog_11_method_15_code
def yX9_readsTraffic : MethodName := ⟨RX9, "readsTraffic", "(LShortFrames$Row;)Z"⟩
abbrev cX9_readsKind : ByteArray := prog_11_method_16_code
def yX9_readsKind : MethodName := ⟨RX9, "readsKind", "(LShortFrames$Row;)Z"⟩
abbrev cX9_readsHops : ByteArray := prog_11_method_17_code
def yX9_readsHops : MethodName := ⟨RX9, "readsHops", "(LShortFrames$Row;)Z"⟩
abbrev cX9_readsAddress : ByteArray := prog_11_method_18_code
def yX9_readsAddress : MethodName := ⟨RX9, "readsAddress", "(LShortFrames$Row;II)Z"⟩
abbrev cX9_firstEight : ByteArray := prog_11_method_19_code
def yX9_firstEight : MethodName := ⟨RX9, "firstEight", "(II)J"⟩
abbrev cX9_lastEight : ByteArray := prog_11_method_20_code
def yX9_lastEight : MethodName := ⟨RX9, "lastEight", "(IIJ)J"⟩
abbrev cX9_readsPorts : ByteArray := prog_11_method_21_code
def yX9_readsPorts : MethodName := ⟨RX9, "readsPorts", "(LShortFrames$Row;)Z"⟩
abbrev cX9_portsOf : ByteArray := prog_11_method_22_code
def yX9_portsOf : MethodName := ⟨RX9, "portsOf", "(IJ)J"⟩
abbrev cX9_readsRest : ByteArray := prog_11_method_23_code
def yX9_readsRest : MethodName := ⟨RX9, "readsRest", "(LShortFrames$Row;I)Z"⟩
def RX10 : String := "ShortFrames"
def TX10 : u_T := fun k => match k with
  | 0 => ("ShortFrames", "tape", "LShortFrames$Row;", true)
  | 1 => ("ShortFrames", "out", "LShortFrames$Row;", true)
  | 2 => ("ShortFrames", "known", "LShortFrames$Known;", true)
  | 3 => ("ShortFrames", "squeezer", "LShortFrames$Squeezer;", true)
  | 4 => ("ShortFrames", "unfolder", "LShortFrames$Unfolder;", true)
  | 5 => ("ShortFrames", "frames", "LShortFrames$Frames;", true)
  | 6 => ("ShortFrames", "cutter", "LShortFrames$Cutter;", true)
  | 7 => ("ShortFrames", "receiver", "LShortFrames$Receiver;", true)
  | _ => ("ShortFrames", "latest", "[I", true)
def tyX10 : Nat → FieldType := fun k => match k with
  | 0 => .object "ShortFrames$Row"
  | 1 => .object "ShortFrames$Row"
  | 2 => .object "ShortFrames$Known"
  | 3 => .object "ShortFrames$Squeezer"
  | 4 => .object "ShortFrames$Unfolder"
  | 5 => .object "ShortFrames$Frames"
  | 6 => .object "ShortFrames$Cutter"
  | 7 => .object "ShortFrames$Receiver"
  | _ => .array .int
abbrev wsX100 : List Cond := u_ws RX10 TX10 9
theorem nmX10 : ∀ a, a < 9 → ∀ b, b < 9 → a ≠ b → (TX10 a).2.1 ≠ (TX10 b).2.1 := by decide +kernel
theorem tyX10_ok : ∀ k, k < 9 → parseFieldDescriptor (TX10 k).2.2.1 = some (tyX10 k) := by decide +kernel
abbrev cX10_init : ByteArray := prog_1_method_1_code
def yX10_init : MethodName := ⟨RX10, "<init>", "()V"⟩
abbrev cX10_context : ByteArray := prog_1_method_2_code
def yX10_context : MethodName := ⟨RX10, "context", "(IZJ)I"⟩
abbrev cX10_link : ByteArray := prog_1_method_3_code
def yX10_link : MethodName := ⟨RX10, "link", "(IZJ)I"⟩
abbrev cX10_type : ByteArray := prog_1_method_4_code
def yX10_type : MethodName := ⟨RX10, "type", "(JI)I"⟩
abbrev cX10_head : ByteArray := prog_1_method_5_code
def yX10_head : MethodName := ⟨RX10, "head", "(IIIIIJJJJ)I"⟩
abbrev cX10_cut : ByteArray := prog_1_method_6_code
def yX10_cut : MethodName := ⟨RX10, "cut", "(I)I"⟩
abbrev cX10_out : ByteArray := prog_1_method_9_code
def yX10_out : MethodName := ⟨RX10, "out", "(I)I"⟩
abbrev cX10_slice : ByteArray := prog_1_method_13_code
def yX10_slice : MethodName := ⟨RX10, "slice", "(II)I"⟩
abbrev cX10_put : ByteArray := prog_1_method_16_code
def yX10_put : MethodName := ⟨RX10, "put", "(I)I"⟩
abbrev cX10_hear : ByteArray := prog_1_method_17_code
def yX10_hear : MethodName := ⟨RX10, "hear", "(I)I"⟩
abbrev cX10_count : ByteArray := prog_1_method_19_code
def yX10_count : MethodName := ⟨RX10, "count", "(I)I"⟩
abbrev cX10_isOutside : ByteArray := prog_1_method_20_code
def yX10_isOutside : MethodName := ⟨RX10, "isOutside", "(II)Z"⟩
abbrev cX10_byteOrLength : ByteArray := prog_1_method_21_code
def yX10_byteOrLength : MethodName := ⟨RX10, "byteOrLength", "(LShortFrames$Row;I)I"⟩
def RX11 : String := "ShortFramesModel"
def TX11 : u_T := fun k => match k with
  | _ => ("", "", "", false)
def tyX11 : Nat → FieldType := fun k => match k with
  | _ => .int
abbrev wsX110 : List Cond := u_ws RX11 TX11 0
theorem nmX11 : ∀ a, a < 0 → ∀ b, b < 0 → a ≠ b → (TX11 a).2.1 ≠ (TX11 b).2.1 := by decide +kernel
theorem tyX11_ok : ∀ k, k < 0 → parseFieldDescriptor (TX11 k).2.2.1 = some (tyX11 k) := by decide +kernel
def RL : String := "ShortFramesLaw"
abbrev cL_cell : ByteArray := method_2_code
def yL_cell : MethodName := ⟨RL, "cell", "([II)I"⟩
abbrev cL_lays : ByteArray := method_3_code
def yL_lays : MethodName := ⟨RL, "lays", "(LShortFrames;[II)I"⟩
abbrev cL_first : ByteArray := method_4_code
def yL_first : MethodName := ⟨RL, "first", "(I)J"⟩
abbrev cL_second : ByteArray := method_5_code
def yL_second : MethodName := ⟨RL, "second", "(II)J"⟩
abbrev cL_knows : ByteArray := method_6_code
def yL_knows : MethodName := ⟨RL, "knows", "(LShortFrames;I)Z"⟩
abbrev cL_law : ByteArray := code
def yL_law : MethodName := ⟨RL, "law", "([I)Z"⟩
abbrev vwCl : List vw_C := [(RX0, TX0, 3), (RX1, TX1, 2), (RX2, TX2, 8), (RX3, TX3, 4), (RX6, TX6, 7), (RX7, TX7, 2), (RX8, TX8, 1), (RX9, TX9, 10), (RX10, TX10, 9)]
/-- the words that outlast a call -/
def lw_g : List Cond := lw_tbl.filter goodWord
theorem lw_gin {w : Cond} (h : w ∈ lw_g) : w ∈ lw_tbl := (List.mem_filter.mp h).1
theorem tm_0 {w : Cond} (h : w ∈ k2_sels lw_privs) (hg : goodWord w = true) : w ∈ lw_g := List.mem_filter.mpr ⟨List.mem_append_left _ h, hg⟩
theorem tm_1 {w : Cond} (h : w ∈ tables_1_1) (hg : goodWord w = true) : w ∈ lw_g := List.mem_filter.mpr ⟨List.mem_append_right _ (List.mem_append_left _ h), hg⟩
theorem tm_2 {w : Cond} (h : w ∈ tables_1_2) (hg : goodWord w = true) : w ∈ lw_g := List.mem_filter.mpr ⟨List.mem_append_right _ (List.mem_append_right _ (List.mem_append_left _ h)), hg⟩
theorem tm_3 {w : Cond} (h : w ∈ tables_1_3) (hg : goodWord w = true) : w ∈ lw_g := List.mem_filter.mpr ⟨List.mem_append_right _ (List.mem_append_right _ (List.mem_append_right _ (h))), hg⟩
theorem wd_1 : (Cond.classLink RL 25 RX10) ∈ lw_g := tm_1 (List.mem_of_getElem? (i := 12) rfl) rfl
theorem wd_2 : (Cond.instantiable RX10 9) ∈ lw_g := tm_1 (List.mem_of_getElem? (i := 13) rfl) rfl
theorem wd_3 : (Cond.initialized RX10) ∈ lw_g := tm_1 (List.mem_of_getElem? (i := 1) rfl) rfl
theorem wd_4 : (Cond.constantLong RL 80 (3763339272)) ∈ lw_g := tm_3 (List.mem_of_getElem? (i := 231) rfl) rfl
theorem wd_5 : (Cond.constantLong RL 82 (21491745540)) ∈ lw_g := tm_3 (List.mem_of_getElem? (i := 232) rfl) rfl
theorem wd_6 : (Cond.constantLong RL 84 (84281096)) ∈ lw_g := tm_3 (List.mem_of_getElem? (i := 233) rfl) rfl
theorem wd_7 : (Cond.arrayClass .int) ∈ lw_g := tm_1 (List.mem_of_getElem? (i := 71) rfl) rfl
theorem wd_8 : (Cond.methodLink RL 60 yX10_init) ∈ lw_g := tm_1 (List.mem_of_getElem? (i := 14) rfl) rfl
theorem wd_9 : (Cond.instanceMethod yX10_init) ∈ lw_g := tm_1 (List.mem_of_getElem? (i := 15) rfl) rfl
theorem wd_10 : (Cond.code yX10_init cX10_init 4 none) ∈ lw_g := tm_1 (List.mem_of_getElem? (i := 16) rfl) rfl
theorem wd_11 : (Cond.methodLink RX10 1 objectInit) ∈ lw_g := tm_1 (List.mem_of_getElem? (i := 17) rfl) rfl
theorem wd_12 : (Cond.instanceMethod objectInit) ∈ lw_g := tm_1 (List.mem_of_getElem? (i := 18) rfl) rfl
theorem wd_13 : (Cond.code objectInit ⟨#[0xb1]⟩ 1 none) ∈ lw_g := tm_1 (List.mem_of_getElem? (i := 19) rfl) rfl
theorem wd_14 : (Cond.classLink RX10 7 RX3) ∈ lw_g := tm_1 (List.mem_of_getElem? (i := 20) rfl) rfl
theorem wd_15 : (Cond.instantiable RX3 4) ∈ lw_g := tm_1 (List.mem_of_getElem? (i := 21) rfl) rfl
theorem wd_16 : (Cond.initialized RX3) ∈ lw_g := tm_1 (List.mem_of_getElem? (i := 2) rfl) rfl
theorem wd_17 : (Cond.classLink RX10 10 RX8) ∈ lw_g := tm_1 (List.mem_of_getElem? (i := 42) rfl) rfl
theorem wd_18 : (Cond.instantiable RX8 1) ∈ lw_g := tm_1 (List.mem_of_getElem? (i := 43) rfl) rfl
theorem wd_19 : (Cond.initialized RX8) ∈ lw_g := tm_1 (List.mem_of_getElem? (i := 3) rfl) rfl
theorem wd_20 : (Cond.classLink RX10 15 RX9) ∈ lw_g := tm_1 (List.mem_of_getElem? (i := 52) rfl) rfl
theorem wd_21 : (Cond.instantiable RX9 10) ∈ lw_g := tm_1 (List.mem_of_getElem? (i := 53) rfl) rfl
theorem wd_22 : (Cond.initialized RX9) ∈ lw_g := tm_1 (List.mem_of_getElem? (i := 4) rfl) rfl
theorem wd_23 : (Cond.classLink RX10 18 RX7) ∈ lw_g := tm_1 (List.mem_of_getElem? (i := 103) rfl) rfl
theorem wd_24 : (Cond.instantiable RX7 2) ∈ lw_g := tm_1 (List.mem_of_getElem? (i := 59) rfl) rfl
theorem wd_25 : (Cond.initialized RX7) ∈ lw_g := tm_1 (List.mem_of_getElem? (i := 5) rfl) rfl
theorem wd_26 : (Cond.fieldLink RX10 25 "ShortFrames" "tape" "LShortFrames$Row;") ∈ lw_g := tm_1 (List.mem_of_getElem? (i := 206) rfl) rfl
theorem wd_27 : (Cond.fieldLink RX10 29 "ShortFrames" "out" "LShortFrames$Row;") ∈ lw_g := tm_1 (List.mem_of_getElem? (i := 207) rfl) rfl
theorem wd_28 : (Cond.fieldLink RX10 32 "ShortFrames" "known" "LShortFrames$Known;") ∈ lw_g := tm_1 (List.mem_of_getElem? (i := 208) rfl) rfl
theorem wd_29 : (Cond.fieldLink RX10 36 "ShortFrames" "squeezer" "LShortFrames$Squeezer;") ∈ lw_g := tm_1 (List.mem_of_getElem? (i := 209) rfl) rfl
theorem wd_30 : (Cond.fieldLink RX10 40 "ShortFrames" "unfolder" "LShortFrames$Unfolder;") ∈ lw_g := tm_1 (List.mem_of_getElem? (i := 210) rfl) rfl
theorem wd_31 : (Cond.classLink RX10 44 RX1) ∈ lw_g := tm_1 (List.mem_of_getElem? (i := 105) rfl) rfl
theorem wd_32 : (Cond.instantiable RX1 2) ∈ lw_g := tm_1 (List.mem_of_getElem? (i := 106) rfl) rfl
theorem wd_33 : (Cond.initialized RX1) ∈ lw_g := tm_1 (List.mem_of_getElem? (i := 6) rfl) rfl
theorem wd_34 : (Cond.fieldLink RX10 47 "ShortFrames" "frames" "LShortFrames$Frames;") ∈ lw_g := tm_1 (List.mem_of_getElem? (i := 211) rfl) rfl
theorem wd_35 : (Cond.classLink RX10 51 RX0) ∈ lw_g := tm_1 (List.mem_of_getElem? (i := 121) rfl) rfl
theorem wd_36 : (Cond.instantiable RX0 3) ∈ lw_g := tm_1 (List.mem_of_getElem? (i := 122) rfl) rfl
theorem wd_37 : (Cond.initialized RX0) ∈ lw_g := tm_1 (List.mem_of_getElem? (i := 7) rfl) rfl
theorem wd_38 : (Cond.fieldLink RX10 56 "ShortFrames" "cutter" "LShortFrames$Cutter;") ∈ lw_g := tm_1 (List.mem_of_getElem? (i := 212) rfl) rfl
theorem wd_39 : (Cond.classLink RX10 60 RX6) ∈ lw_g := tm_1 (List.mem_of_getElem? (i := 139) rfl) rfl
theorem wd_40 : (Cond.instantiable RX6 7) ∈ lw_g := tm_1 (List.mem_of_getElem? (i := 140) rfl) rfl
theorem wd_41 : (Cond.initialized RX6) ∈ lw_g := tm_1 (List.mem_of_getElem? (i := 8) rfl) rfl
theorem wd_42 : (Cond.fieldLink RX10 65 "ShortFrames" "receiver" "LShortFrames$Receiver;") ∈ lw_g := tm_1 (List.mem_of_getElem? (i := 213) rfl) rfl
theorem wd_43 : (Cond.fieldLink RX10 69 "ShortFrames" "latest" "[I") ∈ lw_g := tm_1 (List.mem_of_getElem? (i := 214) rfl) rfl
theorem wd_44 : (Cond.instanceMethod yX3_init) ∈ lw_g := tm_1 (List.mem_of_getElem? (i := 23) rfl) rfl
theorem wd_45 : (Cond.code yX3_init cX3_init 1 none) ∈ lw_g := tm_1 (List.mem_of_getElem? (i := 24) rfl) rfl
theorem wd_46 : (Cond.methodLink RX3 1 objectInit) ∈ lw_g := tm_1 (List.mem_of_getElem? (i := 25) rfl) rfl
theorem wd_47 : (Cond.arrayClass .boolean) ∈ lw_g := tm_1 (List.mem_of_getElem? (i := 40) rfl) rfl
theorem wd_48 : (Cond.fieldLink RX3 9 "ShortFrames$Known" "there" "[Z") ∈ lw_g := tm_1 (List.mem_of_getElem? (i := 27) rfl) rfl
theorem wd_49 : (Cond.arrayClass .long) ∈ lw_g := tm_1 (List.mem_of_getElem? (i := 41) rfl) rfl
theorem wd_50 : (Cond.fieldLink RX3 13 "ShortFrames$Known" "contexts" "[J") ∈ lw_g := tm_1 (List.mem_of_getElem? (i := 28) rfl) rfl
theorem wd_51 : (Cond.constantLong RX3 17 (1099478073344)) ∈ lw_g := tm_1 (List.mem_of_getElem? (i := 26) rfl) rfl
theorem wd_52 : (Cond.fieldLink RX3 19 "ShortFrames$Known" "senderOwn" "J") ∈ lw_g := tm_1 (List.mem_of_getElem? (i := 29) rfl) rfl
theorem wd_53 : (Cond.fieldLink RX3 23 "ShortFrames$Known" "receiverOwn" "J") ∈ lw_g := tm_1 (List.mem_of_getElem? (i := 30) rfl) rfl
theorem wd_54 : (Cond.methodLink RX10 12 yX8_init) ∈ lw_g := tm_1 (List.mem_of_getElem? (i := 44) rfl) rfl
theorem wd_55 : (Cond.instanceMethod yX8_init) ∈ lw_g := tm_1 (List.mem_of_getElem? (i := 45) rfl) rfl
theorem wd_56 : (Cond.code yX8_init cX8_init 2 none) ∈ lw_g := tm_1 (List.mem_of_getElem? (i := 46) rfl) rfl
theorem wd_57 : (Cond.methodLink RX8 1 objectInit) ∈ lw_g := tm_1 (List.mem_of_getElem? (i := 47) rfl) rfl
theorem wd_58 : (Cond.fieldLink RX8 7 "ShortFrames$Squeezer" "known" "LShortFrames$Known;") ∈ lw_g := tm_1 (List.mem_of_getElem? (i := 48) rfl) rfl
theorem wd_59 : (Cond.methodLink RX10 17 yX9_init) ∈ lw_g := tm_1 (List.mem_of_getElem? (i := 54) rfl) rfl
theorem wd_60 : (Cond.instanceMethod yX9_init) ∈ lw_g := tm_1 (List.mem_of_getElem? (i := 55) rfl) rfl
theorem wd_61 : (Cond.code yX9_init cX9_init 2 none) ∈ lw_g := tm_1 (List.mem_of_getElem? (i := 56) rfl) rfl
theorem wd_62 : (Cond.methodLink RX9 3 objectInit) ∈ lw_g := tm_1 (List.mem_of_getElem? (i := 57) rfl) rfl
theorem wd_63 : (Cond.classLink RX9 9 RX7) ∈ lw_g := tm_1 (List.mem_of_getElem? (i := 58) rfl) rfl
theorem wd_64 : (Cond.fieldLink RX9 14 "ShortFrames$Unfolder" "packet" "LShortFrames$Row;") ∈ lw_g := tm_1 (List.mem_of_getElem? (i := 73) rfl) rfl
theorem wd_65 : (Cond.fieldLink RX9 20 "ShortFrames$Unfolder" "known" "LShortFrames$Known;") ∈ lw_g := tm_1 (List.mem_of_getElem? (i := 72) rfl) rfl
theorem wd_66 : (Cond.methodLink RX9 11 yX7_init) ∈ lw_g := tm_1 (List.mem_of_getElem? (i := 60) rfl) rfl
theorem wd_67 : (Cond.instanceMethod yX7_init) ∈ lw_g := tm_1 (List.mem_of_getElem? (i := 61) rfl) rfl
theorem wd_68 : (Cond.code yX7_init cX7_init 2 none) ∈ lw_g := tm_1 (List.mem_of_getElem? (i := 62) rfl) rfl
theorem wd_69 : (Cond.methodLink RX7 1 objectInit) ∈ lw_g := tm_1 (List.mem_of_getElem? (i := 63) rfl) rfl
theorem wd_70 : (Cond.fieldLink RX7 7 "ShortFrames$Row" "bytes" "[I") ∈ lw_g := tm_1 (List.mem_of_getElem? (i := 64) rfl) rfl
theorem wd_71 : (Cond.fieldLink RX7 13 "ShortFrames$Row" "length" "I") ∈ lw_g := tm_1 (List.mem_of_getElem? (i := 65) rfl) rfl
theorem wd_72 : (Cond.methodLink RX10 22 yX7_init) ∈ lw_g := tm_1 (List.mem_of_getElem? (i := 104) rfl) rfl
theorem wd_73 : (Cond.methodLink RX10 46 yX1_init) ∈ lw_g := tm_1 (List.mem_of_getElem? (i := 107) rfl) rfl
theorem wd_74 : (Cond.instanceMethod yX1_init) ∈ lw_g := tm_1 (List.mem_of_getElem? (i := 108) rfl) rfl
theorem wd_75 : (Cond.code yX1_init cX1_init 2 none) ∈ lw_g := tm_1 (List.mem_of_getElem? (i := 109) rfl) rfl
theorem wd_76 : (Cond.methodLink RX1 3 objectInit) ∈ lw_g := tm_1 (List.mem_of_getElem? (i := 110) rfl) rfl
theorem wd_77 : (Cond.classLink RX1 9 RX7) ∈ lw_g := tm_1 (List.mem_of_getElem? (i := 111) rfl) rfl
theorem wd_78 : (Cond.fieldLink RX1 11 "ShortFrames$Frames" "rows" "[LShortFrames$Row;") ∈ lw_g := tm_1 (List.mem_of_getElem? (i := 114) rfl) rfl
theorem wd_79 : (Cond.fieldLink RX1 20 "ShortFrames$Frames" "size" "I") ∈ lw_g := tm_1 (List.mem_of_getElem? (i := 115) rfl) rfl
theorem wd_80 : (Cond.methodLink RX1 17 yX7_init) ∈ lw_g := tm_1 (List.mem_of_getElem? (i := 113) rfl) rfl
theorem wd_81 : (Cond.methodLink RX10 53 yX0_init) ∈ lw_g := tm_1 (List.mem_of_getElem? (i := 123) rfl) rfl
theorem wd_82 : (Cond.instanceMethod yX0_init) ∈ lw_g := tm_1 (List.mem_of_getElem? (i := 124) rfl) rfl
theorem wd_83 : (Cond.code yX0_init cX0_init 2 none) ∈ lw_g := tm_1 (List.mem_of_getElem? (i := 125) rfl) rfl
theorem wd_84 : (Cond.methodLink RX0 3 objectInit) ∈ lw_g := tm_1 (List.mem_of_getElem? (i := 126) rfl) rfl
theorem wd_85 : (Cond.classLink RX0 9 RX7) ∈ lw_g := tm_1 (List.mem_of_getElem? (i := 127) rfl) rfl
theorem wd_86 : (Cond.fieldLink RX0 14 "ShortFrames$Cutter" "squeezed" "LShortFrames$Row;") ∈ lw_g := tm_1 (List.mem_of_getElem? (i := 130) rfl) rfl
theorem wd_87 : (Cond.fieldLink RX0 20 "ShortFrames$Cutter" "piece" "LShortFrames$Row;") ∈ lw_g := tm_1 (List.mem_of_getElem? (i := 131) rfl) rfl
theorem wd_88 : (Cond.fieldLink RX0 23 "ShortFrames$Cutter" "squeezer" "LShortFrames$Squeezer;") ∈ lw_g := tm_1 (List.mem_of_getElem? (i := 129) rfl) rfl
theorem wd_89 : (Cond.methodLink RX0 11 yX7_init) ∈ lw_g := tm_1 (List.mem_of_getElem? (i := 128) rfl) rfl
theorem wd_90 : (Cond.methodLink RX10 62 yX6_init) ∈ lw_g := tm_1 (List.mem_of_getElem? (i := 141) rfl) rfl
theorem wd_91 : (Cond.instanceMethod yX6_init) ∈ lw_g := tm_1 (List.mem_of_getElem? (i := 142) rfl) rfl
theorem wd_92 : (Cond.code yX6_init cX6_init 3 none) ∈ lw_g := tm_1 (List.mem_of_getElem? (i := 143) rfl) rfl
theorem wd_93 : (Cond.methodLink RX6 3 objectInit) ∈ lw_g := tm_1 (List.mem_of_getElem? (i := 144) rfl) rfl
theorem wd_94 : (Cond.classLink RX6 11 RX2) ∈ lw_g := tm_1 (List.mem_of_getElem? (i := 145) rfl) rfl
theorem wd_95 : (Cond.fieldLink RX6 13 "ShortFrames$Receiver" "heaps" "[LShortFrames$Heap;") ∈ lw_g := tm_1 (List.mem_of_getElem? (i := 180) rfl) rfl
theorem wd_96 : (Cond.fieldLink RX6 17 "ShortFrames$Receiver" "unfolder" "LShortFrames$Unfolder;") ∈ lw_g := tm_1 (List.mem_of_getElem? (i := 179) rfl) rfl
theorem wd_97 : (Cond.instantiable RX2 8) ∈ lw_g := tm_1 (List.mem_of_getElem? (i := 147) rfl) rfl
theorem wd_98 : (Cond.initialized RX2) ∈ lw_g := tm_1 (List.mem_of_getElem? (i := 9) rfl) rfl
theorem wd_99 : (Cond.instanceMethod yX2_init) ∈ lw_g := tm_1 (List.mem_of_getElem? (i := 149) rfl) rfl
theorem wd_100 : (Cond.code yX2_init cX2_init 1 none) ∈ lw_g := tm_1 (List.mem_of_getElem? (i := 150) rfl) rfl
theorem wd_101 : (Cond.methodLink RX2 3 objectInit) ∈ lw_g := tm_1 (List.mem_of_getElem? (i := 151) rfl) rfl
theorem wd_102 : (Cond.classLink RX2 9 RX7) ∈ lw_g := tm_1 (List.mem_of_getElem? (i := 152) rfl) rfl
theorem wd_103 : (Cond.fieldLink RX2 14 "ShortFrames$Heap" "content" "LShortFrames$Row;") ∈ lw_g := tm_1 (List.mem_of_getElem? (i := 154) rfl) rfl
theorem wd_104 : (Cond.fieldLink RX2 20 "ShortFrames$Heap" "lengths" "[I") ∈ lw_g := tm_1 (List.mem_of_getElem? (i := 155) rfl) rfl
theorem wd_105 : (Cond.methodLink RX2 11 yX7_init) ∈ lw_g := tm_1 (List.mem_of_getElem? (i := 153) rfl) rfl
theorem wd_106 : (Cond.methodLink RL 9 yL_cell) ∈ lw_g := tm_3 (List.mem_of_getElem? (i := 177) rfl) rfl
theorem wd_107 : (Cond.static yL_cell) ∈ lw_g := tm_3 (List.mem_of_getElem? (i := 178) rfl) rfl
theorem wd_108 : (Cond.initialized RL) ∈ lw_g := tm_1 (List.mem_of_getElem? (i := 0) rfl) rfl
theorem wd_109 : (Cond.code yL_cell cL_cell 2 (some .int)) ∈ lw_g := tm_3 (List.mem_of_getElem? (i := 179) rfl) rfl
theorem wd_110 : (Cond.constant RL 7 (15485957)) ∈ lw_g := tm_3 (List.mem_of_getElem? (i := 180) rfl) rfl
theorem wd_111 : (Cond.constant RL 8 (2147483647)) ∈ lw_g := tm_3 (List.mem_of_getElem? (i := 181) rfl) rfl
theorem wd_112 : (Cond.methodLink RL 61 yL_knows) ∈ lw_g := tm_3 (List.mem_of_getElem? (i := 206) rfl) rfl
theorem wd_113 : (Cond.static yL_knows) ∈ lw_g := tm_3 (List.mem_of_getElem? (i := 207) rfl) rfl
theorem wd_114 : (Cond.code yL_knows cL_knows 4 (some .boolean)) ∈ lw_g := tm_3 (List.mem_of_getElem? (i := 208) rfl) rfl
theorem wd_115 : (Cond.constantLong RL 47 (566265752454920)) ∈ lw_g := tm_3 (List.mem_of_getElem? (i := 209) rfl) rfl
theorem wd_116 : (Cond.constantLong RL 49 (4660)) ∈ lw_g := tm_3 (List.mem_of_getElem? (i := 210) rfl) rfl
theorem wd_117 : (Cond.constantLong RL 55 (4661)) ∈ lw_g := tm_3 (List.mem_of_getElem? (i := 221) rfl) rfl
theorem wd_118 : (Cond.constantLong RL 36 (2306139568115548160)) ∈ lw_g := tm_3 (List.mem_of_getElem? (i := 190) rfl) rfl
theorem wd_119 : (Cond.methodLink RL 51 yX10_link) ∈ lw_g := tm_3 (List.mem_of_getElem? (i := 211) rfl) rfl
theorem wd_120 : (Cond.instanceMethod yX10_link) ∈ lw_g := tm_3 (List.mem_of_getElem? (i := 212) rfl) rfl
theorem wd_121 : (Cond.selects RX10 yX10_link yX10_link) ∈ lw_g := tm_3 (List.mem_of_getElem? (i := 213) rfl) rfl
theorem wd_122 : (Cond.code yX10_link cX10_link 5 (some .int)) ∈ lw_g := tm_3 (List.mem_of_getElem? (i := 214) rfl) rfl
theorem wd_123 : (Cond.methodLink RX10 81 yX3_setLink) ∈ lw_g := tm_3 (List.mem_of_getElem? (i := 215) rfl) rfl
theorem wd_124 : (Cond.instanceMethod yX3_setLink) ∈ lw_g := tm_3 (List.mem_of_getElem? (i := 216) rfl) rfl
theorem wd_125 : (Cond.selects RX3 yX3_setLink yX3_setLink) ∈ lw_g := tm_3 (List.mem_of_getElem? (i := 217) rfl) rfl
theorem wd_126 : (Cond.code yX3_setLink cX3_setLink 7 none) ∈ lw_g := tm_3 (List.mem_of_getElem? (i := 218) rfl) rfl
theorem wd_127 : (Cond.constantLong RX3 30 (144115188075855872)) ∈ lw_g := tm_3 (List.mem_of_getElem? (i := 219) rfl) rfl
theorem wd_128 : (Cond.constantLong RX3 32 (65535)) ∈ lw_g := tm_3 (List.mem_of_getElem? (i := 220) rfl) rfl
theorem wd_129 : (Cond.methodLink RL 57 yX10_context) ∈ lw_g := tm_3 (List.mem_of_getElem? (i := 222) rfl) rfl
theorem wd_130 : (Cond.instanceMethod yX10_context) ∈ lw_g := tm_3 (List.mem_of_getElem? (i := 223) rfl) rfl
theorem wd_131 : (Cond.selects RX10 yX10_context yX10_context) ∈ lw_g := tm_3 (List.mem_of_getElem? (i := 224) rfl) rfl
theorem wd_132 : (Cond.code yX10_context cX10_context 6 (some .int)) ∈ lw_g := tm_3 (List.mem_of_getElem? (i := 225) rfl) rfl
theorem wd_133 : (Cond.methodLink RX10 73 yX3_isThere) ∈ lw_g := tm_3 (List.mem_of_getElem? (i := 226) rfl) rfl
theorem wd_134 : (Cond.instanceMethod yX3_isThere) ∈ lw_g := tm_3 (List.mem_of_getElem? (i := 3) rfl) rfl
theorem wd_135 : (Cond.selects RX3 yX3_isThere yX3_isThere) ∈ lw_g := tm_3 (List.mem_of_getElem? (i := 4) rfl) rfl
theorem wd_136 : (Cond.code yX3_isThere cX3_isThere 2 (some .boolean)) ∈ lw_g := tm_3 (List.mem_of_getElem? (i := 5) rfl) rfl
theorem wd_137 : (Cond.methodLink RX10 77 yX3_setContext) ∈ lw_g := tm_3 (List.mem_of_getElem? (i := 227) rfl) rfl
theorem wd_138 : (Cond.instanceMethod yX3_setContext) ∈ lw_g := tm_3 (List.mem_of_getElem? (i := 228) rfl) rfl
theorem wd_139 : (Cond.selects RX3 yX3_setContext yX3_setContext) ∈ lw_g := tm_3 (List.mem_of_getElem? (i := 229) rfl) rfl
theorem wd_140 : (Cond.code yX3_setContext cX3_setContext 5 none) ∈ lw_g := tm_3 (List.mem_of_getElem? (i := 230) rfl) rfl
theorem wd_141 : (Cond.methodLink RL 65 yL_lays) ∈ lw_g := tm_3 (List.mem_of_getElem? (i := 182) rfl) rfl
theorem wd_142 : (Cond.static yL_lays) ∈ lw_g := tm_3 (List.mem_of_getElem? (i := 183) rfl) rfl
theorem wd_143 : (Cond.code yL_lays cL_lays 13 (some .int)) ∈ lw_g := tm_3 (List.mem_of_getElem? (i := 184) rfl) rfl
theorem wd_144 : (Cond.constant RL 15 (1048575)) ∈ lw_g := tm_3 (List.mem_of_getElem? (i := 185) rfl) rfl
theorem wd_145 : (Cond.methodLink RL 16 yL_first) ∈ lw_g := tm_3 (List.mem_of_getElem? (i := 186) rfl) rfl
theorem wd_146 : (Cond.static yL_first) ∈ lw_g := tm_3 (List.mem_of_getElem? (i := 187) rfl) rfl
theorem wd_147 : (Cond.code yL_first cL_first 1 (some .long)) ∈ lw_g := tm_3 (List.mem_of_getElem? (i := 188) rfl) rfl
theorem wd_148 : (Cond.constantLong RL 34 (-108086391056891904)) ∈ lw_g := tm_3 (List.mem_of_getElem? (i := 189) rfl) rfl
theorem wd_149 : (Cond.constantLong RL 38 (-71494644084506624)) ∈ lw_g := tm_3 (List.mem_of_getElem? (i := 191) rfl) rfl
theorem wd_150 : (Cond.methodLink RL 20 yL_second) ∈ lw_g := tm_3 (List.mem_of_getElem? (i := 192) rfl) rfl
theorem wd_151 : (Cond.static yL_second) ∈ lw_g := tm_3 (List.mem_of_getElem? (i := 193) rfl) rfl
theorem wd_152 : (Cond.code yL_second cL_second 2 (some .long)) ∈ lw_g := tm_3 (List.mem_of_getElem? (i := 194) rfl) rfl
theorem wd_153 : (Cond.constantLong RL 40 (1099478078004)) ∈ lw_g := tm_3 (List.mem_of_getElem? (i := 195) rfl) rfl
theorem wd_154 : (Cond.constantLong RL 42 (1099478073344)) ∈ lw_g := tm_3 (List.mem_of_getElem? (i := 196) rfl) rfl
theorem wd_155 : (Cond.constant RL 44 (65535)) ∈ lw_g := tm_3 (List.mem_of_getElem? (i := 197) rfl) rfl
theorem wd_156 : (Cond.constantLong RL 45 (144681453828310792)) ∈ lw_g := tm_3 (List.mem_of_getElem? (i := 198) rfl) rfl
theorem wd_157 : (Cond.methodLink RL 24 yX10_head) ∈ lw_g := tm_3 (List.mem_of_getElem? (i := 199) rfl) rfl
theorem wd_158 : (Cond.instanceMethod yX10_head) ∈ lw_g := tm_3 (List.mem_of_getElem? (i := 200) rfl) rfl
theorem wd_159 : (Cond.selects RX10 yX10_head yX10_head) ∈ lw_g := tm_3 (List.mem_of_getElem? (i := 201) rfl) rfl
theorem wd_160 : (Cond.code yX10_head cX10_head 14 (some .int)) ∈ lw_g := tm_3 (List.mem_of_getElem? (i := 202) rfl) rfl
theorem wd_161 : (Cond.constant RX10 99 (1048575)) ∈ lw_g := tm_3 (List.mem_of_getElem? (i := 203) rfl) rfl
theorem wd_162 : (Cond.methodLink RX10 95 yX10_isOutside) ∈ lw_g := tm_2 (List.mem_of_getElem? (i := 18) rfl) rfl
theorem wd_163 : (Cond.static yX10_isOutside) ∈ lw_g := tm_2 (List.mem_of_getElem? (i := 19) rfl) rfl
theorem wd_164 : (Cond.code yX10_isOutside cX10_isOutside 2 (some .boolean)) ∈ lw_g := tm_2 (List.mem_of_getElem? (i := 20) rfl) rfl
theorem wd_165 : (Cond.methodLink RX10 84 yX7_takes) ∈ lw_g := tm_1 (List.mem_of_getElem? (i := 238) rfl) rfl
theorem wd_166 : (Cond.instanceMethod yX7_takes) ∈ lw_g := tm_1 (List.mem_of_getElem? (i := 239) rfl) rfl
theorem wd_167 : (Cond.selects RX7 yX7_takes yX7_takes) ∈ lw_g := tm_2 (List.mem_of_getElem? (i := 0) rfl) rfl
theorem wd_168 : (Cond.code yX7_takes cX7_takes 2 (some .boolean)) ∈ lw_g := tm_2 (List.mem_of_getElem? (i := 1) rfl) rfl
theorem wd_169 : (Cond.methodLink RX10 100 yX5_firstFour) ∈ lw_g := tm_3 (List.mem_of_getElem? (i := 204) rfl) rfl
theorem wd_170 : (Cond.static yX5_firstFour) ∈ lw_g := tm_3 (List.mem_of_getElem? (i := 17) rfl) rfl
theorem wd_171 : (Cond.initialized RX5) ∈ lw_g := tm_1 (List.mem_of_getElem? (i := 10) rfl) rfl
theorem wd_172 : (Cond.code yX5_firstFour cX5_firstFour 2 (some .long)) ∈ lw_g := tm_3 (List.mem_of_getElem? (i := 18) rfl) rfl
theorem wd_173 : (Cond.constantLong RX5 9 (1610612736)) ∈ lw_g := tm_3 (List.mem_of_getElem? (i := 19) rfl) rfl
theorem wd_174 : (Cond.methodLink RX10 87 yX7_addNumber) ∈ lw_g := tm_2 (List.mem_of_getElem? (i := 2) rfl) rfl
theorem wd_175 : (Cond.instanceMethod yX7_addNumber) ∈ lw_g := tm_2 (List.mem_of_getElem? (i := 3) rfl) rfl
theorem wd_176 : (Cond.selects RX7 yX7_addNumber yX7_addNumber) ∈ lw_g := tm_2 (List.mem_of_getElem? (i := 4) rfl) rfl
theorem wd_177 : (Cond.code yX7_addNumber cX7_addNumber 5 none) ∈ lw_g := tm_2 (List.mem_of_getElem? (i := 5) rfl) rfl
theorem wd_178 : (Cond.methodLink RX7 25 yX7_add) ∈ lw_g := tm_2 (List.mem_of_getElem? (i := 6) rfl) rfl
theorem wd_179 : (Cond.instanceMethod yX7_add) ∈ lw_g := tm_2 (List.mem_of_getElem? (i := 7) rfl) rfl
theorem wd_180 : (Cond.selects RX7 yX7_add yX7_add) ∈ lw_g := tm_2 (List.mem_of_getElem? (i := 8) rfl) rfl
theorem wd_181 : (Cond.code yX7_add cX7_add 2 none) ∈ lw_g := tm_2 (List.mem_of_getElem? (i := 9) rfl) rfl
theorem wd_182 : (Cond.methodLink RX10 106 yX7_add) ∈ lw_g := tm_3 (List.mem_of_getElem? (i := 205) rfl) rfl
theorem wd_183 : (Cond.methodLink RX10 91 yX7_length) ∈ lw_g := tm_2 (List.mem_of_getElem? (i := 10) rfl) rfl
theorem wd_184 : (Cond.instanceMethod yX7_length) ∈ lw_g := tm_2 (List.mem_of_getElem? (i := 11) rfl) rfl
theorem wd_185 : (Cond.selects RX7 yX7_length yX7_length) ∈ lw_g := tm_2 (List.mem_of_getElem? (i := 12) rfl) rfl
theorem wd_186 : (Cond.code yX7_length cX7_length 1 (some .int)) ∈ lw_g := tm_2 (List.mem_of_getElem? (i := 13) rfl) rfl
theorem wd_187 : (Cond.methodLink RL 30 yX10_type) ∈ lw_g := tm_1 (List.mem_of_getElem? (i := 234) rfl) rfl
theorem wd_188 : (Cond.instanceMethod yX10_type) ∈ lw_g := tm_1 (List.mem_of_getElem? (i := 235) rfl) rfl
theorem wd_189 : (Cond.selects RX10 yX10_type yX10_type) ∈ lw_g := tm_1 (List.mem_of_getElem? (i := 236) rfl) rfl
theorem wd_190 : (Cond.code yX10_type cX10_type 4 (some .int)) ∈ lw_g := tm_1 (List.mem_of_getElem? (i := 237) rfl) rfl
theorem wd_191 : (Cond.methodLink RL 69 yX10_slice) ∈ lw_g := tm_2 (List.mem_of_getElem? (i := 40) rfl) rfl
theorem wd_192 : (Cond.instanceMethod yX10_slice) ∈ lw_g := tm_2 (List.mem_of_getElem? (i := 41) rfl) rfl
theorem wd_193 : (Cond.selects RX10 yX10_slice yX10_slice) ∈ lw_g := tm_2 (List.mem_of_getElem? (i := 42) rfl) rfl
theorem wd_194 : (Cond.code yX10_slice cX10_slice 3 (some .int)) ∈ lw_g := tm_2 (List.mem_of_getElem? (i := 43) rfl) rfl
theorem wd_195 : (Cond.constant RX10 150 (65535)) ∈ lw_g := tm_2 (List.mem_of_getElem? (i := 44) rfl) rfl
theorem wd_196 : (Cond.methodLink RX10 127 yX5_isPacket) ∈ lw_g := tm_2 (List.mem_of_getElem? (i := 45) rfl) rfl
theorem wd_197 : (Cond.static yX5_isPacket) ∈ lw_g := tm_2 (List.mem_of_getElem? (i := 46) rfl) rfl
theorem wd_198 : (Cond.code yX5_isPacket cX5_isPacket 2 (some .boolean)) ∈ lw_g := tm_2 (List.mem_of_getElem? (i := 47) rfl) rfl
theorem wd_199 : (Cond.methodLink RX5 11 yX7_length) ∈ lw_g := tm_2 (List.mem_of_getElem? (i := 48) rfl) rfl
theorem wd_200 : (Cond.methodLink RX5 17 yX7_at) ∈ lw_g := tm_2 (List.mem_of_getElem? (i := 49) rfl) rfl
theorem wd_201 : (Cond.instanceMethod yX7_at) ∈ lw_g := tm_2 (List.mem_of_getElem? (i := 37) rfl) rfl
theorem wd_202 : (Cond.selects RX7 yX7_at yX7_at) ∈ lw_g := tm_2 (List.mem_of_getElem? (i := 38) rfl) rfl
theorem wd_203 : (Cond.code yX7_at cX7_at 2 (some .int)) ∈ lw_g := tm_2 (List.mem_of_getElem? (i := 39) rfl) rfl
theorem wd_204 : (Cond.methodLink RX5 23 yX7_number) ∈ lw_g := tm_2 (List.mem_of_getElem? (i := 50) rfl) rfl
theorem wd_205 : (Cond.instanceMethod yX7_number) ∈ lw_g := tm_2 (List.mem_of_getElem? (i := 51) rfl) rfl
theorem wd_206 : (Cond.selects RX7 yX7_number yX7_number) ∈ lw_g := tm_2 (List.mem_of_getElem? (i := 52) rfl) rfl
theorem wd_207 : (Cond.code yX7_number cX7_number 6 (some .long)) ∈ lw_g := tm_2 (List.mem_of_getElem? (i := 53) rfl) rfl
theorem wd_208 : (Cond.methodLink RX7 17 yX7_at) ∈ lw_g := tm_2 (List.mem_of_getElem? (i := 54) rfl) rfl
theorem wd_209 : (Cond.methodLink RX10 151 yX0_divide) ∈ lw_g := tm_2 (List.mem_of_getElem? (i := 55) rfl) rfl
theorem wd_210 : (Cond.instanceMethod yX0_divide) ∈ lw_g := tm_2 (List.mem_of_getElem? (i := 56) rfl) rfl
theorem wd_211 : (Cond.selects RX0 yX0_divide yX0_divide) ∈ lw_g := tm_2 (List.mem_of_getElem? (i := 57) rfl) rfl
theorem wd_212 : (Cond.code yX0_divide cX0_divide 8 (some .int)) ∈ lw_g := tm_2 (List.mem_of_getElem? (i := 58) rfl) rfl
theorem wd_213 : (Cond.methodLink RX0 27 yX8_write) ∈ lw_g := tm_2 (List.mem_of_getElem? (i := 59) rfl) rfl
theorem wd_214 : (Cond.instanceMethod yX8_write) ∈ lw_g := tm_2 (List.mem_of_getElem? (i := 60) rfl) rfl
theorem wd_215 : (Cond.selects RX8 yX8_write yX8_write) ∈ lw_g := tm_2 (List.mem_of_getElem? (i := 61) rfl) rfl
theorem wd_216 : (Cond.code yX8_write cX8_write 18 (some .int)) ∈ lw_g := tm_2 (List.mem_of_getElem? (i := 62) rfl) rfl
theorem wd_217 : (Cond.methodLink RX8 13 yX5_hasPorts) ∈ lw_g := tm_2 (List.mem_of_getElem? (i := 63) rfl) rfl
theorem wd_218 : (Cond.static yX5_hasPorts) ∈ lw_g := tm_2 (List.mem_of_getElem? (i := 64) rfl) rfl
theorem wd_219 : (Cond.code yX5_hasPorts cX5_hasPorts 2 (some .boolean)) ∈ lw_g := tm_2 (List.mem_of_getElem? (i := 65) rfl) rfl
theorem wd_220 : (Cond.methodLink RX8 19 yX8_trafficOf) ∈ lw_g := tm_2 (List.mem_of_getElem? (i := 66) rfl) rfl
theorem wd_221 : (Cond.static yX8_trafficOf) ∈ lw_g := tm_2 (List.mem_of_getElem? (i := 67) rfl) rfl
theorem wd_222 : (Cond.code yX8_trafficOf cX8_trafficOf 2 (some .int)) ∈ lw_g := tm_2 (List.mem_of_getElem? (i := 68) rfl) rfl
theorem wd_223 : (Cond.methodLink RX8 89 yX5_t) ∈ lw_g := tm_2 (List.mem_of_getElem? (i := 69) rfl) rfl
theorem wd_224 : (Cond.static yX5_t) ∈ lw_g := tm_2 (List.mem_of_getElem? (i := 70) rfl) rfl
theorem wd_225 : (Cond.code yX5_t cX5_t 1 (some .int)) ∈ lw_g := tm_2 (List.mem_of_getElem? (i := 71) rfl) rfl
theorem wd_226 : (Cond.constantLong RX5 27 (255)) ∈ lw_g := tm_2 (List.mem_of_getElem? (i := 72) rfl) rfl
theorem wd_227 : (Cond.methodLink RX8 92 yX5_l) ∈ lw_g := tm_2 (List.mem_of_getElem? (i := 73) rfl) rfl
theorem wd_228 : (Cond.static yX5_l) ∈ lw_g := tm_2 (List.mem_of_getElem? (i := 74) rfl) rfl
theorem wd_229 : (Cond.code yX5_l cX5_l 1 (some .int)) ∈ lw_g := tm_2 (List.mem_of_getElem? (i := 75) rfl) rfl
theorem wd_230 : (Cond.constantLong RX5 29 (1048575)) ∈ lw_g := tm_2 (List.mem_of_getElem? (i := 76) rfl) rfl
theorem wd_231 : (Cond.methodLink RX8 23 yX7_at) ∈ lw_g := tm_2 (List.mem_of_getElem? (i := 77) rfl) rfl
theorem wd_232 : (Cond.methodLink RX8 29 yX8_hopsOf) ∈ lw_g := tm_2 (List.mem_of_getElem? (i := 78) rfl) rfl
theorem wd_233 : (Cond.static yX8_hopsOf) ∈ lw_g := tm_2 (List.mem_of_getElem? (i := 79) rfl) rfl
theorem wd_234 : (Cond.code yX8_hopsOf cX8_hopsOf 1 (some .int)) ∈ lw_g := tm_2 (List.mem_of_getElem? (i := 80) rfl) rfl
theorem wd_235 : (Cond.methodLink RX8 32 yX7_number) ∈ lw_g := tm_2 (List.mem_of_getElem? (i := 81) rfl) rfl
theorem wd_236 : (Cond.methodLink RX8 36 yX4_ofSource) ∈ lw_g := tm_2 (List.mem_of_getElem? (i := 82) rfl) rfl
theorem wd_237 : (Cond.static yX4_ofSource) ∈ lw_g := tm_2 (List.mem_of_getElem? (i := 83) rfl) rfl
theorem wd_238 : (Cond.initialized RX4) ∈ lw_g := tm_1 (List.mem_of_getElem? (i := 11) rfl) rfl
theorem wd_239 : (Cond.code yX4_ofSource cX4_ofSource 5 (some .int)) ∈ lw_g := tm_2 (List.mem_of_getElem? (i := 84) rfl) rfl
theorem wd_240 : (Cond.methodLink RX4 15 yX4_ofOne) ∈ lw_g := tm_2 (List.mem_of_getElem? (i := 85) rfl) rfl
theorem wd_241 : (Cond.static yX4_ofOne) ∈ lw_g := tm_2 (List.mem_of_getElem? (i := 86) rfl) rfl
theorem wd_242 : (Cond.code yX4_ofOne cX4_ofOne 6 (some .int)) ∈ lw_g := tm_2 (List.mem_of_getElem? (i := 87) rfl) rfl
theorem wd_243 : (Cond.constantLong RX4 25 (-108086391056891904)) ∈ lw_g := tm_2 (List.mem_of_getElem? (i := 88) rfl) rfl
theorem wd_244 : (Cond.methodLink RX4 27 yX4_ofLast) ∈ lw_g := tm_2 (List.mem_of_getElem? (i := 89) rfl) rfl
theorem wd_245 : (Cond.static yX4_ofLast) ∈ lw_g := tm_2 (List.mem_of_getElem? (i := 90) rfl) rfl
theorem wd_246 : (Cond.code yX4_ofLast cX4_ofLast 4 (some .int)) ∈ lw_g := tm_2 (List.mem_of_getElem? (i := 91) rfl) rfl
theorem wd_247 : (Cond.constantLong RX4 39 (16776704)) ∈ lw_g := tm_2 (List.mem_of_getElem? (i := 96) rfl) rfl
theorem wd_248 : (Cond.methodLink RX4 35 yX3_own) ∈ lw_g := tm_2 (List.mem_of_getElem? (i := 92) rfl) rfl
theorem wd_249 : (Cond.instanceMethod yX3_own) ∈ lw_g := tm_2 (List.mem_of_getElem? (i := 93) rfl) rfl
theorem wd_250 : (Cond.selects RX3 yX3_own yX3_own) ∈ lw_g := tm_2 (List.mem_of_getElem? (i := 94) rfl) rfl
theorem wd_251 : (Cond.code yX3_own cX3_own 2 (some .long)) ∈ lw_g := tm_2 (List.mem_of_getElem? (i := 95) rfl) rfl
theorem wd_252 : (Cond.methodLink RX4 31 yX3_least) ∈ lw_g := tm_2 (List.mem_of_getElem? (i := 97) rfl) rfl
theorem wd_253 : (Cond.instanceMethod yX3_least) ∈ lw_g := tm_2 (List.mem_of_getElem? (i := 98) rfl) rfl
theorem wd_254 : (Cond.selects RX3 yX3_least yX3_least) ∈ lw_g := tm_2 (List.mem_of_getElem? (i := 99) rfl) rfl
theorem wd_255 : (Cond.code yX3_least cX3_least 4 (some .int)) ∈ lw_g := tm_2 (List.mem_of_getElem? (i := 100) rfl) rfl
theorem wd_256 : (Cond.methodLink RX8 42 yX4_ofGoal) ∈ lw_g := tm_2 (List.mem_of_getElem? (i := 101) rfl) rfl
theorem wd_257 : (Cond.static yX4_ofGoal) ∈ lw_g := tm_2 (List.mem_of_getElem? (i := 102) rfl) rfl
theorem wd_258 : (Cond.code yX4_ofGoal cX4_ofGoal 5 (some .int)) ∈ lw_g := tm_2 (List.mem_of_getElem? (i := 103) rfl) rfl
theorem wd_259 : (Cond.constantLong RX4 19 (255)) ∈ lw_g := tm_2 (List.mem_of_getElem? (i := 104) rfl) rfl
theorem wd_260 : (Cond.methodLink RX4 21 yX4_ofMany) ∈ lw_g := tm_2 (List.mem_of_getElem? (i := 105) rfl) rfl
theorem wd_261 : (Cond.static yX4_ofMany) ∈ lw_g := tm_2 (List.mem_of_getElem? (i := 106) rfl) rfl
theorem wd_262 : (Cond.code yX4_ofMany cX4_ofMany 4 (some .int)) ∈ lw_g := tm_2 (List.mem_of_getElem? (i := 107) rfl) rfl
theorem wd_263 : (Cond.constantLong RX4 41 (281474976710655)) ∈ lw_g := tm_2 (List.mem_of_getElem? (i := 108) rfl) rfl
theorem wd_264 : (Cond.constantLong RX4 43 (2)) ∈ lw_g := tm_2 (List.mem_of_getElem? (i := 109) rfl) rfl
theorem wd_265 : (Cond.methodLink RX8 45 yX8_contextOf) ∈ lw_g := tm_2 (List.mem_of_getElem? (i := 110) rfl) rfl
theorem wd_266 : (Cond.instanceMethod yX8_contextOf) ∈ lw_g := tm_2 (List.mem_of_getElem? (i := 112) rfl) rfl
theorem wd_267 : (Cond.selects RX8 yX8_contextOf yX8_contextOf) ∈ lw_g := tm_0 (List.mem_of_getElem? (i := 0) rfl) rfl
theorem wd_268 : (Cond.code yX8_contextOf cX8_contextOf 4 (some .int)) ∈ lw_g := tm_2 (List.mem_of_getElem? (i := 113) rfl) rfl
theorem wd_269 : (Cond.methodLink RX8 79 yX4_usesContext) ∈ lw_g := tm_2 (List.mem_of_getElem? (i := 114) rfl) rfl
theorem wd_270 : (Cond.static yX4_usesContext) ∈ lw_g := tm_2 (List.mem_of_getElem? (i := 115) rfl) rfl
theorem wd_271 : (Cond.code yX4_usesContext cX4_usesContext 1 (some .boolean)) ∈ lw_g := tm_2 (List.mem_of_getElem? (i := 116) rfl) rfl
theorem wd_272 : (Cond.methodLink RX8 83 yX3_least) ∈ lw_g := tm_2 (List.mem_of_getElem? (i := 117) rfl) rfl
theorem wd_273 : (Cond.methodLink RX8 49 yX7_shorten) ∈ lw_g := tm_2 (List.mem_of_getElem? (i := 118) rfl) rfl
theorem wd_274 : (Cond.instanceMethod yX7_shorten) ∈ lw_g := tm_2 (List.mem_of_getElem? (i := 22) rfl) rfl
theorem wd_275 : (Cond.selects RX7 yX7_shorten yX7_shorten) ∈ lw_g := tm_2 (List.mem_of_getElem? (i := 23) rfl) rfl
theorem wd_276 : (Cond.code yX7_shorten cX7_shorten 2 none) ∈ lw_g := tm_2 (List.mem_of_getElem? (i := 24) rfl) rfl
theorem wd_277 : (Cond.methodLink RX8 53 yX7_add) ∈ lw_g := tm_2 (List.mem_of_getElem? (i := 119) rfl) rfl
theorem wd_278 : (Cond.methodLink RX8 56 yX8_writeTraffic) ∈ lw_g := tm_2 (List.mem_of_getElem? (i := 120) rfl) rfl
theorem wd_279 : (Cond.static yX8_writeTraffic) ∈ lw_g := tm_2 (List.mem_of_getElem? (i := 121) rfl) rfl
theorem wd_280 : (Cond.code yX8_writeTraffic cX8_writeTraffic 6 none) ∈ lw_g := tm_2 (List.mem_of_getElem? (i := 122) rfl) rfl
theorem wd_281 : (Cond.methodLink RX8 95 yX7_addNumber) ∈ lw_g := tm_2 (List.mem_of_getElem? (i := 123) rfl) rfl
theorem wd_282 : (Cond.methodLink RX8 60 yX8_writeAddress) ∈ lw_g := tm_2 (List.mem_of_getElem? (i := 124) rfl) rfl
theorem wd_283 : (Cond.static yX8_writeAddress) ∈ lw_g := tm_2 (List.mem_of_getElem? (i := 125) rfl) rfl
theorem wd_284 : (Cond.code yX8_writeAddress cX8_writeAddress 7 none) ∈ lw_g := tm_2 (List.mem_of_getElem? (i := 126) rfl) rfl
theorem wd_285 : (Cond.methodLink RX8 99 yX4_bytesOf) ∈ lw_g := tm_2 (List.mem_of_getElem? (i := 127) rfl) rfl
theorem wd_286 : (Cond.static yX4_bytesOf) ∈ lw_g := tm_2 (List.mem_of_getElem? (i := 128) rfl) rfl
theorem wd_287 : (Cond.code yX4_bytesOf cX4_bytesOf 1 (some .int)) ∈ lw_g := tm_2 (List.mem_of_getElem? (i := 129) rfl) rfl
theorem wd_288 : (Cond.fieldLink RX4 7 "ShortFrames$Mode" "BYTES" "[I") ∈ lw_g := tm_2 (List.mem_of_getElem? (i := 130) rfl) rfl
theorem wd_289 : (Cond.methodLink RX8 64 yX8_writePorts) ∈ lw_g := tm_2 (List.mem_of_getElem? (i := 132) rfl) rfl
theorem wd_290 : (Cond.static yX8_writePorts) ∈ lw_g := tm_2 (List.mem_of_getElem? (i := 133) rfl) rfl
theorem wd_291 : (Cond.code yX8_writePorts cX8_writePorts 4 none) ∈ lw_g := tm_2 (List.mem_of_getElem? (i := 134) rfl) rfl
theorem wd_292 : (Cond.methodLink RX8 68 yX7_length) ∈ lw_g := tm_2 (List.mem_of_getElem? (i := 135) rfl) rfl
theorem wd_293 : (Cond.methodLink RX8 72 yX5_headOf) ∈ lw_g := tm_2 (List.mem_of_getElem? (i := 136) rfl) rfl
theorem wd_294 : (Cond.static yX5_headOf) ∈ lw_g := tm_2 (List.mem_of_getElem? (i := 137) rfl) rfl
theorem wd_295 : (Cond.code yX5_headOf cX5_headOf 1 (some .int)) ∈ lw_g := tm_2 (List.mem_of_getElem? (i := 138) rfl) rfl
theorem wd_296 : (Cond.methodLink RX5 31 yX5_hasPorts) ∈ lw_g := tm_2 (List.mem_of_getElem? (i := 139) rfl) rfl
theorem wd_297 : (Cond.methodLink RX8 75 yX7_addAll) ∈ lw_g := tm_2 (List.mem_of_getElem? (i := 140) rfl) rfl
theorem wd_298 : (Cond.instanceMethod yX7_addAll) ∈ lw_g := tm_2 (List.mem_of_getElem? (i := 141) rfl) rfl
theorem wd_299 : (Cond.selects RX7 yX7_addAll yX7_addAll) ∈ lw_g := tm_2 (List.mem_of_getElem? (i := 142) rfl) rfl
theorem wd_300 : (Cond.code yX7_addAll cX7_addAll 5 none) ∈ lw_g := tm_2 (List.mem_of_getElem? (i := 143) rfl) rfl
theorem wd_301 : (Cond.methodLink RX0 33 yX7_length) ∈ lw_g := tm_2 (List.mem_of_getElem? (i := 144) rfl) rfl
theorem wd_302 : (Cond.methodLink RX0 37 yX1_clear) ∈ lw_g := tm_2 (List.mem_of_getElem? (i := 145) rfl) rfl
theorem wd_303 : (Cond.instanceMethod yX1_clear) ∈ lw_g := tm_2 (List.mem_of_getElem? (i := 146) rfl) rfl
theorem wd_304 : (Cond.selects RX1 yX1_clear yX1_clear) ∈ lw_g := tm_2 (List.mem_of_getElem? (i := 147) rfl) rfl
theorem wd_305 : (Cond.code yX1_clear cX1_clear 1 none) ∈ lw_g := tm_2 (List.mem_of_getElem? (i := 148) rfl) rfl
theorem wd_306 : (Cond.methodLink RX0 42 yX1_store) ∈ lw_g := tm_2 (List.mem_of_getElem? (i := 149) rfl) rfl
theorem wd_307 : (Cond.instanceMethod yX1_store) ∈ lw_g := tm_2 (List.mem_of_getElem? (i := 150) rfl) rfl
theorem wd_308 : (Cond.selects RX1 yX1_store yX1_store) ∈ lw_g := tm_2 (List.mem_of_getElem? (i := 151) rfl) rfl
theorem wd_309 : (Cond.code yX1_store cX1_store 3 (some .boolean)) ∈ lw_g := tm_2 (List.mem_of_getElem? (i := 152) rfl) rfl
theorem wd_310 : (Cond.methodLink RX1 24 yX7_become) ∈ lw_g := tm_2 (List.mem_of_getElem? (i := 153) rfl) rfl
theorem wd_311 : (Cond.instanceMethod yX7_become) ∈ lw_g := tm_2 (List.mem_of_getElem? (i := 154) rfl) rfl
theorem wd_312 : (Cond.selects RX7 yX7_become yX7_become) ∈ lw_g := tm_2 (List.mem_of_getElem? (i := 155) rfl) rfl
theorem wd_313 : (Cond.code yX7_become cX7_become 2 none) ∈ lw_g := tm_2 (List.mem_of_getElem? (i := 156) rfl) rfl
theorem wd_314 : (Cond.methodLink RX7 29 yX7_length) ∈ lw_g := tm_2 (List.mem_of_getElem? (i := 157) rfl) rfl
theorem wd_315 : (Cond.methodLink RX7 32 yX7_addAll) ∈ lw_g := tm_2 (List.mem_of_getElem? (i := 158) rfl) rfl
theorem wd_316 : (Cond.methodLink RX0 46 yX1_size) ∈ lw_g := tm_2 (List.mem_of_getElem? (i := 159) rfl) rfl
theorem wd_317 : (Cond.instanceMethod yX1_size) ∈ lw_g := tm_2 (List.mem_of_getElem? (i := 160) rfl) rfl
theorem wd_318 : (Cond.selects RX1 yX1_size yX1_size) ∈ lw_g := tm_2 (List.mem_of_getElem? (i := 161) rfl) rfl
theorem wd_319 : (Cond.code yX1_size cX1_size 1 (some .int)) ∈ lw_g := tm_2 (List.mem_of_getElem? (i := 162) rfl) rfl
theorem wd_320 : (Cond.methodLink RX0 49 yX0_begin) ∈ lw_g := tm_2 (List.mem_of_getElem? (i := 163) rfl) rfl
theorem wd_321 : (Cond.instanceMethod yX0_begin) ∈ lw_g := tm_2 (List.mem_of_getElem? (i := 165) rfl) rfl
theorem wd_322 : (Cond.selects RX0 yX0_begin yX0_begin) ∈ lw_g := tm_0 (List.mem_of_getElem? (i := 1) rfl) rfl
theorem wd_323 : (Cond.code yX0_begin cX0_begin 4 none) ∈ lw_g := tm_2 (List.mem_of_getElem? (i := 166) rfl) rfl
theorem wd_324 : (Cond.methodLink RX0 70 yX7_shorten) ∈ lw_g := tm_2 (List.mem_of_getElem? (i := 167) rfl) rfl
theorem wd_325 : (Cond.methodLink RX0 73 yX7_addNumber) ∈ lw_g := tm_2 (List.mem_of_getElem? (i := 168) rfl) rfl
theorem wd_326 : (Cond.methodLink RX0 53 yX7_addAll) ∈ lw_g := tm_2 (List.mem_of_getElem? (i := 169) rfl) rfl
theorem wd_327 : (Cond.methodLink RX0 57 yX5_headOf) ∈ lw_g := tm_2 (List.mem_of_getElem? (i := 170) rfl) rfl
theorem wd_328 : (Cond.methodLink RX0 63 yX0_divideRest) ∈ lw_g := tm_2 (List.mem_of_getElem? (i := 171) rfl) rfl
theorem wd_329 : (Cond.instanceMethod yX0_divideRest) ∈ lw_g := tm_2 (List.mem_of_getElem? (i := 173) rfl) rfl
theorem wd_330 : (Cond.selects RX0 yX0_divideRest yX0_divideRest) ∈ lw_g := tm_0 (List.mem_of_getElem? (i := 2) rfl) rfl
theorem wd_331 : (Cond.code yX0_divideRest cX0_divideRest 11 (some .int)) ∈ lw_g := tm_2 (List.mem_of_getElem? (i := 174) rfl) rfl
theorem wd_332 : (Cond.methodLink RX0 67 yX7_add) ∈ lw_g := tm_2 (List.mem_of_getElem? (i := 175) rfl) rfl
theorem wd_333 : (Cond.methodLink RL 73 yX10_hear) ∈ lw_g := tm_2 (List.mem_of_getElem? (i := 182) rfl) rfl
theorem wd_334 : (Cond.instanceMethod yX10_hear) ∈ lw_g := tm_2 (List.mem_of_getElem? (i := 183) rfl) rfl
theorem wd_335 : (Cond.selects RX10 yX10_hear yX10_hear) ∈ lw_g := tm_2 (List.mem_of_getElem? (i := 184) rfl) rfl
theorem wd_336 : (Cond.code yX10_hear cX10_hear 2 (some .int)) ∈ lw_g := tm_2 (List.mem_of_getElem? (i := 185) rfl) rfl
theorem wd_337 : (Cond.methodLink RX10 155 yX1_has) ∈ lw_g := tm_2 (List.mem_of_getElem? (i := 186) rfl) rfl
theorem wd_338 : (Cond.instanceMethod yX1_has) ∈ lw_g := tm_2 (List.mem_of_getElem? (i := 187) rfl) rfl
theorem wd_339 : (Cond.selects RX1 yX1_has yX1_has) ∈ lw_g := tm_2 (List.mem_of_getElem? (i := 188) rfl) rfl
theorem wd_340 : (Cond.code yX1_has cX1_has 2 (some .boolean)) ∈ lw_g := tm_2 (List.mem_of_getElem? (i := 189) rfl) rfl
theorem wd_341 : (Cond.methodLink RX10 156 yX1_at) ∈ lw_g := tm_2 (List.mem_of_getElem? (i := 190) rfl) rfl
theorem wd_342 : (Cond.instanceMethod yX1_at) ∈ lw_g := tm_2 (List.mem_of_getElem? (i := 191) rfl) rfl
theorem wd_343 : (Cond.selects RX1 yX1_at yX1_at) ∈ lw_g := tm_2 (List.mem_of_getElem? (i := 192) rfl) rfl
theorem wd_344 : (Cond.code yX1_at cX1_at 2 (some (.object "ShortFrames$Row"))) ∈ lw_g := tm_2 (List.mem_of_getElem? (i := 193) rfl) rfl
theorem wd_345 : (Cond.methodLink RX10 167 yX6_listen) ∈ lw_g := tm_2 (List.mem_of_getElem? (i := 194) rfl) rfl
theorem wd_346 : (Cond.instanceMethod yX6_listen) ∈ lw_g := tm_2 (List.mem_of_getElem? (i := 195) rfl) rfl
theorem wd_347 : (Cond.selects RX6 yX6_listen yX6_listen) ∈ lw_g := tm_2 (List.mem_of_getElem? (i := 196) rfl) rfl
theorem wd_348 : (Cond.code yX6_listen cX6_listen 5 (some .int)) ∈ lw_g := tm_2 (List.mem_of_getElem? (i := 197) rfl) rfl
theorem wd_349 : (Cond.fieldLink RX6 57 "ShortFrames$Receiver" "whole" "I") ∈ lw_g := tm_1 (List.mem_of_getElem? (i := 183) rfl) rfl
theorem wd_350 : (Cond.fieldLink RX6 60 "ShortFrames$Receiver" "dropped" "I") ∈ lw_g := tm_1 (List.mem_of_getElem? (i := 185) rfl) rfl
theorem wd_351 : (Cond.methodLink RX6 37 yX7_at) ∈ lw_g := tm_2 (List.mem_of_getElem? (i := 198) rfl) rfl
theorem wd_352 : (Cond.methodLink RX6 43 yX6_hearsAll) ∈ lw_g := tm_2 (List.mem_of_getElem? (i := 199) rfl) rfl
theorem wd_353 : (Cond.instanceMethod yX6_hearsAll) ∈ lw_g := tm_2 (List.mem_of_getElem? (i := 201) rfl) rfl
theorem wd_354 : (Cond.selects RX6 yX6_hearsAll yX6_hearsAll) ∈ lw_g := tm_0 (List.mem_of_getElem? (i := 3) rfl) rfl
theorem wd_355 : (Cond.code yX6_hearsAll cX6_hearsAll 3 (some .int)) ∈ lw_g := tm_2 (List.mem_of_getElem? (i := 202) rfl) rfl
theorem wd_356 : (Cond.methodLink RX6 65 yX9_read) ∈ lw_g := tm_2 (List.mem_of_getElem? (i := 203) rfl) rfl
theorem wd_357 : (Cond.instanceMethod yX9_read) ∈ lw_g := tm_2 (List.mem_of_getElem? (i := 204) rfl) rfl
theorem wd_358 : (Cond.selects RX9 yX9_read yX9_read) ∈ lw_g := tm_2 (List.mem_of_getElem? (i := 205) rfl) rfl
theorem wd_359 : (Cond.code yX9_read cX9_read 5 (some .boolean)) ∈ lw_g := tm_2 (List.mem_of_getElem? (i := 206) rfl) rfl
theorem wd_360 : (Cond.fieldLink RX9 50 "ShortFrames$Unfolder" "at" "I") ∈ lw_g := tm_1 (List.mem_of_getElem? (i := 74) rfl) rfl
theorem wd_361 : (Cond.fieldLink RX9 24 "ShortFrames$Unfolder" "fault" "I") ∈ lw_g := tm_1 (List.mem_of_getElem? (i := 75) rfl) rfl
theorem wd_362 : (Cond.fieldLink RX9 28 "ShortFrames$Unfolder" "place" "I") ∈ lw_g := tm_1 (List.mem_of_getElem? (i := 76) rfl) rfl
theorem wd_363 : (Cond.fieldLink RX9 53 "ShortFrames$Unfolder" "contexts" "I") ∈ lw_g := tm_1 (List.mem_of_getElem? (i := 79) rfl) rfl
theorem wd_364 : (Cond.fieldLink RX9 44 "ShortFrames$Unfolder" "portsForm" "I") ∈ lw_g := tm_1 (List.mem_of_getElem? (i := 80) rfl) rfl
theorem wd_365 : (Cond.fieldLink RX9 47 "ShortFrames$Unfolder" "headBytes" "I") ∈ lw_g := tm_1 (List.mem_of_getElem? (i := 81) rfl) rfl
theorem wd_366 : (Cond.methodLink RX9 56 yX7_becomeZeros) ∈ lw_g := tm_2 (List.mem_of_getElem? (i := 207) rfl) rfl
theorem wd_367 : (Cond.instanceMethod yX7_becomeZeros) ∈ lw_g := tm_2 (List.mem_of_getElem? (i := 208) rfl) rfl
theorem wd_368 : (Cond.selects RX7 yX7_becomeZeros yX7_becomeZeros) ∈ lw_g := tm_2 (List.mem_of_getElem? (i := 209) rfl) rfl
theorem wd_369 : (Cond.code yX7_becomeZeros cX7_becomeZeros 3 none) ∈ lw_g := tm_2 (List.mem_of_getElem? (i := 210) rfl) rfl
theorem wd_370 : (Cond.methodLink RX9 59 yX9_readsForm) ∈ lw_g := tm_2 (List.mem_of_getElem? (i := 211) rfl) rfl
theorem wd_371 : (Cond.instanceMethod yX9_readsForm) ∈ lw_g := tm_2 (List.mem_of_getElem? (i := 213) rfl) rfl
theorem wd_372 : (Cond.selects RX9 yX9_readsForm yX9_readsForm) ∈ lw_g := tm_0 (List.mem_of_getElem? (i := 4) rfl) rfl
theorem wd_373 : (Cond.code yX9_readsForm cX9_readsForm 2 (some .boolean)) ∈ lw_g := tm_2 (List.mem_of_getElem? (i := 214) rfl) rfl
theorem wd_374 : (Cond.fieldLink RX9 98 "ShortFrames$Unfolder" "firstByte" "I") ∈ lw_g := tm_1 (List.mem_of_getElem? (i := 77) rfl) rfl
theorem wd_375 : (Cond.fieldLink RX9 35 "ShortFrames$Unfolder" "secondByte" "I") ∈ lw_g := tm_1 (List.mem_of_getElem? (i := 78) rfl) rfl
theorem wd_376 : (Cond.methodLink RX9 101 yX9_has) ∈ lw_g := tm_2 (List.mem_of_getElem? (i := 215) rfl) rfl
theorem wd_377 : (Cond.instanceMethod yX9_has) ∈ lw_g := tm_2 (List.mem_of_getElem? (i := 217) rfl) rfl
theorem wd_378 : (Cond.selects RX9 yX9_has yX9_has) ∈ lw_g := tm_0 (List.mem_of_getElem? (i := 5) rfl) rfl
theorem wd_379 : (Cond.code yX9_has cX9_has 3 (some .boolean)) ∈ lw_g := tm_2 (List.mem_of_getElem? (i := 218) rfl) rfl
theorem wd_380 : (Cond.methodLink RX9 88 yX7_length) ∈ lw_g := tm_2 (List.mem_of_getElem? (i := 219) rfl) rfl
theorem wd_381 : (Cond.methodLink RX9 91 yX9_fails) ∈ lw_g := tm_2 (List.mem_of_getElem? (i := 220) rfl) rfl
theorem wd_382 : (Cond.instanceMethod yX9_fails) ∈ lw_g := tm_2 (List.mem_of_getElem? (i := 222) rfl) rfl
theorem wd_383 : (Cond.selects RX9 yX9_fails yX9_fails) ∈ lw_g := tm_0 (List.mem_of_getElem? (i := 6) rfl) rfl
theorem wd_384 : (Cond.code yX9_fails cX9_fails 3 (some .boolean)) ∈ lw_g := tm_2 (List.mem_of_getElem? (i := 223) rfl) rfl
theorem wd_385 : (Cond.methodLink RX9 95 yX7_at) ∈ lw_g := tm_2 (List.mem_of_getElem? (i := 224) rfl) rfl
theorem wd_386 : (Cond.methodLink RX9 104 yX9_next) ∈ lw_g := tm_2 (List.mem_of_getElem? (i := 225) rfl) rfl
theorem wd_387 : (Cond.instanceMethod yX9_next) ∈ lw_g := tm_2 (List.mem_of_getElem? (i := 227) rfl) rfl
theorem wd_388 : (Cond.selects RX9 yX9_next yX9_next) ∈ lw_g := tm_0 (List.mem_of_getElem? (i := 7) rfl) rfl
theorem wd_389 : (Cond.code yX9_next cX9_next 3 (some .int)) ∈ lw_g := tm_2 (List.mem_of_getElem? (i := 228) rfl) rfl
theorem wd_390 : (Cond.methodLink RX9 41 yX9_goal) ∈ lw_g := tm_2 (List.mem_of_getElem? (i := 229) rfl) rfl
theorem wd_391 : (Cond.instanceMethod yX9_goal) ∈ lw_g := tm_2 (List.mem_of_getElem? (i := 231) rfl) rfl
theorem wd_392 : (Cond.selects RX9 yX9_goal yX9_goal) ∈ lw_g := tm_0 (List.mem_of_getElem? (i := 8) rfl) rfl
theorem wd_393 : (Cond.code yX9_goal cX9_goal 1 (some .int)) ∈ lw_g := tm_2 (List.mem_of_getElem? (i := 232) rfl) rfl
theorem wd_394 : (Cond.methodLink RX9 63 yX9_readsContexts) ∈ lw_g := tm_2 (List.mem_of_getElem? (i := 233) rfl) rfl
theorem wd_395 : (Cond.instanceMethod yX9_readsContexts) ∈ lw_g := tm_2 (List.mem_of_getElem? (i := 235) rfl) rfl
theorem wd_396 : (Cond.selects RX9 yX9_readsContexts yX9_readsContexts) ∈ lw_g := tm_0 (List.mem_of_getElem? (i := 9) rfl) rfl
theorem wd_397 : (Cond.code yX9_readsContexts cX9_readsContexts 5 (some .boolean)) ∈ lw_g := tm_2 (List.mem_of_getElem? (i := 236) rfl) rfl
theorem wd_398 : (Cond.methodLink RX9 38 yX9_source) ∈ lw_g := tm_2 (List.mem_of_getElem? (i := 237) rfl) rfl
theorem wd_399 : (Cond.instanceMethod yX9_source) ∈ lw_g := tm_2 (List.mem_of_getElem? (i := 239) rfl) rfl
theorem wd_400 : (Cond.selects RX9 yX9_source yX9_source) ∈ lw_g := tm_0 (List.mem_of_getElem? (i := 10) rfl) rfl
theorem wd_401 : (Cond.code yX9_source cX9_source 1 (some .int)) ∈ lw_g := tm_3 (List.mem_of_getElem? (i := 0) rfl) rfl
theorem wd_402 : (Cond.methodLink RX9 110 yX4_usesContext) ∈ lw_g := tm_3 (List.mem_of_getElem? (i := 1) rfl) rfl
theorem wd_403 : (Cond.methodLink RX9 114 yX3_isThere) ∈ lw_g := tm_3 (List.mem_of_getElem? (i := 2) rfl) rfl
theorem wd_404 : (Cond.methodLink RX9 66 yX9_readsTraffic) ∈ lw_g := tm_3 (List.mem_of_getElem? (i := 6) rfl) rfl
theorem wd_405 : (Cond.instanceMethod yX9_readsTraffic) ∈ lw_g := tm_3 (List.mem_of_getElem? (i := 8) rfl) rfl
theorem wd_406 : (Cond.selects RX9 yX9_readsTraffic yX9_readsTraffic) ∈ lw_g := tm_0 (List.mem_of_getElem? (i := 11) rfl) rfl
theorem wd_407 : (Cond.code yX9_readsTraffic cX9_readsTraffic 9 (some .boolean)) ∈ lw_g := tm_3 (List.mem_of_getElem? (i := 9) rfl) rfl
theorem wd_408 : (Cond.constantLong RX9 123 (1048575)) ∈ lw_g := tm_3 (List.mem_of_getElem? (i := 15) rfl) rfl
theorem wd_409 : (Cond.methodLink RX9 31 yX9_traffic) ∈ lw_g := tm_3 (List.mem_of_getElem? (i := 10) rfl) rfl
theorem wd_410 : (Cond.instanceMethod yX9_traffic) ∈ lw_g := tm_3 (List.mem_of_getElem? (i := 12) rfl) rfl
theorem wd_411 : (Cond.selects RX9 yX9_traffic yX9_traffic) ∈ lw_g := tm_0 (List.mem_of_getElem? (i := 12) rfl) rfl
theorem wd_412 : (Cond.code yX9_traffic cX9_traffic 1 (some .int)) ∈ lw_g := tm_3 (List.mem_of_getElem? (i := 13) rfl) rfl
theorem wd_413 : (Cond.methodLink RX9 119 yX7_number) ∈ lw_g := tm_3 (List.mem_of_getElem? (i := 14) rfl) rfl
theorem wd_414 : (Cond.methodLink RX9 125 yX5_firstFour) ∈ lw_g := tm_3 (List.mem_of_getElem? (i := 16) rfl) rfl
theorem wd_415 : (Cond.methodLink RX9 128 yX7_setNumber) ∈ lw_g := tm_3 (List.mem_of_getElem? (i := 20) rfl) rfl
theorem wd_416 : (Cond.instanceMethod yX7_setNumber) ∈ lw_g := tm_3 (List.mem_of_getElem? (i := 21) rfl) rfl
theorem wd_417 : (Cond.selects RX7 yX7_setNumber yX7_setNumber) ∈ lw_g := tm_3 (List.mem_of_getElem? (i := 22) rfl) rfl
theorem wd_418 : (Cond.code yX7_setNumber cX7_setNumber 6 none) ∈ lw_g := tm_3 (List.mem_of_getElem? (i := 23) rfl) rfl
theorem wd_419 : (Cond.methodLink RX7 21 yX7_set) ∈ lw_g := tm_3 (List.mem_of_getElem? (i := 24) rfl) rfl
theorem wd_420 : (Cond.instanceMethod yX7_set) ∈ lw_g := tm_3 (List.mem_of_getElem? (i := 25) rfl) rfl
theorem wd_421 : (Cond.selects RX7 yX7_set yX7_set) ∈ lw_g := tm_3 (List.mem_of_getElem? (i := 26) rfl) rfl
theorem wd_422 : (Cond.code yX7_set cX7_set 3 none) ∈ lw_g := tm_3 (List.mem_of_getElem? (i := 27) rfl) rfl
theorem wd_423 : (Cond.methodLink RX9 69 yX9_readsKind) ∈ lw_g := tm_3 (List.mem_of_getElem? (i := 28) rfl) rfl
theorem wd_424 : (Cond.instanceMethod yX9_readsKind) ∈ lw_g := tm_3 (List.mem_of_getElem? (i := 30) rfl) rfl
theorem wd_425 : (Cond.selects RX9 yX9_readsKind yX9_readsKind) ∈ lw_g := tm_0 (List.mem_of_getElem? (i := 13) rfl) rfl
theorem wd_426 : (Cond.code yX9_readsKind cX9_readsKind 2 (some .boolean)) ∈ lw_g := tm_3 (List.mem_of_getElem? (i := 31) rfl) rfl
theorem wd_427 : (Cond.methodLink RX9 132 yX9_ports) ∈ lw_g := tm_3 (List.mem_of_getElem? (i := 32) rfl) rfl
theorem wd_428 : (Cond.instanceMethod yX9_ports) ∈ lw_g := tm_3 (List.mem_of_getElem? (i := 34) rfl) rfl
theorem wd_429 : (Cond.selects RX9 yX9_ports yX9_ports) ∈ lw_g := tm_0 (List.mem_of_getElem? (i := 14) rfl) rfl
theorem wd_430 : (Cond.code yX9_ports cX9_ports 1 (some .boolean)) ∈ lw_g := tm_3 (List.mem_of_getElem? (i := 35) rfl) rfl
theorem wd_431 : (Cond.methodLink RX9 136 yX7_set) ∈ lw_g := tm_3 (List.mem_of_getElem? (i := 36) rfl) rfl
theorem wd_432 : (Cond.methodLink RX9 72 yX9_readsHops) ∈ lw_g := tm_3 (List.mem_of_getElem? (i := 37) rfl) rfl
theorem wd_433 : (Cond.instanceMethod yX9_readsHops) ∈ lw_g := tm_3 (List.mem_of_getElem? (i := 39) rfl) rfl
theorem wd_434 : (Cond.selects RX9 yX9_readsHops yX9_readsHops) ∈ lw_g := tm_0 (List.mem_of_getElem? (i := 15) rfl) rfl
theorem wd_435 : (Cond.code yX9_readsHops cX9_readsHops 4 (some .boolean)) ∈ lw_g := tm_3 (List.mem_of_getElem? (i := 40) rfl) rfl
theorem wd_436 : (Cond.methodLink RX9 77 yX9_readsAddress) ∈ lw_g := tm_3 (List.mem_of_getElem? (i := 41) rfl) rfl
theorem wd_437 : (Cond.instanceMethod yX9_readsAddress) ∈ lw_g := tm_3 (List.mem_of_getElem? (i := 43) rfl) rfl
theorem wd_438 : (Cond.selects RX9 yX9_readsAddress yX9_readsAddress) ∈ lw_g := tm_0 (List.mem_of_getElem? (i := 16) rfl) rfl
theorem wd_439 : (Cond.code yX9_readsAddress cX9_readsAddress 7 (some .boolean)) ∈ lw_g := tm_3 (List.mem_of_getElem? (i := 44) rfl) rfl
theorem wd_440 : (Cond.constantLong RX9 143 (65282)) ∈ lw_g := tm_3 (List.mem_of_getElem? (i := 46) rfl) rfl
theorem wd_441 : (Cond.constantLong RX9 145 (65280)) ∈ lw_g := tm_3 (List.mem_of_getElem? (i := 47) rfl) rfl
theorem wd_442 : (Cond.methodLink RX9 140 yX4_bytesOf) ∈ lw_g := tm_3 (List.mem_of_getElem? (i := 45) rfl) rfl
theorem wd_443 : (Cond.methodLink RX9 147 yX9_firstEight) ∈ lw_g := tm_3 (List.mem_of_getElem? (i := 48) rfl) rfl
theorem wd_444 : (Cond.instanceMethod yX9_firstEight) ∈ lw_g := tm_3 (List.mem_of_getElem? (i := 50) rfl) rfl
theorem wd_445 : (Cond.selects RX9 yX9_firstEight yX9_firstEight) ∈ lw_g := tm_0 (List.mem_of_getElem? (i := 17) rfl) rfl
theorem wd_446 : (Cond.code yX9_firstEight cX9_firstEight 3 (some .long)) ∈ lw_g := tm_3 (List.mem_of_getElem? (i := 51) rfl) rfl
theorem wd_447 : (Cond.constantLong RX9 154 (-108086391056891904)) ∈ lw_g := tm_3 (List.mem_of_getElem? (i := 52) rfl) rfl
theorem wd_448 : (Cond.methodLink RX9 156 yX3_contextOf) ∈ lw_g := tm_3 (List.mem_of_getElem? (i := 53) rfl) rfl
theorem wd_449 : (Cond.instanceMethod yX3_contextOf) ∈ lw_g := tm_3 (List.mem_of_getElem? (i := 54) rfl) rfl
theorem wd_450 : (Cond.selects RX3 yX3_contextOf yX3_contextOf) ∈ lw_g := tm_3 (List.mem_of_getElem? (i := 55) rfl) rfl
theorem wd_451 : (Cond.code yX3_contextOf cX3_contextOf 2 (some .long)) ∈ lw_g := tm_3 (List.mem_of_getElem? (i := 56) rfl) rfl
theorem wd_452 : (Cond.methodLink RX3 26 yX3_isThere) ∈ lw_g := tm_3 (List.mem_of_getElem? (i := 57) rfl) rfl
theorem wd_453 : (Cond.methodLink RX9 150 yX9_lastEight) ∈ lw_g := tm_3 (List.mem_of_getElem? (i := 58) rfl) rfl
theorem wd_454 : (Cond.instanceMethod yX9_lastEight) ∈ lw_g := tm_3 (List.mem_of_getElem? (i := 60) rfl) rfl
theorem wd_455 : (Cond.selects RX9 yX9_lastEight yX9_lastEight) ∈ lw_g := tm_0 (List.mem_of_getElem? (i := 18) rfl) rfl
theorem wd_456 : (Cond.code yX9_lastEight cX9_lastEight 5 (some .long)) ∈ lw_g := tm_3 (List.mem_of_getElem? (i := 61) rfl) rfl
theorem wd_457 : (Cond.constantLong RX9 160 (1099478073344)) ∈ lw_g := tm_3 (List.mem_of_getElem? (i := 62) rfl) rfl
theorem wd_458 : (Cond.methodLink RX9 162 yX3_own) ∈ lw_g := tm_3 (List.mem_of_getElem? (i := 63) rfl) rfl
theorem wd_459 : (Cond.methodLink RX9 81 yX9_readsPorts) ∈ lw_g := tm_3 (List.mem_of_getElem? (i := 64) rfl) rfl
theorem wd_460 : (Cond.instanceMethod yX9_readsPorts) ∈ lw_g := tm_3 (List.mem_of_getElem? (i := 66) rfl) rfl
theorem wd_461 : (Cond.selects RX9 yX9_readsPorts yX9_readsPorts) ∈ lw_g := tm_0 (List.mem_of_getElem? (i := 19) rfl) rfl
theorem wd_462 : (Cond.code yX9_readsPorts cX9_readsPorts 4 (some .boolean)) ∈ lw_g := tm_3 (List.mem_of_getElem? (i := 67) rfl) rfl
theorem wd_463 : (Cond.methodLink RX9 165 yX9_portsOf) ∈ lw_g := tm_3 (List.mem_of_getElem? (i := 68) rfl) rfl
theorem wd_464 : (Cond.static yX9_portsOf) ∈ lw_g := tm_3 (List.mem_of_getElem? (i := 69) rfl) rfl
theorem wd_465 : (Cond.code yX9_portsOf cX9_portsOf 3 (some .long)) ∈ lw_g := tm_3 (List.mem_of_getElem? (i := 70) rfl) rfl
theorem wd_466 : (Cond.constantLong RX9 173 (61440)) ∈ lw_g := tm_3 (List.mem_of_getElem? (i := 71) rfl) rfl
theorem wd_467 : (Cond.constantLong RX9 175 (255)) ∈ lw_g := tm_3 (List.mem_of_getElem? (i := 72) rfl) rfl
theorem wd_468 : (Cond.constantLong RX9 177 (4026531840)) ∈ lw_g := tm_3 (List.mem_of_getElem? (i := 73) rfl) rfl
theorem wd_469 : (Cond.constantLong RX9 179 (65535)) ∈ lw_g := tm_3 (List.mem_of_getElem? (i := 74) rfl) rfl
theorem wd_470 : (Cond.constantLong RX9 181 (61616)) ∈ lw_g := tm_3 (List.mem_of_getElem? (i := 75) rfl) rfl
theorem wd_471 : (Cond.constantLong RX9 183 (15)) ∈ lw_g := tm_3 (List.mem_of_getElem? (i := 76) rfl) rfl
theorem wd_472 : (Cond.methodLink RX9 169 yX7_addNumber) ∈ lw_g := tm_3 (List.mem_of_getElem? (i := 77) rfl) rfl
theorem wd_473 : (Cond.methodLink RX9 84 yX9_readsRest) ∈ lw_g := tm_3 (List.mem_of_getElem? (i := 78) rfl) rfl
theorem wd_474 : (Cond.instanceMethod yX9_readsRest) ∈ lw_g := tm_3 (List.mem_of_getElem? (i := 80) rfl) rfl
theorem wd_475 : (Cond.selects RX9 yX9_readsRest yX9_readsRest) ∈ lw_g := tm_0 (List.mem_of_getElem? (i := 20) rfl) rfl
theorem wd_476 : (Cond.code yX9_readsRest cX9_readsRest 4 (some .boolean)) ∈ lw_g := tm_3 (List.mem_of_getElem? (i := 81) rfl) rfl
theorem wd_477 : (Cond.methodLink RX9 185 yX7_addAll) ∈ lw_g := tm_3 (List.mem_of_getElem? (i := 82) rfl) rfl
theorem wd_478 : (Cond.methodLink RX6 69 yX9_packet) ∈ lw_g := tm_3 (List.mem_of_getElem? (i := 83) rfl) rfl
theorem wd_479 : (Cond.instanceMethod yX9_packet) ∈ lw_g := tm_3 (List.mem_of_getElem? (i := 84) rfl) rfl
theorem wd_480 : (Cond.selects RX9 yX9_packet yX9_packet) ∈ lw_g := tm_3 (List.mem_of_getElem? (i := 85) rfl) rfl
theorem wd_481 : (Cond.code yX9_packet cX9_packet 1 (some (.object "ShortFrames$Row"))) ∈ lw_g := tm_3 (List.mem_of_getElem? (i := 86) rfl) rfl
theorem wd_482 : (Cond.methodLink RX6 73 yX7_become) ∈ lw_g := tm_3 (List.mem_of_getElem? (i := 87) rfl) rfl
theorem wd_483 : (Cond.methodLink RX6 47 yX7_length) ∈ lw_g := tm_3 (List.mem_of_getElem? (i := 88) rfl) rfl
theorem wd_484 : (Cond.methodLink RX6 50 yX6_hearsFirst) ∈ lw_g := tm_3 (List.mem_of_getElem? (i := 89) rfl) rfl
theorem wd_485 : (Cond.instanceMethod yX6_hearsFirst) ∈ lw_g := tm_3 (List.mem_of_getElem? (i := 91) rfl) rfl
theorem wd_486 : (Cond.selects RX6 yX6_hearsFirst yX6_hearsFirst) ∈ lw_g := tm_0 (List.mem_of_getElem? (i := 21) rfl) rfl
theorem wd_487 : (Cond.code yX6_hearsFirst cX6_hearsFirst 4 (some .int)) ∈ lw_g := tm_3 (List.mem_of_getElem? (i := 92) rfl) rfl
theorem wd_488 : (Cond.methodLink RX6 77 yX6_zOf) ∈ lw_g := tm_3 (List.mem_of_getElem? (i := 93) rfl) rfl
theorem wd_489 : (Cond.static yX6_zOf) ∈ lw_g := tm_3 (List.mem_of_getElem? (i := 94) rfl) rfl
theorem wd_490 : (Cond.code yX6_zOf cX6_zOf 1 (some .int)) ∈ lw_g := tm_3 (List.mem_of_getElem? (i := 95) rfl) rfl
theorem wd_491 : (Cond.methodLink RX6 81 yX7_number) ∈ lw_g := tm_3 (List.mem_of_getElem? (i := 96) rfl) rfl
theorem wd_492 : (Cond.methodLink RX6 53 yX6_hearsPart) ∈ lw_g := tm_3 (List.mem_of_getElem? (i := 97) rfl) rfl
theorem wd_493 : (Cond.instanceMethod yX6_hearsPart) ∈ lw_g := tm_3 (List.mem_of_getElem? (i := 99) rfl) rfl
theorem wd_494 : (Cond.selects RX6 yX6_hearsPart yX6_hearsPart) ∈ lw_g := tm_0 (List.mem_of_getElem? (i := 22) rfl) rfl
theorem wd_495 : (Cond.code yX6_hearsPart cX6_hearsPart 11 (some .int)) ∈ lw_g := tm_3 (List.mem_of_getElem? (i := 100) rfl) rfl
theorem wd_496 : (Cond.fieldLink RX6 22 "ShortFrames$Receiver" "clock" "I") ∈ lw_g := tm_1 (List.mem_of_getElem? (i := 181) rfl) rfl
theorem wd_497 : (Cond.fieldLink RX6 106 "ShortFrames$Receiver" "anew" "I") ∈ lw_g := tm_1 (List.mem_of_getElem? (i := 189) rfl) rfl
theorem wd_498 : (Cond.methodLink RX6 85 yX6_dropLateHeaps) ∈ lw_g := tm_3 (List.mem_of_getElem? (i := 101) rfl) rfl
theorem wd_499 : (Cond.instanceMethod yX6_dropLateHeaps) ∈ lw_g := tm_3 (List.mem_of_getElem? (i := 103) rfl) rfl
theorem wd_500 : (Cond.selects RX6 yX6_dropLateHeaps yX6_dropLateHeaps) ∈ lw_g := tm_0 (List.mem_of_getElem? (i := 23) rfl) rfl
theorem wd_501 : (Cond.code yX6_dropLateHeaps cX6_dropLateHeaps 2 none) ∈ lw_g := tm_3 (List.mem_of_getElem? (i := 104) rfl) rfl
theorem wd_502 : (Cond.fieldLink RX6 126 "ShortFrames$Receiver" "late" "I") ∈ lw_g := tm_1 (List.mem_of_getElem? (i := 187) rfl) rfl
theorem wd_503 : (Cond.methodLink RX6 122 yX2_beganBy) ∈ lw_g := tm_3 (List.mem_of_getElem? (i := 105) rfl) rfl
theorem wd_504 : (Cond.instanceMethod yX2_beganBy) ∈ lw_g := tm_3 (List.mem_of_getElem? (i := 106) rfl) rfl
theorem wd_505 : (Cond.selects RX2 yX2_beganBy yX2_beganBy) ∈ lw_g := tm_3 (List.mem_of_getElem? (i := 107) rfl) rfl
theorem wd_506 : (Cond.code yX2_beganBy cX2_beganBy 2 (some .boolean)) ∈ lw_g := tm_3 (List.mem_of_getElem? (i := 108) rfl) rfl
theorem wd_507 : (Cond.fieldLink RX2 24 "ShortFrames$Heap" "there" "Z") ∈ lw_g := tm_1 (List.mem_of_getElem? (i := 156) rfl) rfl
theorem wd_508 : (Cond.fieldLink RX2 35 "ShortFrames$Heap" "time" "I") ∈ lw_g := tm_1 (List.mem_of_getElem? (i := 159) rfl) rfl
theorem wd_509 : (Cond.methodLink RX6 119 yX2_end) ∈ lw_g := tm_3 (List.mem_of_getElem? (i := 109) rfl) rfl
theorem wd_510 : (Cond.instanceMethod yX2_end) ∈ lw_g := tm_3 (List.mem_of_getElem? (i := 110) rfl) rfl
theorem wd_511 : (Cond.selects RX2 yX2_end yX2_end) ∈ lw_g := tm_3 (List.mem_of_getElem? (i := 111) rfl) rfl
theorem wd_512 : (Cond.code yX2_end cX2_end 1 none) ∈ lw_g := tm_3 (List.mem_of_getElem? (i := 112) rfl) rfl
theorem wd_513 : (Cond.methodLink RX6 88 yX6_indexFor) ∈ lw_g := tm_3 (List.mem_of_getElem? (i := 113) rfl) rfl
theorem wd_514 : (Cond.instanceMethod yX6_indexFor) ∈ lw_g := tm_3 (List.mem_of_getElem? (i := 115) rfl) rfl
theorem wd_515 : (Cond.selects RX6 yX6_indexFor yX6_indexFor) ∈ lw_g := tm_0 (List.mem_of_getElem? (i := 24) rfl) rfl
theorem wd_516 : (Cond.code yX6_indexFor cX6_indexFor 5 (some .int)) ∈ lw_g := tm_3 (List.mem_of_getElem? (i := 116) rfl) rfl
theorem wd_517 : (Cond.methodLink RX6 92 yX2_isOf) ∈ lw_g := tm_3 (List.mem_of_getElem? (i := 117) rfl) rfl
theorem wd_518 : (Cond.instanceMethod yX2_isOf) ∈ lw_g := tm_3 (List.mem_of_getElem? (i := 118) rfl) rfl
theorem wd_519 : (Cond.selects RX2 yX2_isOf yX2_isOf) ∈ lw_g := tm_3 (List.mem_of_getElem? (i := 119) rfl) rfl
theorem wd_520 : (Cond.code yX2_isOf cX2_isOf 3 (some .boolean)) ∈ lw_g := tm_3 (List.mem_of_getElem? (i := 120) rfl) rfl
theorem wd_521 : (Cond.fieldLink RX2 28 "ShortFrames$Heap" "z" "I") ∈ lw_g := tm_1 (List.mem_of_getElem? (i := 157) rfl) rfl
theorem wd_522 : (Cond.fieldLink RX2 32 "ShortFrames$Heap" "tag" "I") ∈ lw_g := tm_1 (List.mem_of_getElem? (i := 158) rfl) rfl
theorem wd_523 : (Cond.methodLink RX6 26 yX2_isThere) ∈ lw_g := tm_3 (List.mem_of_getElem? (i := 121) rfl) rfl
theorem wd_524 : (Cond.instanceMethod yX2_isThere) ∈ lw_g := tm_3 (List.mem_of_getElem? (i := 122) rfl) rfl
theorem wd_525 : (Cond.selects RX2 yX2_isThere yX2_isThere) ∈ lw_g := tm_3 (List.mem_of_getElem? (i := 123) rfl) rfl
theorem wd_526 : (Cond.code yX2_isThere cX2_isThere 1 (some .boolean)) ∈ lw_g := tm_3 (List.mem_of_getElem? (i := 124) rfl) rfl
theorem wd_527 : (Cond.methodLink RX6 96 yX2_begin) ∈ lw_g := tm_3 (List.mem_of_getElem? (i := 125) rfl) rfl
theorem wd_528 : (Cond.instanceMethod yX2_begin) ∈ lw_g := tm_3 (List.mem_of_getElem? (i := 126) rfl) rfl
theorem wd_529 : (Cond.selects RX2 yX2_begin yX2_begin) ∈ lw_g := tm_3 (List.mem_of_getElem? (i := 127) rfl) rfl
theorem wd_530 : (Cond.code yX2_begin cX2_begin 5 none) ∈ lw_g := tm_3 (List.mem_of_getElem? (i := 128) rfl) rfl
theorem wd_531 : (Cond.fieldLink RX2 38 "ShortFrames$Heap" "parts" "I") ∈ lw_g := tm_1 (List.mem_of_getElem? (i := 160) rfl) rfl
theorem wd_532 : (Cond.fieldLink RX2 41 "ShortFrames$Heap" "bytes" "I") ∈ lw_g := tm_1 (List.mem_of_getElem? (i := 161) rfl) rfl
theorem wd_533 : (Cond.methodLink RX2 44 yX7_becomeZeros) ∈ lw_g := tm_3 (List.mem_of_getElem? (i := 129) rfl) rfl
theorem wd_534 : (Cond.methodLink RX6 100 yX2_hasJust) ∈ lw_g := tm_3 (List.mem_of_getElem? (i := 130) rfl) rfl
theorem wd_535 : (Cond.instanceMethod yX2_hasJust) ∈ lw_g := tm_3 (List.mem_of_getElem? (i := 131) rfl) rfl
theorem wd_536 : (Cond.selects RX2 yX2_hasJust yX2_hasJust) ∈ lw_g := tm_3 (List.mem_of_getElem? (i := 132) rfl) rfl
theorem wd_537 : (Cond.code yX2_hasJust cX2_hasJust 4 (some .boolean)) ∈ lw_g := tm_3 (List.mem_of_getElem? (i := 133) rfl) rfl
theorem wd_538 : (Cond.methodLink RX6 103 yX2_meets) ∈ lw_g := tm_3 (List.mem_of_getElem? (i := 134) rfl) rfl
theorem wd_539 : (Cond.instanceMethod yX2_meets) ∈ lw_g := tm_3 (List.mem_of_getElem? (i := 135) rfl) rfl
theorem wd_540 : (Cond.selects RX2 yX2_meets yX2_meets) ∈ lw_g := tm_3 (List.mem_of_getElem? (i := 136) rfl) rfl
theorem wd_541 : (Cond.code yX2_meets cX2_meets 5 (some .boolean)) ∈ lw_g := tm_3 (List.mem_of_getElem? (i := 137) rfl) rfl
theorem wd_542 : (Cond.methodLink RX6 109 yX2_keep) ∈ lw_g := tm_3 (List.mem_of_getElem? (i := 138) rfl) rfl
theorem wd_543 : (Cond.instanceMethod yX2_keep) ∈ lw_g := tm_3 (List.mem_of_getElem? (i := 139) rfl) rfl
theorem wd_544 : (Cond.selects RX2 yX2_keep yX2_keep) ∈ lw_g := tm_3 (List.mem_of_getElem? (i := 140) rfl) rfl
theorem wd_545 : (Cond.code yX2_keep cX2_keep 7 none) ∈ lw_g := tm_3 (List.mem_of_getElem? (i := 141) rfl) rfl
theorem wd_546 : (Cond.methodLink RX2 47 yX7_length) ∈ lw_g := tm_3 (List.mem_of_getElem? (i := 142) rfl) rfl
theorem wd_547 : (Cond.methodLink RX2 51 yX7_at) ∈ lw_g := tm_3 (List.mem_of_getElem? (i := 143) rfl) rfl
theorem wd_548 : (Cond.methodLink RX2 55 yX7_set) ∈ lw_g := tm_3 (List.mem_of_getElem? (i := 144) rfl) rfl
theorem wd_549 : (Cond.methodLink RX6 113 yX2_isWhole) ∈ lw_g := tm_3 (List.mem_of_getElem? (i := 145) rfl) rfl
theorem wd_550 : (Cond.instanceMethod yX2_isWhole) ∈ lw_g := tm_3 (List.mem_of_getElem? (i := 146) rfl) rfl
theorem wd_551 : (Cond.selects RX2 yX2_isWhole yX2_isWhole) ∈ lw_g := tm_3 (List.mem_of_getElem? (i := 147) rfl) rfl
theorem wd_552 : (Cond.code yX2_isWhole cX2_isWhole 1 (some .boolean)) ∈ lw_g := tm_3 (List.mem_of_getElem? (i := 148) rfl) rfl
theorem wd_553 : (Cond.methodLink RX6 116 yX2_content) ∈ lw_g := tm_3 (List.mem_of_getElem? (i := 149) rfl) rfl
theorem wd_554 : (Cond.instanceMethod yX2_content) ∈ lw_g := tm_3 (List.mem_of_getElem? (i := 150) rfl) rfl
theorem wd_555 : (Cond.selects RX2 yX2_content yX2_content) ∈ lw_g := tm_3 (List.mem_of_getElem? (i := 151) rfl) rfl
theorem wd_556 : (Cond.code yX2_content cX2_content 1 (some (.object "ShortFrames$Row"))) ∈ lw_g := tm_3 (List.mem_of_getElem? (i := 152) rfl) rfl
theorem wd_557 : (Cond.methodLink RL 77 yX10_cut) ∈ lw_g := tm_2 (List.mem_of_getElem? (i := 14) rfl) rfl
theorem wd_558 : (Cond.instanceMethod yX10_cut) ∈ lw_g := tm_2 (List.mem_of_getElem? (i := 15) rfl) rfl
theorem wd_559 : (Cond.selects RX10 yX10_cut yX10_cut) ∈ lw_g := tm_2 (List.mem_of_getElem? (i := 16) rfl) rfl
theorem wd_560 : (Cond.code yX10_cut cX10_cut 3 (some .int)) ∈ lw_g := tm_2 (List.mem_of_getElem? (i := 17) rfl) rfl
theorem wd_561 : (Cond.methodLink RX10 109 yX7_shorten) ∈ lw_g := tm_2 (List.mem_of_getElem? (i := 21) rfl) rfl
theorem wd_562 : (Cond.methodLink RL 86 yX10_put) ∈ lw_g := tm_2 (List.mem_of_getElem? (i := 176) rfl) rfl
theorem wd_563 : (Cond.instanceMethod yX10_put) ∈ lw_g := tm_2 (List.mem_of_getElem? (i := 177) rfl) rfl
theorem wd_564 : (Cond.selects RX10 yX10_put yX10_put) ∈ lw_g := tm_2 (List.mem_of_getElem? (i := 178) rfl) rfl
theorem wd_565 : (Cond.code yX10_put cX10_put 2 (some .int)) ∈ lw_g := tm_2 (List.mem_of_getElem? (i := 179) rfl) rfl
theorem wd_566 : (Cond.methodLink RX10 160 yX1_size) ∈ lw_g := tm_2 (List.mem_of_getElem? (i := 180) rfl) rfl
theorem wd_567 : (Cond.methodLink RX10 163 yX1_store) ∈ lw_g := tm_2 (List.mem_of_getElem? (i := 181) rfl) rfl
theorem wd_568 : (Cond.methodLink RL 89 yX10_out) ∈ lw_g := tm_2 (List.mem_of_getElem? (i := 25) rfl) rfl
theorem wd_569 : (Cond.instanceMethod yX10_out) ∈ lw_g := tm_2 (List.mem_of_getElem? (i := 26) rfl) rfl
theorem wd_570 : (Cond.selects RX10 yX10_out yX10_out) ∈ lw_g := tm_2 (List.mem_of_getElem? (i := 27) rfl) rfl
theorem wd_571 : (Cond.code yX10_out cX10_out 2 (some .int)) ∈ lw_g := tm_2 (List.mem_of_getElem? (i := 28) rfl) rfl
theorem wd_572 : (Cond.methodLink RX10 123 yX10_byteOrLength) ∈ lw_g := tm_2 (List.mem_of_getElem? (i := 29) rfl) rfl
theorem wd_573 : (Cond.static yX10_byteOrLength) ∈ lw_g := tm_2 (List.mem_of_getElem? (i := 30) rfl) rfl
theorem wd_574 : (Cond.code yX10_byteOrLength cX10_byteOrLength 2 (some .int)) ∈ lw_g := tm_2 (List.mem_of_getElem? (i := 31) rfl) rfl
theorem wd_575 : (Cond.methodLink RX10 112 yX7_has) ∈ lw_g := tm_2 (List.mem_of_getElem? (i := 32) rfl) rfl
theorem wd_576 : (Cond.instanceMethod yX7_has) ∈ lw_g := tm_2 (List.mem_of_getElem? (i := 33) rfl) rfl
theorem wd_577 : (Cond.selects RX7 yX7_has yX7_has) ∈ lw_g := tm_2 (List.mem_of_getElem? (i := 34) rfl) rfl
theorem wd_578 : (Cond.code yX7_has cX7_has 2 (some .boolean)) ∈ lw_g := tm_2 (List.mem_of_getElem? (i := 35) rfl) rfl
theorem wd_579 : (Cond.methodLink RX10 199 yX7_at) ∈ lw_g := tm_2 (List.mem_of_getElem? (i := 36) rfl) rfl
theorem wd_580 : (Cond.methodLink RL 92 yX10_count) ∈ lw_g := tm_3 (List.mem_of_getElem? (i := 153) rfl) rfl
theorem wd_581 : (Cond.instanceMethod yX10_count) ∈ lw_g := tm_3 (List.mem_of_getElem? (i := 154) rfl) rfl
theorem wd_582 : (Cond.selects RX10 yX10_count yX10_count) ∈ lw_g := tm_3 (List.mem_of_getElem? (i := 155) rfl) rfl
theorem wd_583 : (Cond.code yX10_count cX10_count 2 (some .int)) ∈ lw_g := tm_3 (List.mem_of_getElem? (i := 156) rfl) rfl
theorem wd_584 : (Cond.methodLink RX10 174 yX6_heaps) ∈ lw_g := tm_3 (List.mem_of_getElem? (i := 157) rfl) rfl
theorem wd_585 : (Cond.instanceMethod yX6_heaps) ∈ lw_g := tm_3 (List.mem_of_getElem? (i := 158) rfl) rfl
theorem wd_586 : (Cond.selects RX6 yX6_heaps yX6_heaps) ∈ lw_g := tm_3 (List.mem_of_getElem? (i := 159) rfl) rfl
theorem wd_587 : (Cond.code yX6_heaps cX6_heaps 3 (some .int)) ∈ lw_g := tm_3 (List.mem_of_getElem? (i := 160) rfl) rfl
theorem wd_588 : (Cond.methodLink RX10 177 yX6_parts) ∈ lw_g := tm_3 (List.mem_of_getElem? (i := 161) rfl) rfl
theorem wd_589 : (Cond.instanceMethod yX6_parts) ∈ lw_g := tm_3 (List.mem_of_getElem? (i := 162) rfl) rfl
theorem wd_590 : (Cond.selects RX6 yX6_parts yX6_parts) ∈ lw_g := tm_3 (List.mem_of_getElem? (i := 163) rfl) rfl
theorem wd_591 : (Cond.code yX6_parts cX6_parts 3 (some .int)) ∈ lw_g := tm_3 (List.mem_of_getElem? (i := 164) rfl) rfl
theorem wd_592 : (Cond.methodLink RX6 30 yX2_parts) ∈ lw_g := tm_3 (List.mem_of_getElem? (i := 165) rfl) rfl
theorem wd_593 : (Cond.instanceMethod yX2_parts) ∈ lw_g := tm_3 (List.mem_of_getElem? (i := 166) rfl) rfl
theorem wd_594 : (Cond.selects RX2 yX2_parts yX2_parts) ∈ lw_g := tm_3 (List.mem_of_getElem? (i := 167) rfl) rfl
theorem wd_595 : (Cond.code yX2_parts cX2_parts 1 (some .int)) ∈ lw_g := tm_3 (List.mem_of_getElem? (i := 168) rfl) rfl
theorem wd_596 : (Cond.methodLink RX10 180 yX6_bytes) ∈ lw_g := tm_3 (List.mem_of_getElem? (i := 169) rfl) rfl
theorem wd_597 : (Cond.instanceMethod yX6_bytes) ∈ lw_g := tm_3 (List.mem_of_getElem? (i := 170) rfl) rfl
theorem wd_598 : (Cond.selects RX6 yX6_bytes yX6_bytes) ∈ lw_g := tm_3 (List.mem_of_getElem? (i := 171) rfl) rfl
theorem wd_599 : (Cond.code yX6_bytes cX6_bytes 3 (some .int)) ∈ lw_g := tm_3 (List.mem_of_getElem? (i := 172) rfl) rfl
theorem wd_600 : (Cond.methodLink RX6 34 yX2_bytes) ∈ lw_g := tm_3 (List.mem_of_getElem? (i := 173) rfl) rfl
theorem wd_601 : (Cond.instanceMethod yX2_bytes) ∈ lw_g := tm_3 (List.mem_of_getElem? (i := 174) rfl) rfl
theorem wd_602 : (Cond.selects RX2 yX2_bytes yX2_bytes) ∈ lw_g := tm_3 (List.mem_of_getElem? (i := 175) rfl) rfl
theorem wd_603 : (Cond.code yX2_bytes cX2_bytes 1 (some .int)) ∈ lw_g := tm_3 (List.mem_of_getElem? (i := 176) rfl) rfl
theorem inX0k : ∀ k, k < 3 → u_lay RX0 TX0 k ∈ lw_g := fun k hk => match k, hk with
  | 0, _ => tm_1 (List.mem_of_getElem? (i := 132) rfl) rfl
  | 1, _ => tm_1 (List.mem_of_getElem? (i := 134) rfl) rfl
  | 2, _ => tm_1 (List.mem_of_getElem? (i := 136) rfl) rfl
  | k + 3, h => absurd h (by omega)
theorem inX0 : ∀ w ∈ wsX00, w ∈ lw_g := by
  intro w hw
  obtain ⟨k, hk, rfl⟩ := List.mem_map.mp hw
  exact inX0k k (List.mem_range.mp hk)
theorem inX1k : ∀ k, k < 2 → u_lay RX1 TX1 k ∈ lw_g := fun k hk => match k, hk with
  | 0, _ => tm_1 (List.mem_of_getElem? (i := 116) rfl) rfl
  | 1, _ => tm_1 (List.mem_of_getElem? (i := 118) rfl) rfl
  | k + 2, h => absurd h (by omega)
theorem inX1 : ∀ w ∈ wsX10, w ∈ lw_g := by
  intro w hw
  obtain ⟨k, hk, rfl⟩ := List.mem_map.mp hw
  exact inX1k k (List.mem_range.mp hk)
theorem inX2k : ∀ k, k < 8 → u_lay RX2 TX2 k ∈ lw_g := fun k hk => match k, hk with
  | 0, _ => tm_1 (List.mem_of_getElem? (i := 162) rfl) rfl
  | 1, _ => tm_1 (List.mem_of_getElem? (i := 164) rfl) rfl
  | 2, _ => tm_1 (List.mem_of_getElem? (i := 166) rfl) rfl
  | 3, _ => tm_1 (List.mem_of_getElem? (i := 168) rfl) rfl
  | 4, _ => tm_1 (List.mem_of_getElem? (i := 170) rfl) rfl
  | 5, _ => tm_1 (List.mem_of_getElem? (i := 172) rfl) rfl
  | 6, _ => tm_1 (List.mem_of_getElem? (i := 174) rfl) rfl
  | 7, _ => tm_1 (List.mem_of_getElem? (i := 176) rfl) rfl
  | k + 8, h => absurd h (by omega)
theorem inX2 : ∀ w ∈ wsX20, w ∈ lw_g := by
  intro w hw
  obtain ⟨k, hk, rfl⟩ := List.mem_map.mp hw
  exact inX2k k (List.mem_range.mp hk)
theorem inX3k : ∀ k, k < 4 → u_lay RX3 TX3 k ∈ lw_g := fun k hk => match k, hk with
  | 0, _ => tm_1 (List.mem_of_getElem? (i := 31) rfl) rfl
  | 1, _ => tm_1 (List.mem_of_getElem? (i := 33) rfl) rfl
  | 2, _ => tm_1 (List.mem_of_getElem? (i := 35) rfl) rfl
  | 3, _ => tm_1 (List.mem_of_getElem? (i := 37) rfl) rfl
  | k + 4, h => absurd h (by omega)
theorem inX3 : ∀ w ∈ wsX30, w ∈ lw_g := by
  intro w hw
  obtain ⟨k, hk, rfl⟩ := List.mem_map.mp hw
  exact inX3k k (List.mem_range.mp hk)
theorem inX6k : ∀ k, k < 7 → u_lay RX6 TX6 k ∈ lw_g := fun k hk => match k, hk with
  | 0, _ => tm_1 (List.mem_of_getElem? (i := 191) rfl) rfl
  | 1, _ => tm_1 (List.mem_of_getElem? (i := 193) rfl) rfl
  | 2, _ => tm_1 (List.mem_of_getElem? (i := 195) rfl) rfl
  | 3, _ => tm_1 (List.mem_of_getElem? (i := 197) rfl) rfl
  | 4, _ => tm_1 (List.mem_of_getElem? (i := 199) rfl) rfl
  | 5, _ => tm_1 (List.mem_of_getElem? (i := 201) rfl) rfl
  | 6, _ => tm_1 (List.mem_of_getElem? (i := 203) rfl) rfl
  | k + 7, h => absurd h (by omega)
theorem inX6 : ∀ w ∈ wsX60, w ∈ lw_g := by
  intro w hw
  obtain ⟨k, hk, rfl⟩ := List.mem_map.mp hw
  exact inX6k k (List.mem_range.mp hk)
theorem inX7k : ∀ k, k < 2 → u_lay RX7 TX7 k ∈ lw_g := fun k hk => match k, hk with
  | 0, _ => tm_1 (List.mem_of_getElem? (i := 66) rfl) rfl
  | 1, _ => tm_1 (List.mem_of_getElem? (i := 68) rfl) rfl
  | k + 2, h => absurd h (by omega)
theorem inX7 : ∀ w ∈ wsX70, w ∈ lw_g := by
  intro w hw
  obtain ⟨k, hk, rfl⟩ := List.mem_map.mp hw
  exact inX7k k (List.mem_range.mp hk)
theorem inX8k : ∀ k, k < 1 → u_lay RX8 TX8 k ∈ lw_g := fun k hk => match k, hk with
  | 0, _ => tm_1 (List.mem_of_getElem? (i := 49) rfl) rfl
  | k + 1, h => absurd h (by omega)
theorem inX8 : ∀ w ∈ wsX80, w ∈ lw_g := by
  intro w hw
  obtain ⟨k, hk, rfl⟩ := List.mem_map.mp hw
  exact inX8k k (List.mem_range.mp hk)
theorem inX9k : ∀ k, k < 10 → u_lay RX9 TX9 k ∈ lw_g := fun k hk => match k, hk with
  | 0, _ => tm_1 (List.mem_of_getElem? (i := 82) rfl) rfl
  | 1, _ => tm_1 (List.mem_of_getElem? (i := 84) rfl) rfl
  | 2, _ => tm_1 (List.mem_of_getElem? (i := 86) rfl) rfl
  | 3, _ => tm_1 (List.mem_of_getElem? (i := 88) rfl) rfl
  | 4, _ => tm_1 (List.mem_of_getElem? (i := 90) rfl) rfl
  | 5, _ => tm_1 (List.mem_of_getElem? (i := 92) rfl) rfl
  | 6, _ => tm_1 (List.mem_of_getElem? (i := 94) rfl) rfl
  | 7, _ => tm_1 (List.mem_of_getElem? (i := 96) rfl) rfl
  | 8, _ => tm_1 (List.mem_of_getElem? (i := 98) rfl) rfl
  | 9, _ => tm_1 (List.mem_of_getElem? (i := 100) rfl) rfl
  | k + 10, h => absurd h (by omega)
theorem inX9 : ∀ w ∈ wsX90, w ∈ lw_g := by
  intro w hw
  obtain ⟨k, hk, rfl⟩ := List.mem_map.mp hw
  exact inX9k k (List.mem_range.mp hk)
theorem inX10k : ∀ k, k < 9 → u_lay RX10 TX10 k ∈ lw_g := fun k hk => match k, hk with
  | 0, _ => tm_1 (List.mem_of_getElem? (i := 215) rfl) rfl
  | 1, _ => tm_1 (List.mem_of_getElem? (i := 217) rfl) rfl
  | 2, _ => tm_1 (List.mem_of_getElem? (i := 219) rfl) rfl
  | 3, _ => tm_1 (List.mem_of_getElem? (i := 221) rfl) rfl
  | 4, _ => tm_1 (List.mem_of_getElem? (i := 223) rfl) rfl
  | 5, _ => tm_1 (List.mem_of_getElem? (i := 225) rfl) rfl
  | 6, _ => tm_1 (List.mem_of_getElem? (i := 227) rfl) rfl
  | 7, _ => tm_1 (List.mem_of_getElem? (i := 229) rfl) rfl
  | 8, _ => tm_1 (List.mem_of_getElem? (i := 231) rfl) rfl
  | k + 9, h => absurd h (by omega)
theorem inX10 : ∀ w ∈ wsX100, w ∈ lw_g := by
  intro w hw
  obtain ⟨k, hk, rfl⟩ := List.mem_map.mp hw
  exact inX10k k (List.mem_range.mp hk)
theorem wd_good : ∀ w ∈ lw_g, goodWord w = true := fun w hw => (List.mem_filter.mp hw).2
