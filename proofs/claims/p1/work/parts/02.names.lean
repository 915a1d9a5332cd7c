def RX0 : String := "ArrayHouse$Finds"
def TX0 : u_T := fun k => match k with
  | 0 => ("ArrayHouse$Finds", "state", "LArrayHouse$State;", true)
  | 1 => ("ArrayHouse$Finds", "heap", "LArrayHouse$Heap;", true)
  | 2 => ("ArrayHouse$Finds", "scalars", "LArrayHouse$Scalars;", true)
  | 3 => ("ArrayHouse$Finds", "writer", "LArrayHouse$Writer;", true)
  | 4 => ("ArrayHouse$Finds", "rows", "[I", true)
  | _ => ("ArrayHouse$Finds", "other", "[I", true)
def tyX0 : Nat → FieldType := fun k => match k with
  | 0 => .object "ArrayHouse$State"
  | 1 => .object "ArrayHouse$Heap"
  | 2 => .object "ArrayHouse$Scalars"
  | 3 => .object "ArrayHouse$Writer"
  | 4 => .array .int
  | _ => .array .int
abbrev wsX00 : List Cond := u_ws RX0 TX0 6
theorem nmX0 : ∀ a, a < 6 → ∀ b, b < 6 → a ≠ b → (TX0 a).2.1 ≠ (TX0 b).2.1 := by decide +kernel
theorem tyX0_ok : ∀ k, k < 6 → parseFieldDescriptor (TX0 k).2.2.1 = some (tyX0 k) := by decide +kernel
abbrev cX0_init : ByteArray := prog_2_method_1_code
def yX0_init : MethodName := ⟨RX0, "<init>", "(LArrayHouse$State;LArrayHouse$Heap;LArrayHouse$Scalars;)V"⟩
def RX1 : String := "ArrayHouse$Heap"
def TX1 : u_T := fun k => match k with
  | 0 => ("ArrayHouse$Heap", "state", "LArrayHouse$State;", true)
  | 1 => ("ArrayHouse$Heap", "shape", "[I", true)
  | 2 => ("ArrayHouse$Heap", "words", "[I", false)
  | 3 => ("ArrayHouse$Heap", "spare", "[I", false)
  | 4 => ("ArrayHouse$Heap", "top", "I", false)
  | 5 => ("ArrayHouse$Heap", "spareTop", "I", false)
  | 6 => ("ArrayHouse$Heap", "base", "I", false)
  | 7 => ("ArrayHouse$Heap", "fillN", "I", false)
  | _ => ("ArrayHouse$Heap", "fillD", "I", false)
def tyX1 : Nat → FieldType := fun k => match k with
  | 0 => .object "ArrayHouse$State"
  | 1 => .array .int
  | 2 => .array .int
  | 3 => .array .int
  | 4 => .int
  | 5 => .int
  | 6 => .int
  | 7 => .int
  | _ => .int
abbrev wsX10 : List Cond := u_ws RX1 TX1 9
theorem nmX1 : ∀ a, a < 9 → ∀ b, b < 9 → a ≠ b → (TX1 a).2.1 ≠ (TX1 b).2.1 := by decide +kernel
theorem tyX1_ok : ∀ k, k < 9 → parseFieldDescriptor (TX1 k).2.2.1 = some (tyX1 k) := by decide +kernel
abbrev cX1_init : ByteArray := prog_3_method_1_code
def yX1_init : MethodName := ⟨RX1, "<init>", "(LArrayHouse$State;)V"⟩
abbrev cX1_size : ByteArray := prog_3_method_7_code
def yX1_size : MethodName := ⟨RX1, "size", "(I)I"⟩
abbrev cX1_unsettle : ByteArray := prog_3_method_43_code
def yX1_unsettle : MethodName := ⟨RX1, "unsettle", "(I)V"⟩
abbrev cX1_moved : ByteArray := prog_3_method_44_code
def yX1_moved : MethodName := ⟨RX1, "moved", "(I)I"⟩
abbrev cX1_settle : ByteArray := prog_3_method_45_code
def yX1_settle : MethodName := ⟨RX1, "settle", "()V"⟩
def RX2 : String := "ArrayHouse$Operators"
def TX2 : u_T := fun k => match k with
  | 0 => ("ArrayHouse$Operators", "state", "LArrayHouse$State;", true)
  | 1 => ("ArrayHouse$Operators", "heap", "LArrayHouse$Heap;", true)
  | 2 => ("ArrayHouse$Operators", "places", "LArrayHouse$Places;", true)
  | 3 => ("ArrayHouse$Operators", "shapes", "LArrayHouse$Shapes;", true)
  | _ => ("ArrayHouse$Operators", "reader", "LArrayHouse$Reader;", false)
def tyX2 : Nat → FieldType := fun k => match k with
  | 0 => .object "ArrayHouse$State"
  | 1 => .object "ArrayHouse$Heap"
  | 2 => .object "ArrayHouse$Places"
  | 3 => .object "ArrayHouse$Shapes"
  | _ => .object "ArrayHouse$Reader"
abbrev wsX20 : List Cond := u_ws RX2 TX2 5
theorem nmX2 : ∀ a, a < 5 → ∀ b, b < 5 → a ≠ b → (TX2 a).2.1 ≠ (TX2 b).2.1 := by decide +kernel
theorem tyX2_ok : ∀ k, k < 5 → parseFieldDescriptor (TX2 k).2.2.1 = some (tyX2 k) := by decide +kernel
abbrev cX2_init : ByteArray := prog_4_method_1_code
def yX2_init : MethodName := ⟨RX2, "<init>", "(LArrayHouse$State;LArrayHouse$Heap;LArrayHouse$Places;LArrayHouse$Shapes;)V"⟩
def RX3 : String := "ArrayHouse$Places"
def TX3 : u_T := fun k => match k with
  | 0 => ("ArrayHouse$Places", "state", "LArrayHouse$State;", true)
  | 1 => ("ArrayHouse$Places", "heap", "LArrayHouse$Heap;", true)
  | 2 => ("ArrayHouse$Places", "text", "LArrayHouse$Text;", true)
  | 3 => ("ArrayHouse$Places", "nameA", "[I", true)
  | 4 => ("ArrayHouse$Places", "nameB", "[I", true)
  | 5 => ("ArrayHouse$Places", "means", "[I", true)
  | 6 => ("ArrayHouse$Places", "from", "[I", true)
  | 7 => ("ArrayHouse$Places", "to", "[I", true)
  | 8 => ("ArrayHouse$Places", "used", "[I", true)
  | 9 => ("ArrayHouse$Places", "around", "[I", true)
  | 10 => ("ArrayHouse$Places", "left", "[I", true)
  | 11 => ("ArrayHouse$Places", "right", "[I", true)
  | 12 => ("ArrayHouse$Places", "self", "[I", true)
  | 13 => ("ArrayHouse$Places", "guards", "[I", false)
  | 14 => ("ArrayHouse$Places", "guardCount", "I", false)
  | _ => ("ArrayHouse$Places", "deepest", "I", false)
def tyX3 : Nat → FieldType := fun k => match k with
  | 0 => .object "ArrayHouse$State"
  | 1 => .object "ArrayHouse$Heap"
  | 2 => .object "ArrayHouse$Text"
  | 3 => .array .int
  | 4 => .array .int
  | 5 => .array .int
  | 6 => .array .int
  | 7 => .array .int
  | 8 => .array .int
  | 9 => .array .int
  | 10 => .array .int
  | 11 => .array .int
  | 12 => .array .int
  | 13 => .array .int
  | 14 => .int
  | _ => .int
abbrev wsX30 : List Cond := u_ws RX3 TX3 16
theorem nmX3 : ∀ a, a < 16 → ∀ b, b < 16 → a ≠ b → (TX3 a).2.1 ≠ (TX3 b).2.1 := by decide +kernel
theorem tyX3_ok : ∀ k, k < 16 → parseFieldDescriptor (TX3 k).2.2.1 = some (tyX3 k) := by decide +kernel
abbrev cX3_init : ByteArray := prog_5_method_1_code
def yX3_init : MethodName := ⟨RX3, "<init>", "(LArrayHouse$State;LArrayHouse$Heap;LArrayHouse$Text;)V"⟩
abbrev cX3_meansAt : ByteArray := prog_5_method_2_code
def yX3_meansAt : MethodName := ⟨RX3, "meansAt", "(I)I"⟩
abbrev cX3_firstSlot : ByteArray := prog_5_method_3_code
def yX3_firstSlot : MethodName := ⟨RX3, "firstSlot", "(I)I"⟩
abbrev cX3_keep : ByteArray := prog_5_method_12_code
def yX3_keep : MethodName := ⟨RX3, "keep", "(II)I"⟩
abbrev cX3_pack : ByteArray := prog_5_method_13_code
def yX3_pack : MethodName := ⟨RX3, "pack", "(II)I"⟩
def RX4 : String := "ArrayHouse$Reader"
def TX4 : u_T := fun k => match k with
  | 0 => ("ArrayHouse$Reader", "state", "LArrayHouse$State;", true)
  | 1 => ("ArrayHouse$Reader", "heap", "LArrayHouse$Heap;", true)
  | 2 => ("ArrayHouse$Reader", "text", "LArrayHouse$Text;", true)
  | 3 => ("ArrayHouse$Reader", "places", "LArrayHouse$Places;", true)
  | 4 => ("ArrayHouse$Reader", "scalars", "LArrayHouse$Scalars;", true)
  | 5 => ("ArrayHouse$Reader", "shapes", "LArrayHouse$Shapes;", true)
  | 6 => ("ArrayHouse$Reader", "finds", "LArrayHouse$Finds;", true)
  | 7 => ("ArrayHouse$Reader", "operators", "LArrayHouse$Operators;", true)
  | 8 => ("ArrayHouse$Reader", "rows", "[I", true)
  | 9 => ("ArrayHouse$Reader", "place", "I", false)
  | 10 => ("ArrayHouse$Reader", "mark", "I", false)
  | 11 => ("ArrayHouse$Reader", "ahead", "I", false)
  | _ => ("ArrayHouse$Reader", "ended", "Z", false)
def tyX4 : Nat → FieldType := fun k => match k with
  | 0 => .object "ArrayHouse$State"
  | 1 => .object "ArrayHouse$Heap"
  | 2 => .object "ArrayHouse$Text"
  | 3 => .object "ArrayHouse$Places"
  | 4 => .object "ArrayHouse$Scalars"
  | 5 => .object "ArrayHouse$Shapes"
  | 6 => .object "ArrayHouse$Finds"
  | 7 => .object "ArrayHouse$Operators"
  | 8 => .array .int
  | 9 => .int
  | 10 => .int
  | 11 => .int
  | _ => .boolean
abbrev wsX40 : List Cond := u_ws RX4 TX4 13
theorem nmX4 : ∀ a, a < 13 → ∀ b, b < 13 → a ≠ b → (TX4 a).2.1 ≠ (TX4 b).2.1 := by decide +kernel
theorem tyX4_ok : ∀ k, k < 13 → parseFieldDescriptor (TX4 k).2.2.1 = some (tyX4 k) := by decide +kernel
abbrev cX4_init : ByteArray := prog_6_method_1_code
def yX4_init : MethodName := ⟨RX4, "<init>", "(LArrayHouse$State;LArrayHouse$Heap;LArrayHouse$Text;LArrayHouse$Places;LArrayHouse$Shapes;LArrayHouse$Operators;)V"⟩
abbrev cX4_houseBytes : ByteArray := prog_6_method_27_code
def yX4_houseBytes : MethodName := ⟨RX4, "houseBytes", "()I"⟩
def RX5 : String := "ArrayHouse$Scalars"
def TX5 : u_T := fun k => match k with
  | 0 => ("ArrayHouse$Scalars", "state", "LArrayHouse$State;", true)
  | 1 => ("ArrayHouse$Scalars", "heap", "LArrayHouse$Heap;", true)
  | 2 => ("ArrayHouse$Scalars", "n", "I", false)
  | _ => ("ArrayHouse$Scalars", "d", "I", false)
def tyX5 : Nat → FieldType := fun k => match k with
  | 0 => .object "ArrayHouse$State"
  | 1 => .object "ArrayHouse$Heap"
  | 2 => .int
  | _ => .int
abbrev wsX50 : List Cond := u_ws RX5 TX5 4
theorem nmX5 : ∀ a, a < 4 → ∀ b, b < 4 → a ≠ b → (TX5 a).2.1 ≠ (TX5 b).2.1 := by decide +kernel
theorem tyX5_ok : ∀ k, k < 4 → parseFieldDescriptor (TX5 k).2.2.1 = some (tyX5 k) := by decide +kernel
abbrev cX5_init : ByteArray := prog_7_method_1_code
def yX5_init : MethodName := ⟨RX5, "<init>", "(LArrayHouse$State;LArrayHouse$Heap;)V"⟩
def RX6 : String := "ArrayHouse$Shapes"
def TX6 : u_T := fun k => match k with
  | 0 => ("ArrayHouse$Shapes", "state", "LArrayHouse$State;", true)
  | 1 => ("ArrayHouse$Shapes", "heap", "LArrayHouse$Heap;", true)
  | 2 => ("ArrayHouse$Shapes", "rows", "[I", true)
  | 3 => ("ArrayHouse$Shapes", "turn", "[I", true)
  | _ => ("ArrayHouse$Shapes", "place", "[I", true)
def tyX6 : Nat → FieldType := fun k => match k with
  | 0 => .object "ArrayHouse$State"
  | 1 => .object "ArrayHouse$Heap"
  | 2 => .array .int
  | 3 => .array .int
  | _ => .array .int
abbrev wsX60 : List Cond := u_ws RX6 TX6 5
theorem nmX6 : ∀ a, a < 5 → ∀ b, b < 5 → a ≠ b → (TX6 a).2.1 ≠ (TX6 b).2.1 := by decide +kernel
theorem tyX6_ok : ∀ k, k < 5 → parseFieldDescriptor (TX6 k).2.2.1 = some (tyX6 k) := by decide +kernel
abbrev cX6_init : ByteArray := prog_8_method_1_code
def yX6_init : MethodName := ⟨RX6, "<init>", "(LArrayHouse$State;LArrayHouse$Heap;)V"⟩
def RX7 : String := "ArrayHouse$State"
def TX7 : u_T := fun k => match k with
  | 0 => ("ArrayHouse$State", "event", "I", false)
  | 1 => ("ArrayHouse$State", "spent", "I", false)
  | 2 => ("ArrayHouse$State", "open", "I", false)
  | 3 => ("ArrayHouse$State", "origin", "I", false)
  | _ => ("ArrayHouse$State", "link", "I", false)
def tyX7 : Nat → FieldType := fun k => match k with
  | 0 => .int
  | 1 => .int
  | 2 => .int
  | 3 => .int
  | _ => .int
abbrev wsX70 : List Cond := u_ws RX7 TX7 5
theorem nmX7 : ∀ a, a < 5 → ∀ b, b < 5 → a ≠ b → (TX7 a).2.1 ≠ (TX7 b).2.1 := by decide +kernel
theorem tyX7_ok : ∀ k, k < 5 → parseFieldDescriptor (TX7 k).2.2.1 = some (tyX7 k) := by decide +kernel
abbrev cX7_init : ByteArray := prog_9_method_1_code
def yX7_init : MethodName := ⟨RX7, "<init>", "()V"⟩
abbrev cX7_begin : ByteArray := prog_9_method_2_code
def yX7_begin : MethodName := ⟨RX7, "begin", "()V"⟩
def RX8 : String := "ArrayHouse$Text"
def TX8 : u_T := fun k => match k with
  | 0 => ("ArrayHouse$Text", "kept", "[B", true)
  | 1 => ("ArrayHouse$Text", "bytes", "[B", false)
  | 2 => ("ArrayHouse$Text", "tokens", "[I", false)
  | 3 => ("ArrayHouse$Text", "length", "I", false)
  | 4 => ("ArrayHouse$Text", "count", "I", false)
  | 5 => ("ArrayHouse$Text", "keptLength", "I", false)
  | 6 => ("ArrayHouse$Text", "innermost", "I", false)
  | _ => ("ArrayHouse$Text", "lastMade", "I", false)
def tyX8 : Nat → FieldType := fun k => match k with
  | 0 => .array .byte
  | 1 => .array .byte
  | 2 => .array .int
  | 3 => .int
  | 4 => .int
  | 5 => .int
  | 6 => .int
  | _ => .int
abbrev wsX80 : List Cond := u_ws RX8 TX8 8
theorem nmX8 : ∀ a, a < 8 → ∀ b, b < 8 → a ≠ b → (TX8 a).2.1 ≠ (TX8 b).2.1 := by decide +kernel
theorem tyX8_ok : ∀ k, k < 8 → parseFieldDescriptor (TX8 k).2.2.1 = some (tyX8 k) := by decide +kernel
abbrev cX8_init : ByteArray := prog_10_method_1_code
def yX8_init : MethodName := ⟨RX8, "<init>", "()V"⟩
abbrev cX8_scan : ByteArray := prog_10_method_9_code
def yX8_scan : MethodName := ⟨RX8, "scan", "(I)I"⟩
abbrev cX8_statementEnd : ByteArray := prog_10_method_21_code
def yX8_statementEnd : MethodName := ⟨RX8, "statementEnd", "(II)I"⟩
abbrev cX8_firstOf : ByteArray := prog_10_method_23_code
def yX8_firstOf : MethodName := ⟨RX8, "firstOf", "(IIII)I"⟩
abbrev cX8_unmake : ByteArray := prog_10_method_27_code
def yX8_unmake : MethodName := ⟨RX8, "unmake", "(I)V"⟩
def RX9 : String := "ArrayHouse$Writer"
def TX9 : u_T := fun k => match k with
  | 0 => ("ArrayHouse$Writer", "heap", "LArrayHouse$Heap;", true)
  | 1 => ("ArrayHouse$Writer", "row", "[B", true)
  | 2 => ("ArrayHouse$Writer", "length", "I", false)
  | _ => ("ArrayHouse$Writer", "over", "Z", false)
def tyX9 : Nat → FieldType := fun k => match k with
  | 0 => .object "ArrayHouse$Heap"
  | 1 => .array .byte
  | 2 => .int
  | _ => .boolean
abbrev wsX90 : List Cond := u_ws RX9 TX9 4
theorem nmX9 : ∀ a, a < 4 → ∀ b, b < 4 → a ≠ b → (TX9 a).2.1 ≠ (TX9 b).2.1 := by decide +kernel
theorem tyX9_ok : ∀ k, k < 4 → parseFieldDescriptor (TX9 k).2.2.1 = some (tyX9 k) := by decide +kernel
abbrev cX9_init : ByteArray := prog_11_method_1_code
def yX9_init : MethodName := ⟨RX9, "<init>", "(LArrayHouse$Heap;I)V"⟩
def RX10 : String := "ArrayHouse"
def TX10 : u_T := fun k => match k with
  | 0 => ("ArrayHouse", "state", "LArrayHouse$State;", true)
  | 1 => ("ArrayHouse", "heap", "LArrayHouse$Heap;", true)
  | 2 => ("ArrayHouse", "text", "LArrayHouse$Text;", true)
  | 3 => ("ArrayHouse", "places", "LArrayHouse$Places;", true)
  | 4 => ("ArrayHouse", "screen", "LArrayHouse$Writer;", true)
  | 5 => ("ArrayHouse", "reader", "LArrayHouse$Reader;", true)
  | 6 => ("ArrayHouse", "tape", "[B", true)
  | 7 => ("ArrayHouse", "path", "[I", true)
  | 8 => ("ArrayHouse", "tapeLength", "I", false)
  | 9 => ("ArrayHouse", "pathLength", "I", false)
  | _ => ("ArrayHouse", "eventAt", "I", false)
def tyX10 : Nat → FieldType := fun k => match k with
  | 0 => .object "ArrayHouse$State"
  | 1 => .object "ArrayHouse$Heap"
  | 2 => .object "ArrayHouse$Text"
  | 3 => .object "ArrayHouse$Places"
  | 4 => .object "ArrayHouse$Writer"
  | 5 => .object "ArrayHouse$Reader"
  | 6 => .array .byte
  | 7 => .array .int
  | 8 => .int
  | 9 => .int
  | _ => .int
abbrev wsX100 : List Cond := u_ws RX10 TX10 11
theorem nmX10 : ∀ a, a < 11 → ∀ b, b < 11 → a ≠ b → (TX10 a).2.1 ≠ (TX10 b).2.1 := by decide +kernel
theorem tyX10_ok : ∀ k, k < 11 → parseFieldDescriptor (TX10 k).2.2.1 = some (tyX10 k) := by decide +kernel
abbrev cX10_init : ByteArray := prog_1_method_1_code
def yX10_init : MethodName := ⟨RX10, "<init>", "()V"⟩
abbrev cX10_feed : ByteArray := prog_1_method_2_code
def yX10_feed : MethodName := ⟨RX10, "feed", "(IIIII)I"⟩
abbrev cX10_append : ByteArray := prog_1_method_3_code
def yX10_append : MethodName := ⟨RX10, "append", "(I)V"⟩
abbrev cX10_trim : ByteArray := prog_1_method_4_code
def yX10_trim : MethodName := ⟨RX10, "trim", "(I)I"⟩
abbrev cX10_run : ByteArray := prog_1_method_5_code
def yX10_run : MethodName := ⟨RX10, "run", "()I"⟩
abbrev cX10_keepHouse : ByteArray := prog_1_method_6_code
def yX10_keepHouse : MethodName := ⟨RX10, "keepHouse", "()V"⟩
abbrev cX10_statements : ByteArray := prog_1_method_7_code
def yX10_statements : MethodName := ⟨RX10, "statements", "(II)V"⟩
abbrev cX10_at : ByteArray := prog_1_method_8_code
def yX10_at : MethodName := ⟨RX10, "at", "()I"⟩
abbrev cX10_steps : ByteArray := prog_1_method_9_code
def yX10_steps : MethodName := ⟨RX10, "steps", "()I"⟩
abbrev cX10_shown : ByteArray := prog_1_method_10_code
def yX10_shown : MethodName := ⟨RX10, "shown", "()I"⟩
abbrev cX10_byteAt : ByteArray := prog_1_method_11_code
def yX10_byteAt : MethodName := ⟨RX10, "byteAt", "(I)I"⟩
abbrev cX10_view : ByteArray := prog_1_method_12_code
def yX10_view : MethodName := ⟨RX10, "view", "()I"⟩
abbrev cX10_nameOnTape : ByteArray := prog_1_method_13_code
def yX10_nameOnTape : MethodName := ⟨RX10, "nameOnTape", "()I"⟩
abbrev cX10_into : ByteArray := prog_1_method_14_code
def yX10_into : MethodName := ⟨RX10, "into", "(I)I"⟩
abbrev cX10_back : ByteArray := prog_1_method_15_code
def yX10_back : MethodName := ⟨RX10, "back", "()I"⟩
abbrev cX10_about : ByteArray := prog_1_method_16_code
def yX10_about : MethodName := ⟨RX10, "about", "(I)I"⟩
abbrev cX10_extent : ByteArray := prog_1_method_17_code
def yX10_extent : MethodName := ⟨RX10, "extent", "(I)I"⟩
abbrev cX10_kind : ByteArray := prog_1_method_18_code
def yX10_kind : MethodName := ⟨RX10, "kind", "(I)I"⟩
abbrev cX10_number : ByteArray := prog_1_method_19_code
def yX10_number : MethodName := ⟨RX10, "number", "(IZ)I"⟩
abbrev cX10_viewed : ByteArray := prog_1_method_20_code
def yX10_viewed : MethodName := ⟨RX10, "viewed", "()I"⟩
abbrev cX10_told : ByteArray := prog_1_method_21_code
def yX10_told : MethodName := ⟨RX10, "told", "(I)I"⟩
abbrev cX10_meaning : ByteArray := prog_1_method_22_code
def yX10_meaning : MethodName := ⟨RX10, "meaning", "(I)I"⟩
abbrev cX10_sizes : ByteArray := prog_1_method_23_code
def yX10_sizes : MethodName := ⟨RX10, "sizes", "()I"⟩
abbrev cX10_forget : ByteArray := prog_1_method_24_code
def yX10_forget : MethodName := ⟨RX10, "forget", "()I"⟩
abbrev cX10_set : ByteArray := prog_1_method_25_code
def yX10_set : MethodName := ⟨RX10, "set", "(II)I"⟩
abbrev cX10_peek : ByteArray := prog_1_method_26_code
def yX10_peek : MethodName := ⟨RX10, "peek", "([II)I"⟩
def RX11 : String := "ArrayHouseModel"
def TX11 : u_T := fun k => match k with
  | 0 => ("ArrayHouseModel", "event", "I", false)
  | 1 => ("ArrayHouseModel", "steps", "I", false)
  | 2 => ("ArrayHouseModel", "open", "I", false)
  | 3 => ("ArrayHouseModel", "origin", "I", false)
  | 4 => ("ArrayHouseModel", "link", "J", false)
  | 5 => ("ArrayHouseModel", "mem", "[I", false)
  | 6 => ("ArrayHouseModel", "kept", "[I", true)
  | 7 => ("ArrayHouseModel", "top", "I", false)
  | 8 => ("ArrayHouseModel", "shape", "[I", true)
  | 9 => ("ArrayHouseModel", "axes", "I", false)
  | 10 => ("ArrayHouseModel", "itemN", "I", false)
  | 11 => ("ArrayHouseModel", "itemD", "I", false)
  | 12 => ("ArrayHouseModel", "spots", "[I", true)
  | 13 => ("ArrayHouseModel", "spotsToo", "[I", true)
  | 14 => ("ArrayHouseModel", "fills", "[I", true)
  | 15 => ("ArrayHouseModel", "filled", "I", false)
  | 16 => ("ArrayHouseModel", "said", "[B", true)
  | 17 => ("ArrayHouseModel", "saidMany", "I", false)
  | 18 => ("ArrayHouseModel", "spoken", "[B", true)
  | 19 => ("ArrayHouseModel", "written", "I", false)
  | 20 => ("ArrayHouseModel", "shows", "Z", false)
  | 21 => ("ArrayHouseModel", "wait", "[I", true)
  | 22 => ("ArrayHouseModel", "waits", "I", false)
  | 23 => ("ArrayHouseModel", "bytes", "[B", true)
  | 24 => ("ArrayHouseModel", "byteTop", "I", false)
  | 25 => ("ArrayHouseModel", "kind", "[I", true)
  | 26 => ("ArrayHouseModel", "low", "[I", true)
  | 27 => ("ArrayHouseModel", "high", "[I", true)
  | 28 => ("ArrayHouseModel", "from", "[I", true)
  | 29 => ("ArrayHouseModel", "to", "[I", true)
  | 30 => ("ArrayHouseModel", "partner", "[I", true)
  | 31 => ("ArrayHouseModel", "literal", "[I", true)
  | 32 => ("ArrayHouseModel", "tokens", "I", false)
  | 33 => ("ArrayHouseModel", "fault", "I", false)
  | 34 => ("ArrayHouseModel", "at", "I", false)
  | 35 => ("ArrayHouseModel", "end", "I", false)
  | 36 => ("ArrayHouseModel", "meant", "[I", true)
  | 37 => ("ArrayHouseModel", "nameLow", "[I", true)
  | 38 => ("ArrayHouseModel", "nameHigh", "[I", true)
  | 39 => ("ArrayHouseModel", "meaning", "[I", true)
  | 40 => ("ArrayHouseModel", "funcFrom", "[I", true)
  | 41 => ("ArrayHouseModel", "funcTo", "[I", true)
  | 42 => ("ArrayHouseModel", "textFrom", "[I", true)
  | 43 => ("ArrayHouseModel", "textMany", "[I", true)
  | 44 => ("ArrayHouseModel", "texts", "[B", true)
  | 45 => ("ArrayHouseModel", "textTop", "I", false)
  | 46 => ("ArrayHouseModel", "frames", "I", false)
  | 47 => ("ArrayHouseModel", "frameAround", "[I", true)
  | 48 => ("ArrayHouseModel", "frameLeft", "[I", true)
  | 49 => ("ArrayHouseModel", "frameRight", "[I", true)
  | 50 => ("ArrayHouseModel", "frameSelf", "[I", true)
  | 51 => ("ArrayHouseModel", "comes", "I", false)
  | 52 => ("ArrayHouseModel", "ended", "Z", false)
  | 53 => ("ArrayHouseModel", "met", "I", false)
  | 54 => ("ArrayHouseModel", "metEnd", "I", false)
  | 55 => ("ArrayHouseModel", "strandEnd", "I", false)
  | 56 => ("ArrayHouseModel", "strandNext", "I", false)
  | 57 => ("ArrayHouseModel", "strandMet", "I", false)
  | 58 => ("ArrayHouseModel", "functionEnd", "I", false)
  | 59 => ("ArrayHouseModel", "here", "I", false)
  | 60 => ("ArrayHouseModel", "list", "I", false)
  | 61 => ("ArrayHouseModel", "many", "I", false)
  | 62 => ("ArrayHouseModel", "chosenAt", "I", false)
  | 63 => ("ArrayHouseModel", "choosing", "I", false)
  | 64 => ("ArrayHouseModel", "chosenName", "[I", true)
  | 65 => ("ArrayHouseModel", "chosenOwn", "[I", true)
  | 66 => ("ArrayHouseModel", "guards", "I", false)
  | 67 => ("ArrayHouseModel", "guardMask", "[I", true)
  | 68 => ("ArrayHouseModel", "guardFrom", "[I", true)
  | 69 => ("ArrayHouseModel", "guardTo", "[I", true)
  | 70 => ("ArrayHouseModel", "tape", "[B", true)
  | 71 => ("ArrayHouseModel", "taped", "I", false)
  | 72 => ("ArrayHouseModel", "atStatement", "I", false)
  | 73 => ("ArrayHouseModel", "keepTop", "I", false)
  | 74 => ("ArrayHouseModel", "views", "I", false)
  | _ => ("ArrayHouseModel", "view", "[I", true)
def tyX11 : Nat → FieldType := fun k => match k with
  | 0 => .int
  | 1 => .int
  | 2 => .int
  | 3 => .int
  | 4 => .long
  | 5 => .array .int
  | 6 => .array .int
  | 7 => .int
  | 8 => .array .int
  | 9 => .int
  | 10 => .int
  | 11 => .int
  | 12 => .array .int
  | 13 => .array .int
  | 14 => .array .int
  | 15 => .int
  | 16 => .array .byte
  | 17 => .int
  | 18 => .array .byte
  | 19 => .int
  | 20 => .boolean
  | 21 => .array .int
  | 22 => .int
  | 23 => .array .byte
  | 24 => .int
  | 25 => .array .int
  | 26 => .array .int
  | 27 => .array .int
  | 28 => .array .int
  | 29 => .array .int
  | 30 => .array .int
  | 31 => .array .int
  | 32 => .int
  | 33 => .int
  | 34 => .int
  | 35 => .int
  | 36 => .array .int
  | 37 => .array .int
  | 38 => .array .int
  | 39 => .array .int
  | 40 => .array .int
  | 41 => .array .int
  | 42 => .array .int
  | 43 => .array .int
  | 44 => .array .byte
  | 45 => .int
  | 46 => .int
  | 47 => .array .int
  | 48 => .array .int
  | 49 => .array .int
  | 50 => .array .int
  | 51 => .int
  | 52 => .boolean
  | 53 => .int
  | 54 => .int
  | 55 => .int
  | 56 => .int
  | 57 => .int
  | 58 => .int
  | 59 => .int
  | 60 => .int
  | 61 => .int
  | 62 => .int
  | 63 => .int
  | 64 => .array .int
  | 65 => .array .int
  | 66 => .int
  | 67 => .array .int
  | 68 => .array .int
  | 69 => .array .int
  | 70 => .array .byte
  | 71 => .int
  | 72 => .int
  | 73 => .int
  | 74 => .int
  | _ => .array .int
abbrev wsX110 : List Cond := u_ws RX11 TX11 76
theorem nmX11 : ∀ a, a < 76 → ∀ b, b < 76 → a ≠ b → (TX11 a).2.1 ≠ (TX11 b).2.1 := by decide +kernel
theorem tyX11_ok : ∀ k, k < 76 → parseFieldDescriptor (TX11 k).2.2.1 = some (tyX11 k) := by decide +kernel
abbrev cX11_byteOf : ByteArray := prog_13_method_130_code
def yX11_byteOf : MethodName := ⟨RX11, "byteOf", "(I)I"⟩
abbrev cX11_scan : ByteArray := prog_13_method_134_code
def yX11_scan : MethodName := ⟨RX11, "scan", "(II)I"⟩
abbrev cX11_unframe : ByteArray := prog_13_method_186_code
def yX11_unframe : MethodName := ⟨RX11, "unframe", "(I)V"⟩
abbrev cX11_statementEnd : ByteArray := prog_13_method_191_code
def yX11_statementEnd : MethodName := ⟨RX11, "statementEnd", "(II)I"⟩
abbrev cX11_init : ByteArray := prog_13_method_192_code
def yX11_init : MethodName := ⟨RX11, "<init>", "()V"⟩
abbrev cX11_feed : ByteArray := prog_13_method_193_code
def yX11_feed : MethodName := ⟨RX11, "feed", "(IIIII)I"⟩
abbrev cX11_trim : ByteArray := prog_13_method_194_code
def yX11_trim : MethodName := ⟨RX11, "trim", "(I)I"⟩
abbrev cX11_run : ByteArray := prog_13_method_195_code
def yX11_run : MethodName := ⟨RX11, "run", "()I"⟩
abbrev cX11_settle : ByteArray := prog_13_method_197_code
def yX11_settle : MethodName := ⟨RX11, "settle", "()V"⟩
abbrev cX11_at : ByteArray := prog_13_method_199_code
def yX11_at : MethodName := ⟨RX11, "at", "()I"⟩
abbrev cX11_steps : ByteArray := prog_13_method_200_code
def yX11_steps : MethodName := ⟨RX11, "steps", "()I"⟩
abbrev cX11_shown : ByteArray := prog_13_method_201_code
def yX11_shown : MethodName := ⟨RX11, "shown", "()I"⟩
abbrev cX11_byteAt : ByteArray := prog_13_method_202_code
def yX11_byteAt : MethodName := ⟨RX11, "byteAt", "(I)I"⟩
abbrev cX11_taken_ : ByteArray := prog_13_method_203_code
def yX11_taken_ : MethodName := ⟨RX11, "taken", "()I"⟩
abbrev cX11_view : ByteArray := prog_13_method_204_code
def yX11_view : MethodName := ⟨RX11, "view", "()I"⟩
abbrev cX11_into : ByteArray := prog_13_method_206_code
def yX11_into : MethodName := ⟨RX11, "into", "(I)I"⟩
abbrev cX11_back : ByteArray := prog_13_method_207_code
def yX11_back : MethodName := ⟨RX11, "back", "()I"⟩
abbrev cX11_about : ByteArray := prog_13_method_208_code
def yX11_about : MethodName := ⟨RX11, "about", "(I)I"⟩
abbrev cX11_extent_ : ByteArray := prog_13_method_210_code
def yX11_extent_ : MethodName := ⟨RX11, "extent", "(I)I"⟩
abbrev cX11_viewed : ByteArray := prog_13_method_211_code
def yX11_viewed : MethodName := ⟨RX11, "viewed", "(I)Z"⟩
abbrev cX11_kind : ByteArray := prog_13_method_212_code
def yX11_kind : MethodName := ⟨RX11, "kind", "(I)I"⟩
abbrev cX11_number_ : ByteArray := prog_13_method_213_code
def yX11_number_ : MethodName := ⟨RX11, "number", "(IZ)I"⟩
abbrev cX11_told : ByteArray := prog_13_method_214_code
def yX11_told : MethodName := ⟨RX11, "told", "(I)I"⟩
abbrev cX11_forget : ByteArray := prog_13_method_215_code
def yX11_forget : MethodName := ⟨RX11, "forget", "()I"⟩
abbrev cX11_set_ : ByteArray := prog_13_method_216_code
def yX11_set_ : MethodName := ⟨RX11, "set", "(II)I"⟩
def RL : String := "ArrayHouseLaw"
abbrev cL_law : ByteArray := code
theorem dX0_init_0 : decode cX0_init 0 = .ok (.aload_n 0, 1) := by decide +kernel
theorem dX0_init_1 : decode cX0_init 1 = .ok (.invokespecial 3, 3) := by decide +kernel
theorem dX0_init_4 : decode cX0_init 4 = .ok (.aload_n 0, 1) := by decide +kernel
theorem dX0_init_5 : decode cX0_init 5 = .ok (.sipush 1000, 3) := by decide +kernel
theorem dX0_init_8 : decode cX0_init 8 = .ok (.newarray .int, 2) := by decide +kernel
theorem dX0_init_10 : decode cX0_init 10 = .ok (.putfield 9, 3) := by decide +kernel
theorem dX0_init_13 : decode cX0_init 13 = .ok (.aload_n 0, 1) := by decide +kernel
theorem dX0_init_14 : decode cX0_init 14 = .ok (.sipush 1000, 3) := by decide +kernel
theorem dX0_init_17 : decode cX0_init 17 = .ok (.newarray .int, 2) := by decide +kernel
theorem dX0_init_19 : decode cX0_init 19 = .ok (.putfield 15, 3) := by decide +kernel
theorem dX0_init_22 : decode cX0_init 22 = .ok (.aload_n 0, 1) := by decide +kernel
theorem dX0_init_23 : decode cX0_init 23 = .ok (.aload_n 1, 1) := by decide +kernel
theorem dX0_init_24 : decode cX0_init 24 = .ok (.putfield 18, 3) := by decide +kernel
theorem dX0_init_27 : decode cX0_init 27 = .ok (.aload_n 0, 1) := by decide +kernel
theorem dX0_init_28 : decode cX0_init 28 = .ok (.aload_n 2, 1) := by decide +kernel
theorem dX0_init_29 : decode cX0_init 29 = .ok (.putfield 22, 3) := by decide +kernel
theorem dX0_init_32 : decode cX0_init 32 = .ok (.aload_n 0, 1) := by decide +kernel
theorem dX0_init_33 : decode cX0_init 33 = .ok (.aload_n 3, 1) := by decide +kernel
theorem dX0_init_34 : decode cX0_init 34 = .ok (.putfield 26, 3) := by decide +kernel
theorem dX0_init_37 : decode cX0_init 37 = .ok (.aload_n 0, 1) := by decide +kernel
theorem dX0_init_38 : decode cX0_init 38 = .ok (.new 30, 3) := by decide +kernel
theorem dX0_init_41 : decode cX0_init 41 = .ok (.dup, 1) := by decide +kernel
theorem dX0_init_42 : decode cX0_init 42 = .ok (.aload_n 2, 1) := by decide +kernel
theorem dX0_init_43 : decode cX0_init 43 = .ok (.sipush 1000, 3) := by decide +kernel
theorem dX0_init_46 : decode cX0_init 46 = .ok (.invokespecial 32, 3) := by decide +kernel
theorem dX0_init_49 : decode cX0_init 49 = .ok (.putfield 35, 3) := by decide +kernel
theorem dX0_init_52 : decode cX0_init 52 = .ok (.return_, 1) := by decide +kernel
theorem dX1_init_0 : decode cX1_init 0 = .ok (.aload_n 0, 1) := by decide +kernel
theorem dX1_init_1 : decode cX1_init 1 = .ok (.invokespecial 3, 3) := by decide +kernel
theorem dX1_init_4 : decode cX1_init 4 = .ok (.aload_n 0, 1) := by decide +kernel
theorem dX1_init_5 : decode cX1_init 5 = .ok (.bipush 7, 2) := by decide +kernel
theorem dX1_init_7 : decode cX1_init 7 = .ok (.newarray .int, 2) := by decide +kernel
theorem dX1_init_9 : decode cX1_init 9 = .ok (.putfield 9, 3) := by decide +kernel
theorem dX1_init_12 : decode cX1_init 12 = .ok (.aload_n 0, 1) := by decide +kernel
theorem dX1_init_13 : decode cX1_init 13 = .ok (.sipush 4096, 3) := by decide +kernel
theorem dX1_init_16 : decode cX1_init 16 = .ok (.newarray .int, 2) := by decide +kernel
theorem dX1_init_18 : decode cX1_init 18 = .ok (.putfield 15, 3) := by decide +kernel
theorem dX1_init_21 : decode cX1_init 21 = .ok (.aload_n 0, 1) := by decide +kernel
theorem dX1_init_22 : decode cX1_init 22 = .ok (.sipush 1024, 3) := by decide +kernel
theorem dX1_init_25 : decode cX1_init 25 = .ok (.newarray .int, 2) := by decide +kernel
theorem dX1_init_27 : decode cX1_init 27 = .ok (.putfield 18, 3) := by decide +kernel
theorem dX1_init_30 : decode cX1_init 30 = .ok (.aload_n 0, 1) := by decide +kernel
theorem dX1_init_31 : decode cX1_init 31 = .ok (.bipush 16, 2) := by decide +kernel
theorem dX1_init_33 : decode cX1_init 33 = .ok (.putfield 21, 3) := by decide +kernel
theorem dX1_init_36 : decode cX1_init 36 = .ok (.aload_n 0, 1) := by decide +kernel
theorem dX1_init_37 : decode cX1_init 37 = .ok (.bipush 16, 2) := by decide +kernel
theorem dX1_init_39 : decode cX1_init 39 = .ok (.putfield 25, 3) := by decide +kernel
theorem dX1_init_42 : decode cX1_init 42 = .ok (.aload_n 0, 1) := by decide +kernel
theorem dX1_init_43 : decode cX1_init 43 = .ok (.iconst 1, 1) := by decide +kernel
theorem dX1_init_44 : decode cX1_init 44 = .ok (.putfield 28, 3) := by decide +kernel
theorem dX1_init_47 : decode cX1_init 47 = .ok (.aload_n 0, 1) := by decide +kernel
theorem dX1_init_48 : decode cX1_init 48 = .ok (.aload_n 1, 1) := by decide +kernel
theorem dX1_init_49 : decode cX1_init 49 = .ok (.putfield 31, 3) := by decide +kernel
theorem dX1_init_52 : decode cX1_init 52 = .ok (.return_, 1) := by decide +kernel
theorem dX1_size_0 : decode cX1_size 0 = .ok (.iload_n 1, 1) := by decide +kernel
theorem dX1_size_1 : decode cX1_size 1 = .ok (.ifCond .lt 25, 3) := by decide +kernel
theorem dX1_size_4 : decode cX1_size 4 = .ok (.iload_n 1, 1) := by decide +kernel
theorem dX1_size_5 : decode cX1_size 5 = .ok (.aload_n 0, 1) := by decide +kernel
theorem dX1_size_6 : decode cX1_size 6 = .ok (.getfield 15, 3) := by decide +kernel
theorem dX1_size_9 : decode cX1_size 9 = .ok (.arraylength, 1) := by decide +kernel
theorem dX1_size_10 : decode cX1_size 10 = .ok (.iconst 2, 1) := by decide +kernel
theorem dX1_size_11 : decode cX1_size 11 = .ok (.isub, 1) := by decide +kernel
theorem dX1_size_12 : decode cX1_size 12 = .ok (.if_icmp .ge 14, 3) := by decide +kernel
theorem dX1_size_15 : decode cX1_size 15 = .ok (.aload_n 0, 1) := by decide +kernel
theorem dX1_size_16 : decode cX1_size 16 = .ok (.getfield 15, 3) := by decide +kernel
theorem dX1_size_19 : decode cX1_size 19 = .ok (.iload_n 1, 1) := by decide +kernel
theorem dX1_size_20 : decode cX1_size 20 = .ok (.iconst 2, 1) := by decide +kernel
theorem dX1_size_21 : decode cX1_size 21 = .ok (.iadd, 1) := by decide +kernel
theorem dX1_size_22 : decode cX1_size 22 = .ok (.iaload, 1) := by decide +kernel
theorem dX1_size_23 : decode cX1_size 23 = .ok (.goto 4, 3) := by decide +kernel
theorem dX1_size_27 : decode cX1_size 27 = .ok (.ireturn, 1) := by decide +kernel
theorem dX1_unsettle_0 : decode cX1_unsettle 0 = .ok (.aload_n 0, 1) := by decide +kernel
theorem dX1_unsettle_1 : decode cX1_unsettle 1 = .ok (.bipush 16, 2) := by decide +kernel
theorem dX1_unsettle_3 : decode cX1_unsettle 3 = .ok (.iload_n 1, 1) := by decide +kernel
theorem dX1_unsettle_4 : decode cX1_unsettle 4 = .ok (.invokestatic 47, 3) := by decide +kernel
theorem dX1_unsettle_7 : decode cX1_unsettle 7 = .ok (.putfield 25, 3) := by decide +kernel
theorem dX1_unsettle_10 : decode cX1_unsettle 10 = .ok (.aload_n 0, 1) := by decide +kernel
theorem dX1_unsettle_11 : decode cX1_unsettle 11 = .ok (.iconst 0, 1) := by decide +kernel
theorem dX1_unsettle_12 : decode cX1_unsettle 12 = .ok (.putfield 182, 3) := by decide +kernel
theorem dX1_unsettle_15 : decode cX1_unsettle 15 = .ok (.return_, 1) := by decide +kernel
theorem dX1_moved_0 : decode cX1_moved 0 = .ok (.iload_n 1, 1) := by decide +kernel
theorem dX1_moved_1 : decode cX1_moved 1 = .ok (.aload_n 0, 1) := by decide +kernel
theorem dX1_moved_2 : decode cX1_moved 2 = .ok (.getfield 25, 3) := by decide +kernel
theorem dX1_moved_5 : decode cX1_moved 5 = .ok (.if_icmp .ge 5, 3) := by decide +kernel
theorem dX1_moved_8 : decode cX1_moved 8 = .ok (.iload_n 1, 1) := by decide +kernel
theorem dX1_moved_9 : decode cX1_moved 9 = .ok (.ireturn, 1) := by decide +kernel
theorem dX1_settle_0 : decode cX1_settle 0 = .ok (.aload_n 0, 1) := by decide +kernel
theorem dX1_settle_1 : decode cX1_settle 1 = .ok (.getfield 182, 3) := by decide +kernel
theorem dX1_settle_4 : decode cX1_settle 4 = .ok (.aload_n 0, 1) := by decide +kernel
theorem dX1_settle_5 : decode cX1_settle 5 = .ok (.getfield 18, 3) := by decide +kernel
theorem dX1_settle_8 : decode cX1_settle 8 = .ok (.arraylength, 1) := by decide +kernel
theorem dX1_settle_9 : decode cX1_settle 9 = .ok (.if_icmp .gt 20, 3) := by decide +kernel
theorem dX1_settle_12 : decode cX1_settle 12 = .ok (.aload_n 0, 1) := by decide +kernel
theorem dX1_settle_13 : decode cX1_settle 13 = .ok (.getfield 182, 3) := by decide +kernel
theorem dX1_settle_16 : decode cX1_settle 16 = .ok (.aload_n 0, 1) := by decide +kernel
theorem dX1_settle_17 : decode cX1_settle 17 = .ok (.getfield 15, 3) := by decide +kernel
theorem dX1_settle_20 : decode cX1_settle 20 = .ok (.arraylength, 1) := by decide +kernel
theorem dX1_settle_21 : decode cX1_settle 21 = .ok (.aload_n 0, 1) := by decide +kernel
theorem dX1_settle_22 : decode cX1_settle 22 = .ok (.getfield 25, 3) := by decide +kernel
theorem dX1_settle_25 : decode cX1_settle 25 = .ok (.isub, 1) := by decide +kernel
theorem dX1_settle_26 : decode cX1_settle 26 = .ok (.if_icmp .le 4, 3) := by decide +kernel
theorem dX1_settle_30 : decode cX1_settle 30 = .ok (.aload_n 0, 1) := by decide +kernel
theorem dX1_settle_31 : decode cX1_settle 31 = .ok (.getfield 18, 3) := by decide +kernel
theorem dX1_settle_34 : decode cX1_settle 34 = .ok (.iconst 0, 1) := by decide +kernel
theorem dX1_settle_35 : decode cX1_settle 35 = .ok (.aload_n 0, 1) := by decide +kernel
theorem dX1_settle_36 : decode cX1_settle 36 = .ok (.getfield 15, 3) := by decide +kernel
theorem dX1_settle_39 : decode cX1_settle 39 = .ok (.aload_n 0, 1) := by decide +kernel
theorem dX1_settle_40 : decode cX1_settle 40 = .ok (.getfield 25, 3) := by decide +kernel
theorem dX1_settle_43 : decode cX1_settle 43 = .ok (.aload_n 0, 1) := by decide +kernel
theorem dX1_settle_44 : decode cX1_settle 44 = .ok (.getfield 182, 3) := by decide +kernel
theorem dX1_settle_47 : decode cX1_settle 47 = .ok (.invokestatic 185, 3) := by decide +kernel
theorem dX1_settle_50 : decode cX1_settle 50 = .ok (.aload_n 0, 1) := by decide +kernel
theorem dX1_settle_51 : decode cX1_settle 51 = .ok (.aload_n 0, 1) := by decide +kernel
theorem dX1_settle_52 : decode cX1_settle 52 = .ok (.getfield 25, 3) := by decide +kernel
theorem dX1_settle_55 : decode cX1_settle 55 = .ok (.aload_n 0, 1) := by decide +kernel
theorem dX1_settle_56 : decode cX1_settle 56 = .ok (.getfield 182, 3) := by decide +kernel
theorem dX1_settle_59 : decode cX1_settle 59 = .ok (.iadd, 1) := by decide +kernel
theorem dX1_settle_60 : decode cX1_settle 60 = .ok (.putfield 21, 3) := by decide +kernel
theorem dX1_settle_63 : decode cX1_settle 63 = .ok (.return_, 1) := by decide +kernel
theorem dX2_init_0 : decode cX2_init 0 = .ok (.aload_n 0, 1) := by decide +kernel
theorem dX2_init_1 : decode cX2_init 1 = .ok (.invokespecial 3, 3) := by decide +kernel
theorem dX2_init_4 : decode cX2_init 4 = .ok (.aload_n 0, 1) := by decide +kernel
theorem dX2_init_5 : decode cX2_init 5 = .ok (.aload_n 1, 1) := by decide +kernel
theorem dX2_init_6 : decode cX2_init 6 = .ok (.putfield 9, 3) := by decide +kernel
theorem dX2_init_9 : decode cX2_init 9 = .ok (.aload_n 0, 1) := by decide +kernel
theorem dX2_init_10 : decode cX2_init 10 = .ok (.aload_n 2, 1) := by decide +kernel
theorem dX2_init_11 : decode cX2_init 11 = .ok (.putfield 15, 3) := by decide +kernel
theorem dX2_init_14 : decode cX2_init 14 = .ok (.aload_n 0, 1) := by decide +kernel
theorem dX2_init_15 : decode cX2_init 15 = .ok (.aload_n 3, 1) := by decide +kernel
theorem dX2_init_16 : decode cX2_init 16 = .ok (.putfield 19, 3) := by decide +kernel
theorem dX2_init_19 : decode cX2_init 19 = .ok (.aload_n 0, 1) := by decide +kernel
theorem dX2_init_20 : decode cX2_init 20 = .ok (.aload 4, 2) := by decide +kernel
theorem dX2_init_22 : decode cX2_init 22 = .ok (.putfield 23, 3) := by decide +kernel
theorem dX2_init_25 : decode cX2_init 25 = .ok (.return_, 1) := by decide +kernel
theorem dX3_init_0 : decode cX3_init 0 = .ok (.aload_n 0, 1) := by decide +kernel
theorem dX3_init_1 : decode cX3_init 1 = .ok (.invokespecial 3, 3) := by decide +kernel
theorem dX3_init_4 : decode cX3_init 4 = .ok (.aload_n 0, 1) := by decide +kernel
theorem dX3_init_5 : decode cX3_init 5 = .ok (.sipush 860, 3) := by decide +kernel
theorem dX3_init_8 : decode cX3_init 8 = .ok (.newarray .int, 2) := by decide +kernel
theorem dX3_init_10 : decode cX3_init 10 = .ok (.putfield 11, 3) := by decide +kernel
theorem dX3_init_13 : decode cX3_init 13 = .ok (.aload_n 0, 1) := by decide +kernel
theorem dX3_init_14 : decode cX3_init 14 = .ok (.sipush 860, 3) := by decide +kernel
theorem dX3_init_17 : decode cX3_init 17 = .ok (.newarray .int, 2) := by decide +kernel
theorem dX3_init_19 : decode cX3_init 19 = .ok (.putfield 15, 3) := by decide +kernel
theorem dX3_init_22 : decode cX3_init 22 = .ok (.aload_n 0, 1) := by decide +kernel
theorem dX3_init_23 : decode cX3_init 23 = .ok (.sipush 860, 3) := by decide +kernel
theorem dX3_init_26 : decode cX3_init 26 = .ok (.newarray .int, 2) := by decide +kernel
theorem dX3_init_28 : decode cX3_init 28 = .ok (.putfield 18, 3) := by decide +kernel
theorem dX3_init_31 : decode cX3_init 31 = .ok (.aload_n 0, 1) := by decide +kernel
theorem dX3_init_32 : decode cX3_init 32 = .ok (.sipush 860, 3) := by decide +kernel
theorem dX3_init_35 : decode cX3_init 35 = .ok (.newarray .int, 2) := by decide +kernel
theorem dX3_init_37 : decode cX3_init 37 = .ok (.putfield 21, 3) := by decide +kernel
theorem dX3_init_40 : decode cX3_init 40 = .ok (.aload_n 0, 1) := by decide +kernel
theorem dX3_init_41 : decode cX3_init 41 = .ok (.sipush 860, 3) := by decide +kernel
theorem dX3_init_44 : decode cX3_init 44 = .ok (.newarray .int, 2) := by decide +kernel
theorem dX3_init_46 : decode cX3_init 46 = .ok (.putfield 24, 3) := by decide +kernel
theorem dX3_init_49 : decode cX3_init 49 = .ok (.aload_n 0, 1) := by decide +kernel
theorem dX3_init_50 : decode cX3_init 50 = .ok (.bipush 41, 2) := by decide +kernel
theorem dX3_init_52 : decode cX3_init 52 = .ok (.newarray .int, 2) := by decide +kernel
theorem dX3_init_54 : decode cX3_init 54 = .ok (.putfield 27, 3) := by decide +kernel
theorem dX3_init_57 : decode cX3_init 57 = .ok (.aload_n 0, 1) := by decide +kernel
theorem dX3_init_58 : decode cX3_init 58 = .ok (.bipush 41, 2) := by decide +kernel
theorem dX3_init_60 : decode cX3_init 60 = .ok (.newarray .int, 2) := by decide +kernel
theorem dX3_init_62 : decode cX3_init 62 = .ok (.putfield 30, 3) := by decide +kernel
theorem dX3_init_65 : decode cX3_init 65 = .ok (.aload_n 0, 1) := by decide +kernel
theorem dX3_init_66 : decode cX3_init 66 = .ok (.bipush 41, 2) := by decide +kernel
theorem dX3_init_68 : decode cX3_init 68 = .ok (.newarray .int, 2) := by decide +kernel
theorem dX3_init_70 : decode cX3_init 70 = .ok (.putfield 33, 3) := by decide +kernel
theorem dX3_init_73 : decode cX3_init 73 = .ok (.aload_n 0, 1) := by decide +kernel
theorem dX3_init_74 : decode cX3_init 74 = .ok (.bipush 41, 2) := by decide +kernel
theorem dX3_init_76 : decode cX3_init 76 = .ok (.newarray .int, 2) := by decide +kernel
theorem dX3_init_78 : decode cX3_init 78 = .ok (.putfield 36, 3) := by decide +kernel
theorem dX3_init_81 : decode cX3_init 81 = .ok (.aload_n 0, 1) := by decide +kernel
theorem dX3_init_82 : decode cX3_init 82 = .ok (.bipush 41, 2) := by decide +kernel
theorem dX3_init_84 : decode cX3_init 84 = .ok (.newarray .int, 2) := by decide +kernel
theorem dX3_init_86 : decode cX3_init 86 = .ok (.putfield 39, 3) := by decide +kernel
theorem dX3_init_89 : decode cX3_init 89 = .ok (.aload_n 0, 1) := by decide +kernel
theorem dX3_init_90 : decode cX3_init 90 = .ok (.bipush 120, 2) := by decide +kernel
theorem dX3_init_92 : decode cX3_init 92 = .ok (.newarray .int, 2) := by decide +kernel
theorem dX3_init_94 : decode cX3_init 94 = .ok (.putfield 42, 3) := by decide +kernel
theorem dX3_init_97 : decode cX3_init 97 = .ok (.aload_n 0, 1) := by decide +kernel
theorem dX3_init_98 : decode cX3_init 98 = .ok (.aload_n 1, 1) := by decide +kernel
theorem dX3_init_99 : decode cX3_init 99 = .ok (.putfield 45, 3) := by decide +kernel
theorem dX3_init_102 : decode cX3_init 102 = .ok (.aload_n 0, 1) := by decide +kernel
theorem dX3_init_103 : decode cX3_init 103 = .ok (.aload_n 2, 1) := by decide +kernel
theorem dX3_init_104 : decode cX3_init 104 = .ok (.putfield 49, 3) := by decide +kernel
theorem dX3_init_107 : decode cX3_init 107 = .ok (.aload_n 0, 1) := by decide +kernel
theorem dX3_init_108 : decode cX3_init 108 = .ok (.aload_n 3, 1) := by decide +kernel
theorem dX3_init_109 : decode cX3_init 109 = .ok (.putfield 53, 3) := by decide +kernel
theorem dX3_init_112 : decode cX3_init 112 = .ok (.return_, 1) := by decide +kernel
theorem dX3_meansAt_0 : decode cX3_meansAt 0 = .ok (.aload_n 0, 1) := by decide +kernel
theorem dX3_meansAt_1 : decode cX3_meansAt 1 = .ok (.getfield 18, 3) := by decide +kernel
theorem dX3_meansAt_4 : decode cX3_meansAt 4 = .ok (.iload_n 1, 1) := by decide +kernel
theorem dX3_meansAt_5 : decode cX3_meansAt 5 = .ok (.invokestatic 57, 3) := by decide +kernel
theorem dX3_meansAt_8 : decode cX3_meansAt 8 = .ok (.ireturn, 1) := by decide +kernel
theorem dX3_firstSlot_0 : decode cX3_firstSlot 0 = .ok (.iload_n 1, 1) := by decide +kernel
theorem dX3_firstSlot_1 : decode cX3_firstSlot 1 = .ok (.ifCond .ne 7, 3) := by decide +kernel
theorem dX3_firstSlot_4 : decode cX3_firstSlot 4 = .ok (.iconst 0, 1) := by decide +kernel
theorem dX3_firstSlot_5 : decode cX3_firstSlot 5 = .ok (.goto 12, 3) := by decide +kernel
theorem dX3_firstSlot_17 : decode cX3_firstSlot 17 = .ok (.ireturn, 1) := by decide +kernel
theorem dX3_keep_0 : decode cX3_keep 0 = .ok (.aload_n 0, 1) := by decide +kernel
theorem dX3_keep_1 : decode cX3_keep 1 = .ok (.getfield 45, 3) := by decide +kernel
theorem dX3_keep_4 : decode cX3_keep 4 = .ok (.getfield 89, 3) := by decide +kernel
theorem dX3_keep_7 : decode cX3_keep 7 = .ok (.ifCond .ne 28, 3) := by decide +kernel
theorem dX3_keep_10 : decode cX3_keep 10 = .ok (.aload_n 0, 1) := by decide +kernel
theorem dX3_keep_11 : decode cX3_keep 11 = .ok (.getfield 49, 3) := by decide +kernel
theorem dX3_keep_14 : decode cX3_keep 14 = .ok (.getfield 94, 3) := by decide +kernel
theorem dX3_keep_17 : decode cX3_keep 17 = .ok (.iload_n 1, 1) := by decide +kernel
theorem dX3_keep_18 : decode cX3_keep 18 = .ok (.isub, 1) := by decide +kernel
theorem dX3_keep_19 : decode cX3_keep 19 = .ok (.bipush 64, 2) := by decide +kernel
theorem dX3_keep_21 : decode cX3_keep 21 = .ok (.iconst 4, 1) := by decide +kernel
theorem dX3_keep_22 : decode cX3_keep 22 = .ok (.aload_n 0, 1) := by decide +kernel
theorem dX3_keep_23 : decode cX3_keep 23 = .ok (.getfield 49, 3) := by decide +kernel
theorem dX3_keep_26 : decode cX3_keep 26 = .ok (.iload_n 2, 1) := by decide +kernel
theorem dX3_keep_27 : decode cX3_keep 27 = .ok (.invokevirtual 99, 3) := by decide +kernel
theorem dX3_keep_30 : decode cX3_keep 30 = .ok (.imul, 1) := by decide +kernel
theorem dX3_keep_31 : decode cX3_keep 31 = .ok (.iadd, 1) := by decide +kernel
theorem dX3_keep_32 : decode cX3_keep 32 = .ok (.if_icmp .ge 5, 3) := by decide +kernel
theorem dX3_keep_35 : decode cX3_keep 35 = .ok (.iload_n 2, 1) := by decide +kernel
theorem dX3_keep_36 : decode cX3_keep 36 = .ok (.ireturn, 1) := by decide +kernel
theorem dX3_pack_0 : decode cX3_pack 0 = .ok (.aload_n 0, 1) := by decide +kernel
theorem dX3_pack_1 : decode cX3_pack 1 = .ok (.getfield 49, 3) := by decide +kernel
theorem dX3_pack_4 : decode cX3_pack 4 = .ok (.iload_n 1, 1) := by decide +kernel
theorem dX3_pack_5 : decode cX3_pack 5 = .ok (.invokevirtual 106, 3) := by decide +kernel
theorem dX3_pack_8 : decode cX3_pack 8 = .ok (.aload_n 0, 1) := by decide +kernel
theorem dX3_pack_9 : decode cX3_pack 9 = .ok (.getfield 49, 3) := by decide +kernel
theorem dX3_pack_12 : decode cX3_pack 12 = .ok (.iload_n 2, 1) := by decide +kernel
theorem dX3_pack_13 : decode cX3_pack 13 = .ok (.invokevirtual 110, 3) := by decide +kernel
theorem dX3_pack_16 : decode cX3_pack 16 = .ok (.istore_n 3, 1) := by decide +kernel
theorem dX3_pack_17 : decode cX3_pack 17 = .ok (.iconst 0, 1) := by decide +kernel
theorem dX3_pack_18 : decode cX3_pack 18 = .ok (.istore 4, 2) := by decide +kernel
theorem dX3_pack_20 : decode cX3_pack 20 = .ok (.iload 4, 2) := by decide +kernel
theorem dX3_pack_22 : decode cX3_pack 22 = .ok (.aload_n 0, 1) := by decide +kernel
theorem dX3_pack_23 : decode cX3_pack 23 = .ok (.getfield 76, 3) := by decide +kernel
theorem dX3_pack_26 : decode cX3_pack 26 = .ok (.if_icmp .gt 83, 3) := by decide +kernel
theorem dX3_pack_29 : decode cX3_pack 29 = .ok (.aload_n 0, 1) := by decide +kernel
theorem dX3_pack_30 : decode cX3_pack 30 = .ok (.iload 4, 2) := by decide +kernel
theorem dX3_pack_32 : decode cX3_pack 32 = .ok (.invokevirtual 61, 3) := by decide +kernel
theorem dX3_pack_35 : decode cX3_pack 35 = .ok (.istore 5, 2) := by decide +kernel
theorem dX3_pack_37 : decode cX3_pack 37 = .ok (.iload 5, 2) := by decide +kernel
theorem dX3_pack_39 : decode cX3_pack 39 = .ok (.aload_n 0, 1) := by decide +kernel
theorem dX3_pack_40 : decode cX3_pack 40 = .ok (.getfield 27, 3) := by decide +kernel
theorem dX3_pack_43 : decode cX3_pack 43 = .ok (.iload 4, 2) := by decide +kernel
theorem dX3_pack_45 : decode cX3_pack 45 = .ok (.invokestatic 57, 3) := by decide +kernel
theorem dX3_pack_48 : decode cX3_pack 48 = .ok (.iadd, 1) := by decide +kernel
theorem dX3_pack_49 : decode cX3_pack 49 = .ok (.istore 6, 2) := by decide +kernel
theorem dX3_pack_51 : decode cX3_pack 51 = .ok (.iload 5, 2) := by decide +kernel
theorem dX3_pack_53 : decode cX3_pack 53 = .ok (.istore 7, 2) := by decide +kernel
theorem dX3_pack_55 : decode cX3_pack 55 = .ok (.iload 7, 2) := by decide +kernel
theorem dX3_pack_57 : decode cX3_pack 57 = .ok (.iload 6, 2) := by decide +kernel
theorem dX3_pack_59 : decode cX3_pack 59 = .ok (.if_icmp .ge 44, 3) := by decide +kernel
theorem dX3_pack_103 : decode cX3_pack 103 = .ok (.iinc 4 1, 3) := by decide +kernel
theorem dX3_pack_106 : decode cX3_pack 106 = .ok (.goto (-86), 3) := by decide +kernel
theorem dX3_pack_109 : decode cX3_pack 109 = .ok (.aload_n 0, 1) := by decide +kernel
theorem dX3_pack_110 : decode cX3_pack 110 = .ok (.getfield 53, 3) := by decide +kernel
theorem dX3_pack_113 : decode cX3_pack 113 = .ok (.iload_n 1, 1) := by decide +kernel
theorem dX3_pack_114 : decode cX3_pack 114 = .ok (.invokevirtual 113, 3) := by decide +kernel
theorem dX3_pack_117 : decode cX3_pack 117 = .ok (.aload_n 0, 1) := by decide +kernel
theorem dX3_pack_118 : decode cX3_pack 118 = .ok (.getfield 49, 3) := by decide +kernel
theorem dX3_pack_121 : decode cX3_pack 121 = .ok (.invokevirtual 118, 3) := by decide +kernel
theorem dX3_pack_124 : decode cX3_pack 124 = .ok (.iload_n 3, 1) := by decide +kernel
theorem dX3_pack_125 : decode cX3_pack 125 = .ok (.ireturn, 1) := by decide +kernel
theorem dX4_init_0 : decode cX4_init 0 = .ok (.aload_n 0, 1) := by decide +kernel
theorem dX4_init_1 : decode cX4_init 1 = .ok (.invokespecial 3, 3) := by decide +kernel
theorem dX4_init_4 : decode cX4_init 4 = .ok (.aload_n 0, 1) := by decide +kernel
theorem dX4_init_5 : decode cX4_init 5 = .ok (.sipush 1000, 3) := by decide +kernel
theorem dX4_init_8 : decode cX4_init 8 = .ok (.newarray .int, 2) := by decide +kernel
theorem dX4_init_10 : decode cX4_init 10 = .ok (.putfield 9, 3) := by decide +kernel
theorem dX4_init_13 : decode cX4_init 13 = .ok (.aload_n 0, 1) := by decide +kernel
theorem dX4_init_14 : decode cX4_init 14 = .ok (.aload_n 1, 1) := by decide +kernel
theorem dX4_init_15 : decode cX4_init 15 = .ok (.putfield 15, 3) := by decide +kernel
theorem dX4_init_18 : decode cX4_init 18 = .ok (.aload_n 0, 1) := by decide +kernel
theorem dX4_init_19 : decode cX4_init 19 = .ok (.aload_n 2, 1) := by decide +kernel
theorem dX4_init_20 : decode cX4_init 20 = .ok (.putfield 19, 3) := by decide +kernel
theorem dX4_init_23 : decode cX4_init 23 = .ok (.aload_n 0, 1) := by decide +kernel
theorem dX4_init_24 : decode cX4_init 24 = .ok (.aload_n 3, 1) := by decide +kernel
theorem dX4_init_25 : decode cX4_init 25 = .ok (.putfield 23, 3) := by decide +kernel
theorem dX4_init_28 : decode cX4_init 28 = .ok (.aload_n 0, 1) := by decide +kernel
theorem dX4_init_29 : decode cX4_init 29 = .ok (.aload 4, 2) := by decide +kernel
theorem dX4_init_31 : decode cX4_init 31 = .ok (.putfield 27, 3) := by decide +kernel
theorem dX4_init_34 : decode cX4_init 34 = .ok (.aload_n 0, 1) := by decide +kernel
theorem dX4_init_35 : decode cX4_init 35 = .ok (.aload 5, 2) := by decide +kernel
theorem dX4_init_37 : decode cX4_init 37 = .ok (.putfield 31, 3) := by decide +kernel
theorem dX4_init_40 : decode cX4_init 40 = .ok (.aload_n 0, 1) := by decide +kernel
theorem dX4_init_41 : decode cX4_init 41 = .ok (.aload 6, 2) := by decide +kernel
theorem dX4_init_43 : decode cX4_init 43 = .ok (.putfield 35, 3) := by decide +kernel
theorem dX4_init_46 : decode cX4_init 46 = .ok (.aload_n 0, 1) := by decide +kernel
theorem dX4_init_47 : decode cX4_init 47 = .ok (.new 39, 3) := by decide +kernel
theorem dX4_init_50 : decode cX4_init 50 = .ok (.dup, 1) := by decide +kernel
theorem dX4_init_51 : decode cX4_init 51 = .ok (.aload_n 1, 1) := by decide +kernel
theorem dX4_init_52 : decode cX4_init 52 = .ok (.aload_n 2, 1) := by decide +kernel
theorem dX4_init_53 : decode cX4_init 53 = .ok (.invokespecial 41, 3) := by decide +kernel
theorem dX4_init_56 : decode cX4_init 56 = .ok (.putfield 44, 3) := by decide +kernel
theorem dX4_init_59 : decode cX4_init 59 = .ok (.aload_n 0, 1) := by decide +kernel
theorem dX4_init_60 : decode cX4_init 60 = .ok (.new 48, 3) := by decide +kernel
theorem dX4_init_63 : decode cX4_init 63 = .ok (.dup, 1) := by decide +kernel
theorem dX4_init_64 : decode cX4_init 64 = .ok (.aload_n 1, 1) := by decide +kernel
theorem dX4_init_65 : decode cX4_init 65 = .ok (.aload_n 2, 1) := by decide +kernel
theorem dX4_init_66 : decode cX4_init 66 = .ok (.aload_n 0, 1) := by decide +kernel
theorem dX4_init_67 : decode cX4_init 67 = .ok (.getfield 44, 3) := by decide +kernel
theorem dX4_init_70 : decode cX4_init 70 = .ok (.invokespecial 50, 3) := by decide +kernel
theorem dX4_init_73 : decode cX4_init 73 = .ok (.putfield 53, 3) := by decide +kernel
theorem dX4_init_76 : decode cX4_init 76 = .ok (.return_, 1) := by decide +kernel
theorem dX4_houseBytes_0 : decode cX4_houseBytes 0 = .ok (.iconst 0, 1) := by decide +kernel
theorem dX4_houseBytes_1 : decode cX4_houseBytes 1 = .ok (.istore_n 1, 1) := by decide +kernel
theorem dX4_houseBytes_2 : decode cX4_houseBytes 2 = .ok (.iconst 0, 1) := by decide +kernel
theorem dX4_houseBytes_3 : decode cX4_houseBytes 3 = .ok (.istore_n 2, 1) := by decide +kernel
theorem dX4_houseBytes_4 : decode cX4_houseBytes 4 = .ok (.iload_n 2, 1) := by decide +kernel
theorem dX4_houseBytes_5 : decode cX4_houseBytes 5 = .ok (.bipush 60, 2) := by decide +kernel
theorem dX4_houseBytes_7 : decode cX4_houseBytes 7 = .ok (.if_icmp .ge 29, 3) := by decide +kernel
theorem dX4_houseBytes_10 : decode cX4_houseBytes 10 = .ok (.aload_n 0, 1) := by decide +kernel
theorem dX4_houseBytes_11 : decode cX4_houseBytes 11 = .ok (.getfield 27, 3) := by decide +kernel
theorem dX4_houseBytes_14 : decode cX4_houseBytes 14 = .ok (.iload_n 2, 1) := by decide +kernel
theorem dX4_houseBytes_15 : decode cX4_houseBytes 15 = .ok (.invokevirtual 215, 3) := by decide +kernel
theorem dX4_houseBytes_18 : decode cX4_houseBytes 18 = .ok (.iconst 2, 1) := by decide +kernel
theorem dX4_houseBytes_19 : decode cX4_houseBytes 19 = .ok (.if_icmp .ne 11, 3) := by decide +kernel
theorem dX4_houseBytes_30 : decode cX4_houseBytes 30 = .ok (.iinc 2 1, 3) := by decide +kernel
theorem dX4_houseBytes_33 : decode cX4_houseBytes 33 = .ok (.goto (-29), 3) := by decide +kernel
theorem dX4_houseBytes_36 : decode cX4_houseBytes 36 = .ok (.iload_n 1, 1) := by decide +kernel
theorem dX4_houseBytes_37 : decode cX4_houseBytes 37 = .ok (.ireturn, 1) := by decide +kernel
theorem dX5_init_0 : decode cX5_init 0 = .ok (.aload_n 0, 1) := by decide +kernel
theorem dX5_init_1 : decode cX5_init 1 = .ok (.invokespecial 3, 3) := by decide +kernel
theorem dX5_init_4 : decode cX5_init 4 = .ok (.aload_n 0, 1) := by decide +kernel
theorem dX5_init_5 : decode cX5_init 5 = .ok (.aload_n 1, 1) := by decide +kernel
theorem dX5_init_6 : decode cX5_init 6 = .ok (.putfield 9, 3) := by decide +kernel
theorem dX5_init_9 : decode cX5_init 9 = .ok (.aload_n 0, 1) := by decide +kernel
theorem dX5_init_10 : decode cX5_init 10 = .ok (.aload_n 2, 1) := by decide +kernel
theorem dX5_init_11 : decode cX5_init 11 = .ok (.putfield 15, 3) := by decide +kernel
theorem dX5_init_14 : decode cX5_init 14 = .ok (.return_, 1) := by decide +kernel
theorem dX6_init_0 : decode cX6_init 0 = .ok (.aload_n 0, 1) := by decide +kernel
theorem dX6_init_1 : decode cX6_init 1 = .ok (.invokespecial 3, 3) := by decide +kernel
theorem dX6_init_4 : decode cX6_init 4 = .ok (.aload_n 0, 1) := by decide +kernel
theorem dX6_init_5 : decode cX6_init 5 = .ok (.sipush 1000, 3) := by decide +kernel
theorem dX6_init_8 : decode cX6_init 8 = .ok (.newarray .int, 2) := by decide +kernel
theorem dX6_init_10 : decode cX6_init 10 = .ok (.putfield 9, 3) := by decide +kernel
theorem dX6_init_13 : decode cX6_init 13 = .ok (.aload_n 0, 1) := by decide +kernel
theorem dX6_init_14 : decode cX6_init 14 = .ok (.bipush 6, 2) := by decide +kernel
theorem dX6_init_16 : decode cX6_init 16 = .ok (.newarray .int, 2) := by decide +kernel
theorem dX6_init_18 : decode cX6_init 18 = .ok (.putfield 15, 3) := by decide +kernel
theorem dX6_init_21 : decode cX6_init 21 = .ok (.aload_n 0, 1) := by decide +kernel
theorem dX6_init_22 : decode cX6_init 22 = .ok (.bipush 6, 2) := by decide +kernel
theorem dX6_init_24 : decode cX6_init 24 = .ok (.newarray .int, 2) := by decide +kernel
theorem dX6_init_26 : decode cX6_init 26 = .ok (.putfield 18, 3) := by decide +kernel
theorem dX6_init_29 : decode cX6_init 29 = .ok (.aload_n 0, 1) := by decide +kernel
theorem dX6_init_30 : decode cX6_init 30 = .ok (.aload_n 1, 1) := by decide +kernel
theorem dX6_init_31 : decode cX6_init 31 = .ok (.putfield 21, 3) := by decide +kernel
theorem dX6_init_34 : decode cX6_init 34 = .ok (.aload_n 0, 1) := by decide +kernel
theorem dX6_init_35 : decode cX6_init 35 = .ok (.aload_n 2, 1) := by decide +kernel
theorem dX6_init_36 : decode cX6_init 36 = .ok (.putfield 25, 3) := by decide +kernel
theorem dX6_init_39 : decode cX6_init 39 = .ok (.return_, 1) := by decide +kernel
theorem dX7_init_0 : decode cX7_init 0 = .ok (.aload_n 0, 1) := by decide +kernel
theorem dX7_init_1 : decode cX7_init 1 = .ok (.invokespecial 3, 3) := by decide +kernel
theorem dX7_init_4 : decode cX7_init 4 = .ok (.aload_n 0, 1) := by decide +kernel
theorem dX7_init_5 : decode cX7_init 5 = .ok (.iconst 1, 1) := by decide +kernel
theorem dX7_init_6 : decode cX7_init 6 = .ok (.putfield 9, 3) := by decide +kernel
theorem dX7_init_9 : decode cX7_init 9 = .ok (.aload_n 0, 1) := by decide +kernel
theorem dX7_init_10 : decode cX7_init 10 = .ok (.iconst 1, 1) := by decide +kernel
theorem dX7_init_11 : decode cX7_init 11 = .ok (.putfield 15, 3) := by decide +kernel
theorem dX7_init_14 : decode cX7_init 14 = .ok (.return_, 1) := by decide +kernel
theorem dX7_begin_0 : decode cX7_begin 0 = .ok (.aload_n 0, 1) := by decide +kernel
theorem dX7_begin_1 : decode cX7_begin 1 = .ok (.iconst 0, 1) := by decide +kernel
theorem dX7_begin_2 : decode cX7_begin 2 = .ok (.putfield 18, 3) := by decide +kernel
theorem dX7_begin_5 : decode cX7_begin 5 = .ok (.aload_n 0, 1) := by decide +kernel
theorem dX7_begin_6 : decode cX7_begin 6 = .ok (.iconst 0, 1) := by decide +kernel
theorem dX7_begin_7 : decode cX7_begin 7 = .ok (.putfield 21, 3) := by decide +kernel
theorem dX7_begin_10 : decode cX7_begin 10 = .ok (.aload_n 0, 1) := by decide +kernel
theorem dX7_begin_11 : decode cX7_begin 11 = .ok (.iconst 0, 1) := by decide +kernel
theorem dX7_begin_12 : decode cX7_begin 12 = .ok (.putfield 24, 3) := by decide +kernel
theorem dX7_begin_15 : decode cX7_begin 15 = .ok (.return_, 1) := by decide +kernel
theorem dX8_init_0 : decode cX8_init 0 = .ok (.aload_n 0, 1) := by decide +kernel
theorem dX8_init_1 : decode cX8_init 1 = .ok (.invokespecial 3, 3) := by decide +kernel
theorem dX8_init_4 : decode cX8_init 4 = .ok (.aload_n 0, 1) := by decide +kernel
theorem dX8_init_5 : decode cX8_init 5 = .ok (.sipush 6000, 3) := by decide +kernel
theorem dX8_init_8 : decode cX8_init 8 = .ok (.newarray .byte, 2) := by decide +kernel
theorem dX8_init_10 : decode cX8_init 10 = .ok (.putfield 9, 3) := by decide +kernel
theorem dX8_init_13 : decode cX8_init 13 = .ok (.aload_n 0, 1) := by decide +kernel
theorem dX8_init_14 : decode cX8_init 14 = .ok (.sipush 1024, 3) := by decide +kernel
theorem dX8_init_17 : decode cX8_init 17 = .ok (.newarray .byte, 2) := by decide +kernel
theorem dX8_init_19 : decode cX8_init 19 = .ok (.putfield 15, 3) := by decide +kernel
theorem dX8_init_22 : decode cX8_init 22 = .ok (.aload_n 0, 1) := by decide +kernel
theorem dX8_init_23 : decode cX8_init 23 = .ok (.sipush 1024, 3) := by decide +kernel
theorem dX8_init_26 : decode cX8_init 26 = .ok (.newarray .int, 2) := by decide +kernel
theorem dX8_init_28 : decode cX8_init 28 = .ok (.putfield 18, 3) := by decide +kernel
theorem dX8_init_31 : decode cX8_init 31 = .ok (.aload_n 0, 1) := by decide +kernel
theorem dX8_init_32 : decode cX8_init 32 = .ok (.iconst (-1), 1) := by decide +kernel
theorem dX8_init_33 : decode cX8_init 33 = .ok (.putfield 22, 3) := by decide +kernel
theorem dX8_init_36 : decode cX8_init 36 = .ok (.return_, 1) := by decide +kernel
theorem dX8_scan_0 : decode cX8_scan 0 = .ok (.aload_n 0, 1) := by decide +kernel
theorem dX8_scan_1 : decode cX8_scan 1 = .ok (.iconst (-1), 1) := by decide +kernel
theorem dX8_scan_2 : decode cX8_scan 2 = .ok (.putfield 49, 3) := by decide +kernel
theorem dX8_scan_5 : decode cX8_scan 5 = .ok (.iload_n 1, 1) := by decide +kernel
theorem dX8_scan_6 : decode cX8_scan 6 = .ok (.istore_n 2, 1) := by decide +kernel
theorem dX8_scan_7 : decode cX8_scan 7 = .ok (.iload_n 2, 1) := by decide +kernel
theorem dX8_scan_8 : decode cX8_scan 8 = .ok (.aload_n 0, 1) := by decide +kernel
theorem dX8_scan_9 : decode cX8_scan 9 = .ok (.getfield 26, 3) := by decide +kernel
theorem dX8_scan_12 : decode cX8_scan 12 = .ok (.if_icmp .ge 116, 3) := by decide +kernel
theorem dX8_scan_128 : decode cX8_scan 128 = .ok (.aload_n 0, 1) := by decide +kernel
theorem dX8_scan_129 : decode cX8_scan 129 = .ok (.getfield 49, 3) := by decide +kernel
theorem dX8_scan_132 : decode cX8_scan 132 = .ok (.iconst (-1), 1) := by decide +kernel
theorem dX8_scan_133 : decode cX8_scan 133 = .ok (.if_icmp .ne 7, 3) := by decide +kernel
theorem dX8_scan_136 : decode cX8_scan 136 = .ok (.iconst (-1), 1) := by decide +kernel
theorem dX8_scan_137 : decode cX8_scan 137 = .ok (.goto 12, 3) := by decide +kernel
theorem dX8_scan_149 : decode cX8_scan 149 = .ok (.ireturn, 1) := by decide +kernel
theorem dX8_statementEnd_0 : decode cX8_statementEnd 0 = .ok (.aload_n 0, 1) := by decide +kernel
theorem dX8_statementEnd_1 : decode cX8_statementEnd 1 = .ok (.bipush 10, 2) := by decide +kernel
theorem dX8_statementEnd_3 : decode cX8_statementEnd 3 = .ok (.bipush 11, 2) := by decide +kernel
theorem dX8_statementEnd_5 : decode cX8_statementEnd 5 = .ok (.iload_n 1, 1) := by decide +kernel
theorem dX8_statementEnd_6 : decode cX8_statementEnd 6 = .ok (.iload_n 2, 1) := by decide +kernel
theorem dX8_statementEnd_7 : decode cX8_statementEnd 7 = .ok (.invokevirtual 151, 3) := by decide +kernel
theorem dX8_statementEnd_10 : decode cX8_statementEnd 10 = .ok (.ireturn, 1) := by decide +kernel
theorem dX8_firstOf_0 : decode cX8_firstOf 0 = .ok (.iload_n 3, 1) := by decide +kernel
theorem dX8_firstOf_1 : decode cX8_firstOf 1 = .ok (.istore 5, 2) := by decide +kernel
theorem dX8_firstOf_3 : decode cX8_firstOf 3 = .ok (.iload 5, 2) := by decide +kernel
theorem dX8_firstOf_5 : decode cX8_firstOf 5 = .ok (.iload 4, 2) := by decide +kernel
theorem dX8_firstOf_7 : decode cX8_firstOf 7 = .ok (.if_icmp .ge 65, 3) := by decide +kernel
theorem dX8_firstOf_72 : decode cX8_firstOf 72 = .ok (.iload 4, 2) := by decide +kernel
theorem dX8_firstOf_74 : decode cX8_firstOf 74 = .ok (.ireturn, 1) := by decide +kernel
theorem dX8_unmake_0 : decode cX8_unmake 0 = .ok (.aload_n 0, 1) := by decide +kernel
theorem dX8_unmake_1 : decode cX8_unmake 1 = .ok (.getfield 35, 3) := by decide +kernel
theorem dX8_unmake_4 : decode cX8_unmake 4 = .ok (.istore_n 2, 1) := by decide +kernel
theorem dX8_unmake_5 : decode cX8_unmake 5 = .ok (.iload_n 2, 1) := by decide +kernel
theorem dX8_unmake_6 : decode cX8_unmake 6 = .ok (.ifCond .le 54, 3) := by decide +kernel
theorem dX8_unmake_60 : decode cX8_unmake 60 = .ok (.return_, 1) := by decide +kernel
theorem dX9_init_0 : decode cX9_init 0 = .ok (.aload_n 0, 1) := by decide +kernel
theorem dX9_init_1 : decode cX9_init 1 = .ok (.invokespecial 3, 3) := by decide +kernel
theorem dX9_init_4 : decode cX9_init 4 = .ok (.aload_n 0, 1) := by decide +kernel
theorem dX9_init_5 : decode cX9_init 5 = .ok (.aload_n 1, 1) := by decide +kernel
theorem dX9_init_6 : decode cX9_init 6 = .ok (.putfield 9, 3) := by decide +kernel
theorem dX9_init_9 : decode cX9_init 9 = .ok (.aload_n 0, 1) := by decide +kernel
theorem dX9_init_10 : decode cX9_init 10 = .ok (.iconst 0, 1) := by decide +kernel
theorem dX9_init_11 : decode cX9_init 11 = .ok (.iload_n 2, 1) := by decide +kernel
theorem dX9_init_12 : decode cX9_init 12 = .ok (.invokestatic 15, 3) := by decide +kernel
theorem dX9_init_15 : decode cX9_init 15 = .ok (.newarray .byte, 2) := by decide +kernel
theorem dX9_init_17 : decode cX9_init 17 = .ok (.putfield 21, 3) := by decide +kernel
theorem dX9_init_20 : decode cX9_init 20 = .ok (.return_, 1) := by decide +kernel
theorem dX10_init_0 : decode cX10_init 0 = .ok (.aload_n 0, 1) := by decide +kernel
theorem dX10_init_1 : decode cX10_init 1 = .ok (.invokespecial 1, 3) := by decide +kernel
theorem dX10_init_4 : decode cX10_init 4 = .ok (.aload_n 0, 1) := by decide +kernel
theorem dX10_init_5 : decode cX10_init 5 = .ok (.new 7, 3) := by decide +kernel
theorem dX10_init_8 : decode cX10_init 8 = .ok (.dup, 1) := by decide +kernel
theorem dX10_init_9 : decode cX10_init 9 = .ok (.invokespecial 9, 3) := by decide +kernel
theorem dX10_init_12 : decode cX10_init 12 = .ok (.putfield 10, 3) := by decide +kernel
theorem dX10_init_15 : decode cX10_init 15 = .ok (.aload_n 0, 1) := by decide +kernel
theorem dX10_init_16 : decode cX10_init 16 = .ok (.new 16, 3) := by decide +kernel
theorem dX10_init_19 : decode cX10_init 19 = .ok (.dup, 1) := by decide +kernel
theorem dX10_init_20 : decode cX10_init 20 = .ok (.aload_n 0, 1) := by decide +kernel
theorem dX10_init_21 : decode cX10_init 21 = .ok (.getfield 10, 3) := by decide +kernel
theorem dX10_init_24 : decode cX10_init 24 = .ok (.invokespecial 18, 3) := by decide +kernel
theorem dX10_init_27 : decode cX10_init 27 = .ok (.putfield 21, 3) := by decide +kernel
theorem dX10_init_30 : decode cX10_init 30 = .ok (.aload_n 0, 1) := by decide +kernel
theorem dX10_init_31 : decode cX10_init 31 = .ok (.new 25, 3) := by decide +kernel
theorem dX10_init_34 : decode cX10_init 34 = .ok (.dup, 1) := by decide +kernel
theorem dX10_init_35 : decode cX10_init 35 = .ok (.invokespecial 27, 3) := by decide +kernel
theorem dX10_init_38 : decode cX10_init 38 = .ok (.putfield 28, 3) := by decide +kernel
theorem dX10_init_41 : decode cX10_init 41 = .ok (.aload_n 0, 1) := by decide +kernel
theorem dX10_init_42 : decode cX10_init 42 = .ok (.new 32, 3) := by decide +kernel
theorem dX10_init_45 : decode cX10_init 45 = .ok (.dup, 1) := by decide +kernel
theorem dX10_init_46 : decode cX10_init 46 = .ok (.aload_n 0, 1) := by decide +kernel
theorem dX10_init_47 : decode cX10_init 47 = .ok (.getfield 10, 3) := by decide +kernel
theorem dX10_init_50 : decode cX10_init 50 = .ok (.aload_n 0, 1) := by decide +kernel
theorem dX10_init_51 : decode cX10_init 51 = .ok (.getfield 21, 3) := by decide +kernel
theorem dX10_init_54 : decode cX10_init 54 = .ok (.aload_n 0, 1) := by decide +kernel
theorem dX10_init_55 : decode cX10_init 55 = .ok (.getfield 28, 3) := by decide +kernel
theorem dX10_init_58 : decode cX10_init 58 = .ok (.invokespecial 34, 3) := by decide +kernel
theorem dX10_init_61 : decode cX10_init 61 = .ok (.putfield 37, 3) := by decide +kernel
theorem dX10_init_64 : decode cX10_init 64 = .ok (.aload_n 0, 1) := by decide +kernel
theorem dX10_init_65 : decode cX10_init 65 = .ok (.new 41, 3) := by decide +kernel
theorem dX10_init_68 : decode cX10_init 68 = .ok (.dup, 1) := by decide +kernel
theorem dX10_init_69 : decode cX10_init 69 = .ok (.aload_n 0, 1) := by decide +kernel
theorem dX10_init_70 : decode cX10_init 70 = .ok (.getfield 21, 3) := by decide +kernel
theorem dX10_init_73 : decode cX10_init 73 = .ok (.sipush 8000, 3) := by decide +kernel
theorem dX10_init_76 : decode cX10_init 76 = .ok (.invokespecial 43, 3) := by decide +kernel
theorem dX10_init_79 : decode cX10_init 79 = .ok (.putfield 46, 3) := by decide +kernel
theorem dX10_init_82 : decode cX10_init 82 = .ok (.aload_n 0, 1) := by decide +kernel
theorem dX10_init_83 : decode cX10_init 83 = .ok (.sipush 4000, 3) := by decide +kernel
theorem dX10_init_86 : decode cX10_init 86 = .ok (.newarray .byte, 2) := by decide +kernel
theorem dX10_init_88 : decode cX10_init 88 = .ok (.putfield 50, 3) := by decide +kernel
theorem dX10_init_91 : decode cX10_init 91 = .ok (.aload_n 0, 1) := by decide +kernel
theorem dX10_init_92 : decode cX10_init 92 = .ok (.bipush 10, 2) := by decide +kernel
theorem dX10_init_94 : decode cX10_init 94 = .ok (.newarray .int, 2) := by decide +kernel
theorem dX10_init_96 : decode cX10_init 96 = .ok (.putfield 54, 3) := by decide +kernel
theorem dX10_init_99 : decode cX10_init 99 = .ok (.aload_n 0, 1) := by decide +kernel
theorem dX10_init_100 : decode cX10_init 100 = .ok (.iconst (-1), 1) := by decide +kernel
theorem dX10_init_101 : decode cX10_init 101 = .ok (.putfield 58, 3) := by decide +kernel
theorem dX10_init_104 : decode cX10_init 104 = .ok (.new 62, 3) := by decide +kernel
theorem dX10_init_107 : decode cX10_init 107 = .ok (.dup, 1) := by decide +kernel
theorem dX10_init_108 : decode cX10_init 108 = .ok (.aload_n 0, 1) := by decide +kernel
theorem dX10_init_109 : decode cX10_init 109 = .ok (.getfield 10, 3) := by decide +kernel
theorem dX10_init_112 : decode cX10_init 112 = .ok (.aload_n 0, 1) := by decide +kernel
theorem dX10_init_113 : decode cX10_init 113 = .ok (.getfield 21, 3) := by decide +kernel
theorem dX10_init_116 : decode cX10_init 116 = .ok (.invokespecial 64, 3) := by decide +kernel
theorem dX10_init_119 : decode cX10_init 119 = .ok (.astore_n 1, 1) := by decide +kernel
theorem dX10_init_120 : decode cX10_init 120 = .ok (.new 67, 3) := by decide +kernel
theorem dX10_init_123 : decode cX10_init 123 = .ok (.dup, 1) := by decide +kernel
theorem dX10_init_124 : decode cX10_init 124 = .ok (.aload_n 0, 1) := by decide +kernel
theorem dX10_init_125 : decode cX10_init 125 = .ok (.getfield 10, 3) := by decide +kernel
theorem dX10_init_128 : decode cX10_init 128 = .ok (.aload_n 0, 1) := by decide +kernel
theorem dX10_init_129 : decode cX10_init 129 = .ok (.getfield 21, 3) := by decide +kernel
theorem dX10_init_132 : decode cX10_init 132 = .ok (.aload_n 0, 1) := by decide +kernel
theorem dX10_init_133 : decode cX10_init 133 = .ok (.getfield 37, 3) := by decide +kernel
theorem dX10_init_136 : decode cX10_init 136 = .ok (.aload_n 1, 1) := by decide +kernel
theorem dX10_init_137 : decode cX10_init 137 = .ok (.invokespecial 69, 3) := by decide +kernel
theorem dX10_init_140 : decode cX10_init 140 = .ok (.astore_n 2, 1) := by decide +kernel
theorem dX10_init_141 : decode cX10_init 141 = .ok (.aload_n 0, 1) := by decide +kernel
theorem dX10_init_142 : decode cX10_init 142 = .ok (.new 72, 3) := by decide +kernel
theorem dX10_init_145 : decode cX10_init 145 = .ok (.dup, 1) := by decide +kernel
theorem dX10_init_146 : decode cX10_init 146 = .ok (.aload_n 0, 1) := by decide +kernel
theorem dX10_init_147 : decode cX10_init 147 = .ok (.getfield 10, 3) := by decide +kernel
theorem dX10_init_150 : decode cX10_init 150 = .ok (.aload_n 0, 1) := by decide +kernel
theorem dX10_init_151 : decode cX10_init 151 = .ok (.getfield 21, 3) := by decide +kernel
theorem dX10_init_154 : decode cX10_init 154 = .ok (.aload_n 0, 1) := by decide +kernel
theorem dX10_init_155 : decode cX10_init 155 = .ok (.getfield 28, 3) := by decide +kernel
theorem dX10_init_158 : decode cX10_init 158 = .ok (.aload_n 0, 1) := by decide +kernel
theorem dX10_init_159 : decode cX10_init 159 = .ok (.getfield 37, 3) := by decide +kernel
theorem dX10_init_162 : decode cX10_init 162 = .ok (.aload_n 1, 1) := by decide +kernel
theorem dX10_init_163 : decode cX10_init 163 = .ok (.aload_n 2, 1) := by decide +kernel
theorem dX10_init_164 : decode cX10_init 164 = .ok (.invokespecial 74, 3) := by decide +kernel
theorem dX10_init_167 : decode cX10_init 167 = .ok (.putfield 77, 3) := by decide +kernel
theorem dX10_init_170 : decode cX10_init 170 = .ok (.aload_n 2, 1) := by decide +kernel
theorem dX10_init_171 : decode cX10_init 171 = .ok (.aload_n 0, 1) := by decide +kernel
theorem dX10_init_172 : decode cX10_init 172 = .ok (.getfield 77, 3) := by decide +kernel
theorem dX10_init_175 : decode cX10_init 175 = .ok (.putfield 81, 3) := by decide +kernel
theorem dX10_init_178 : decode cX10_init 178 = .ok (.return_, 1) := by decide +kernel
theorem dX10_feed_0 : decode cX10_feed 0 = .ok (.aload_n 0, 1) := by decide +kernel
theorem dX10_feed_1 : decode cX10_feed 1 = .ok (.getfield 82, 3) := by decide +kernel
theorem dX10_feed_4 : decode cX10_feed 4 = .ok (.sipush 3980, 3) := by decide +kernel
theorem dX10_feed_7 : decode cX10_feed 7 = .ok (.if_icmp .le 5, 3) := by decide +kernel
theorem dX10_feed_12 : decode cX10_feed 12 = .ok (.aload_n 0, 1) := by decide +kernel
theorem dX10_feed_13 : decode cX10_feed 13 = .ok (.iload_n 1, 1) := by decide +kernel
theorem dX10_feed_14 : decode cX10_feed 14 = .ok (.invokevirtual 85, 3) := by decide +kernel
theorem dX10_feed_17 : decode cX10_feed 17 = .ok (.aload_n 0, 1) := by decide +kernel
theorem dX10_feed_18 : decode cX10_feed 18 = .ok (.iload_n 2, 1) := by decide +kernel
theorem dX10_feed_19 : decode cX10_feed 19 = .ok (.invokevirtual 85, 3) := by decide +kernel
theorem dX10_feed_22 : decode cX10_feed 22 = .ok (.aload_n 0, 1) := by decide +kernel
theorem dX10_feed_23 : decode cX10_feed 23 = .ok (.iload_n 3, 1) := by decide +kernel
theorem dX10_feed_24 : decode cX10_feed 24 = .ok (.invokevirtual 85, 3) := by decide +kernel
theorem dX10_feed_27 : decode cX10_feed 27 = .ok (.aload_n 0, 1) := by decide +kernel
theorem dX10_feed_28 : decode cX10_feed 28 = .ok (.iload 4, 2) := by decide +kernel
theorem dX10_feed_30 : decode cX10_feed 30 = .ok (.invokevirtual 85, 3) := by decide +kernel
theorem dX10_feed_33 : decode cX10_feed 33 = .ok (.aload_n 0, 1) := by decide +kernel
theorem dX10_feed_34 : decode cX10_feed 34 = .ok (.iload 5, 2) := by decide +kernel
theorem dX10_feed_36 : decode cX10_feed 36 = .ok (.invokevirtual 85, 3) := by decide +kernel
theorem dX10_feed_39 : decode cX10_feed 39 = .ok (.aload_n 0, 1) := by decide +kernel
theorem dX10_feed_40 : decode cX10_feed 40 = .ok (.getfield 82, 3) := by decide +kernel
theorem dX10_feed_43 : decode cX10_feed 43 = .ok (.ireturn, 1) := by decide +kernel
theorem dX10_append_0 : decode cX10_append 0 = .ok (.bipush 24, 2) := by decide +kernel
theorem dX10_append_2 : decode cX10_append 2 = .ok (.istore_n 2, 1) := by decide +kernel
theorem dX10_append_3 : decode cX10_append 3 = .ok (.iload_n 2, 1) := by decide +kernel
theorem dX10_append_4 : decode cX10_append 4 = .ok (.ifCond .lt 48, 3) := by decide +kernel
theorem dX10_append_7 : decode cX10_append 7 = .ok (.aload_n 0, 1) := by decide +kernel
theorem dX10_append_8 : decode cX10_append 8 = .ok (.getfield 82, 3) := by decide +kernel
theorem dX10_append_11 : decode cX10_append 11 = .ok (.ifCond .lt 35, 3) := by decide +kernel
theorem dX10_append_14 : decode cX10_append 14 = .ok (.aload_n 0, 1) := by decide +kernel
theorem dX10_append_15 : decode cX10_append 15 = .ok (.getfield 82, 3) := by decide +kernel
theorem dX10_append_18 : decode cX10_append 18 = .ok (.aload_n 0, 1) := by decide +kernel
theorem dX10_append_19 : decode cX10_append 19 = .ok (.getfield 50, 3) := by decide +kernel
theorem dX10_append_22 : decode cX10_append 22 = .ok (.arraylength, 1) := by decide +kernel
theorem dX10_append_23 : decode cX10_append 23 = .ok (.if_icmp .ge 23, 3) := by decide +kernel
theorem dX10_append_26 : decode cX10_append 26 = .ok (.aload_n 0, 1) := by decide +kernel
theorem dX10_append_27 : decode cX10_append 27 = .ok (.getfield 50, 3) := by decide +kernel
theorem dX10_append_30 : decode cX10_append 30 = .ok (.aload_n 0, 1) := by decide +kernel
theorem dX10_append_31 : decode cX10_append 31 = .ok (.dup, 1) := by decide +kernel
theorem dX10_append_32 : decode cX10_append 32 = .ok (.getfield 82, 3) := by decide +kernel
theorem dX10_append_35 : decode cX10_append 35 = .ok (.dup_x1, 1) := by decide +kernel
theorem dX10_append_36 : decode cX10_append 36 = .ok (.iconst 1, 1) := by decide +kernel
theorem dX10_append_37 : decode cX10_append 37 = .ok (.iadd, 1) := by decide +kernel
theorem dX10_append_38 : decode cX10_append 38 = .ok (.putfield 82, 3) := by decide +kernel
theorem dX10_append_41 : decode cX10_append 41 = .ok (.iload_n 1, 1) := by decide +kernel
theorem dX10_append_42 : decode cX10_append 42 = .ok (.iload_n 2, 1) := by decide +kernel
theorem dX10_append_43 : decode cX10_append 43 = .ok (.ishr, 1) := by decide +kernel
theorem dX10_append_44 : decode cX10_append 44 = .ok (.i2b, 1) := by decide +kernel
theorem dX10_append_45 : decode cX10_append 45 = .ok (.bastore, 1) := by decide +kernel
theorem dX10_append_46 : decode cX10_append 46 = .ok (.iinc 2 (-8), 3) := by decide +kernel
theorem dX10_append_49 : decode cX10_append 49 = .ok (.goto (-46), 3) := by decide +kernel
theorem dX10_append_52 : decode cX10_append 52 = .ok (.return_, 1) := by decide +kernel
theorem dX10_trim_0 : decode cX10_trim 0 = .ok (.iload_n 1, 1) := by decide +kernel
theorem dX10_trim_1 : decode cX10_trim 1 = .ok (.ifCond .lt 11, 3) := by decide +kernel
theorem dX10_trim_4 : decode cX10_trim 4 = .ok (.iload_n 1, 1) := by decide +kernel
theorem dX10_trim_5 : decode cX10_trim 5 = .ok (.aload_n 0, 1) := by decide +kernel
theorem dX10_trim_6 : decode cX10_trim 6 = .ok (.getfield 82, 3) := by decide +kernel
theorem dX10_trim_9 : decode cX10_trim 9 = .ok (.if_icmp .le 5, 3) := by decide +kernel
theorem dX10_trim_12 : decode cX10_trim 12 = .ok (.iconst (-1), 1) := by decide +kernel
theorem dX10_trim_13 : decode cX10_trim 13 = .ok (.ireturn, 1) := by decide +kernel
theorem dX10_trim_14 : decode cX10_trim 14 = .ok (.aload_n 0, 1) := by decide +kernel
theorem dX10_trim_15 : decode cX10_trim 15 = .ok (.iload_n 1, 1) := by decide +kernel
theorem dX10_trim_16 : decode cX10_trim 16 = .ok (.putfield 82, 3) := by decide +kernel
theorem dX10_trim_19 : decode cX10_trim 19 = .ok (.iload_n 1, 1) := by decide +kernel
theorem dX10_trim_20 : decode cX10_trim 20 = .ok (.ireturn, 1) := by decide +kernel
theorem dX10_run_0 : decode cX10_run 0 = .ok (.aload_n 0, 1) := by decide +kernel
theorem dX10_run_1 : decode cX10_run 1 = .ok (.getfield 46, 3) := by decide +kernel
theorem dX10_run_4 : decode cX10_run 4 = .ok (.iconst 0, 1) := by decide +kernel
theorem dX10_run_5 : decode cX10_run 5 = .ok (.putfield 89, 3) := by decide +kernel
theorem dX10_run_8 : decode cX10_run 8 = .ok (.aload_n 0, 1) := by decide +kernel
theorem dX10_run_9 : decode cX10_run 9 = .ok (.iconst 0, 1) := by decide +kernel
theorem dX10_run_10 : decode cX10_run 10 = .ok (.putfield 92, 3) := by decide +kernel
theorem dX10_run_13 : decode cX10_run 13 = .ok (.aload_n 0, 1) := by decide +kernel
theorem dX10_run_14 : decode cX10_run 14 = .ok (.iconst (-1), 1) := by decide +kernel
theorem dX10_run_15 : decode cX10_run 15 = .ok (.putfield 58, 3) := by decide +kernel
theorem dX10_run_18 : decode cX10_run 18 = .ok (.aload_n 0, 1) := by decide +kernel
theorem dX10_run_19 : decode cX10_run 19 = .ok (.getfield 10, 3) := by decide +kernel
theorem dX10_run_22 : decode cX10_run 22 = .ok (.invokevirtual 95, 3) := by decide +kernel
theorem dX10_run_25 : decode cX10_run 25 = .ok (.aload_n 0, 1) := by decide +kernel
theorem dX10_run_26 : decode cX10_run 26 = .ok (.invokevirtual 98, 3) := by decide +kernel
theorem dX10_run_29 : decode cX10_run 29 = .ok (.aload_n 0, 1) := by decide +kernel
theorem dX10_run_30 : decode cX10_run 30 = .ok (.getfield 28, 3) := by decide +kernel
theorem dX10_run_33 : decode cX10_run 33 = .ok (.getfield 101, 3) := by decide +kernel
theorem dX10_run_36 : decode cX10_run 36 = .ok (.istore_n 1, 1) := by decide +kernel
theorem dX10_run_37 : decode cX10_run 37 = .ok (.iconst 0, 1) := by decide +kernel
theorem dX10_run_38 : decode cX10_run 38 = .ok (.istore_n 2, 1) := by decide +kernel
theorem dX10_run_39 : decode cX10_run 39 = .ok (.iload_n 2, 1) := by decide +kernel
theorem dX10_run_40 : decode cX10_run 40 = .ok (.aload_n 0, 1) := by decide +kernel
theorem dX10_run_41 : decode cX10_run 41 = .ok (.getfield 82, 3) := by decide +kernel
theorem dX10_run_44 : decode cX10_run 44 = .ok (.if_icmp .ge 35, 3) := by decide +kernel
theorem dX10_run_79 : decode cX10_run 79 = .ok (.aload_n 0, 1) := by decide +kernel
theorem dX10_run_80 : decode cX10_run 80 = .ok (.iconst 0, 1) := by decide +kernel
theorem dX10_run_81 : decode cX10_run 81 = .ok (.putfield 82, 3) := by decide +kernel
theorem dX10_run_84 : decode cX10_run 84 = .ok (.aload_n 0, 1) := by decide +kernel
theorem dX10_run_85 : decode cX10_run 85 = .ok (.getfield 28, 3) := by decide +kernel
theorem dX10_run_88 : decode cX10_run 88 = .ok (.getfield 105, 3) := by decide +kernel
theorem dX10_run_91 : decode cX10_run 91 = .ok (.istore_n 2, 1) := by decide +kernel
theorem dX10_run_92 : decode cX10_run 92 = .ok (.aload_n 0, 1) := by decide +kernel
theorem dX10_run_93 : decode cX10_run 93 = .ok (.getfield 28, 3) := by decide +kernel
theorem dX10_run_96 : decode cX10_run 96 = .ok (.iload_n 1, 1) := by decide +kernel
theorem dX10_run_97 : decode cX10_run 97 = .ok (.invokevirtual 108, 3) := by decide +kernel
theorem dX10_run_100 : decode cX10_run 100 = .ok (.istore_n 3, 1) := by decide +kernel
theorem dX10_run_101 : decode cX10_run 101 = .ok (.iload_n 3, 1) := by decide +kernel
theorem dX10_run_102 : decode cX10_run 102 = .ok (.ifCond .lt 10, 3) := by decide +kernel
theorem dX10_run_112 : decode cX10_run 112 = .ok (.aload_n 0, 1) := by decide +kernel
theorem dX10_run_113 : decode cX10_run 113 = .ok (.iload_n 2, 1) := by decide +kernel
theorem dX10_run_114 : decode cX10_run 114 = .ok (.aload_n 0, 1) := by decide +kernel
theorem dX10_run_115 : decode cX10_run 115 = .ok (.getfield 28, 3) := by decide +kernel
theorem dX10_run_118 : decode cX10_run 118 = .ok (.getfield 105, 3) := by decide +kernel
theorem dX10_run_121 : decode cX10_run 121 = .ok (.invokevirtual 112, 3) := by decide +kernel
theorem dX10_run_124 : decode cX10_run 124 = .ok (.aload_n 0, 1) := by decide +kernel
theorem dX10_run_125 : decode cX10_run 125 = .ok (.getfield 10, 3) := by decide +kernel
theorem dX10_run_128 : decode cX10_run 128 = .ok (.getfield 116, 3) := by decide +kernel
theorem dX10_run_131 : decode cX10_run 131 = .ok (.ireturn, 1) := by decide +kernel
theorem dX10_keepHouse_0 : decode cX10_keepHouse 0 = .ok (.aload_n 0, 1) := by decide +kernel
theorem dX10_keepHouse_1 : decode cX10_keepHouse 1 = .ok (.getfield 77, 3) := by decide +kernel
theorem dX10_keepHouse_4 : decode cX10_keepHouse 4 = .ok (.iconst 0, 1) := by decide +kernel
theorem dX10_keepHouse_5 : decode cX10_keepHouse 5 = .ok (.putfield 119, 3) := by decide +kernel
theorem dX10_keepHouse_8 : decode cX10_keepHouse 8 = .ok (.aload_n 0, 1) := by decide +kernel
theorem dX10_keepHouse_9 : decode cX10_keepHouse 9 = .ok (.getfield 37, 3) := by decide +kernel
theorem dX10_keepHouse_12 : decode cX10_keepHouse 12 = .ok (.iconst 0, 1) := by decide +kernel
theorem dX10_keepHouse_13 : decode cX10_keepHouse 13 = .ok (.putfield 122, 3) := by decide +kernel
theorem dX10_keepHouse_16 : decode cX10_keepHouse 16 = .ok (.aload_n 0, 1) := by decide +kernel
theorem dX10_keepHouse_17 : decode cX10_keepHouse 17 = .ok (.getfield 37, 3) := by decide +kernel
theorem dX10_keepHouse_20 : decode cX10_keepHouse 20 = .ok (.iconst 0, 1) := by decide +kernel
theorem dX10_keepHouse_21 : decode cX10_keepHouse 21 = .ok (.putfield 125, 3) := by decide +kernel
theorem dX10_keepHouse_24 : decode cX10_keepHouse 24 = .ok (.aload_n 0, 1) := by decide +kernel
theorem dX10_keepHouse_25 : decode cX10_keepHouse 25 = .ok (.getfield 37, 3) := by decide +kernel
theorem dX10_keepHouse_28 : decode cX10_keepHouse 28 = .ok (.bipush 16, 2) := by decide +kernel
theorem dX10_keepHouse_30 : decode cX10_keepHouse 30 = .ok (.iconst 0, 1) := by decide +kernel
theorem dX10_keepHouse_31 : decode cX10_keepHouse 31 = .ok (.invokevirtual 128, 3) := by decide +kernel
theorem dX10_keepHouse_34 : decode cX10_keepHouse 34 = .ok (.pop, 1) := by decide +kernel
theorem dX10_keepHouse_35 : decode cX10_keepHouse 35 = .ok (.aload_n 0, 1) := by decide +kernel
theorem dX10_keepHouse_36 : decode cX10_keepHouse 36 = .ok (.getfield 28, 3) := by decide +kernel
theorem dX10_keepHouse_39 : decode cX10_keepHouse 39 = .ok (.iconst 0, 1) := by decide +kernel
theorem dX10_keepHouse_40 : decode cX10_keepHouse 40 = .ok (.putfield 132, 3) := by decide +kernel
theorem dX10_keepHouse_43 : decode cX10_keepHouse 43 = .ok (.iconst 0, 1) := by decide +kernel
theorem dX10_keepHouse_44 : decode cX10_keepHouse 44 = .ok (.istore_n 1, 1) := by decide +kernel
theorem dX10_keepHouse_45 : decode cX10_keepHouse 45 = .ok (.iload_n 1, 1) := by decide +kernel
theorem dX10_keepHouse_46 : decode cX10_keepHouse 46 = .ok (.bipush 60, 2) := by decide +kernel
theorem dX10_keepHouse_48 : decode cX10_keepHouse 48 = .ok (.if_icmp .ge 86, 3) := by decide +kernel
theorem dX10_keepHouse_51 : decode cX10_keepHouse 51 = .ok (.aload_n 0, 1) := by decide +kernel
theorem dX10_keepHouse_52 : decode cX10_keepHouse 52 = .ok (.getfield 37, 3) := by decide +kernel
theorem dX10_keepHouse_55 : decode cX10_keepHouse 55 = .ok (.iload_n 1, 1) := by decide +kernel
theorem dX10_keepHouse_56 : decode cX10_keepHouse 56 = .ok (.invokevirtual 135, 3) := by decide +kernel
theorem dX10_keepHouse_59 : decode cX10_keepHouse 59 = .ok (.iconst 2, 1) := by decide +kernel
theorem dX10_keepHouse_60 : decode cX10_keepHouse 60 = .ok (.if_icmp .eq 6, 3) := by decide +kernel
theorem dX10_keepHouse_63 : decode cX10_keepHouse 63 = .ok (.goto 65, 3) := by decide +kernel
theorem dX10_keepHouse_128 : decode cX10_keepHouse 128 = .ok (.iinc 1 1, 3) := by decide +kernel
theorem dX10_keepHouse_131 : decode cX10_keepHouse 131 = .ok (.goto (-86), 3) := by decide +kernel
theorem dX10_keepHouse_134 : decode cX10_keepHouse 134 = .ok (.aload_n 0, 1) := by decide +kernel
theorem dX10_keepHouse_135 : decode cX10_keepHouse 135 = .ok (.getfield 28, 3) := by decide +kernel
theorem dX10_keepHouse_138 : decode cX10_keepHouse 138 = .ok (.iconst 0, 1) := by decide +kernel
theorem dX10_keepHouse_139 : decode cX10_keepHouse 139 = .ok (.putfield 101, 3) := by decide +kernel
theorem dX10_keepHouse_142 : decode cX10_keepHouse 142 = .ok (.aload_n 0, 1) := by decide +kernel
theorem dX10_keepHouse_143 : decode cX10_keepHouse 143 = .ok (.getfield 28, 3) := by decide +kernel
theorem dX10_keepHouse_146 : decode cX10_keepHouse 146 = .ok (.iconst 0, 1) := by decide +kernel
theorem dX10_keepHouse_147 : decode cX10_keepHouse 147 = .ok (.putfield 105, 3) := by decide +kernel
theorem dX10_keepHouse_150 : decode cX10_keepHouse 150 = .ok (.iconst 0, 1) := by decide +kernel
theorem dX10_keepHouse_151 : decode cX10_keepHouse 151 = .ok (.istore_n 1, 1) := by decide +kernel
theorem dX10_keepHouse_152 : decode cX10_keepHouse 152 = .ok (.iload_n 1, 1) := by decide +kernel
theorem dX10_keepHouse_153 : decode cX10_keepHouse 153 = .ok (.bipush 60, 2) := by decide +kernel
theorem dX10_keepHouse_155 : decode cX10_keepHouse 155 = .ok (.if_icmp .ge 91, 3) := by decide +kernel
theorem dX10_keepHouse_158 : decode cX10_keepHouse 158 = .ok (.aload_n 0, 1) := by decide +kernel
theorem dX10_keepHouse_159 : decode cX10_keepHouse 159 = .ok (.getfield 37, 3) := by decide +kernel
theorem dX10_keepHouse_162 : decode cX10_keepHouse 162 = .ok (.iload_n 1, 1) := by decide +kernel
theorem dX10_keepHouse_163 : decode cX10_keepHouse 163 = .ok (.invokevirtual 135, 3) := by decide +kernel
theorem dX10_keepHouse_166 : decode cX10_keepHouse 166 = .ok (.iconst 2, 1) := by decide +kernel
theorem dX10_keepHouse_167 : decode cX10_keepHouse 167 = .ok (.if_icmp .eq 6, 3) := by decide +kernel
theorem dX10_keepHouse_170 : decode cX10_keepHouse 170 = .ok (.goto 70, 3) := by decide +kernel
theorem dX10_keepHouse_240 : decode cX10_keepHouse 240 = .ok (.iinc 1 1, 3) := by decide +kernel
theorem dX10_keepHouse_243 : decode cX10_keepHouse 243 = .ok (.goto (-91), 3) := by decide +kernel
theorem dX10_keepHouse_246 : decode cX10_keepHouse 246 = .ok (.return_, 1) := by decide +kernel
theorem dX10_statements_0 : decode cX10_statements 0 = .ok (.iload_n 1, 1) := by decide +kernel
theorem dX10_statements_1 : decode cX10_statements 1 = .ok (.istore_n 3, 1) := by decide +kernel
theorem dX10_statements_2 : decode cX10_statements 2 = .ok (.iconst 0, 1) := by decide +kernel
theorem dX10_statements_3 : decode cX10_statements 3 = .ok (.istore 4, 2) := by decide +kernel
theorem dX10_statements_5 : decode cX10_statements 5 = .ok (.iload_n 3, 1) := by decide +kernel
theorem dX10_statements_6 : decode cX10_statements 6 = .ok (.iload_n 2, 1) := by decide +kernel
theorem dX10_statements_7 : decode cX10_statements 7 = .ok (.if_icmp .gt 167, 3) := by decide +kernel
theorem dX10_statements_10 : decode cX10_statements 10 = .ok (.aload_n 0, 1) := by decide +kernel
theorem dX10_statements_11 : decode cX10_statements 11 = .ok (.getfield 10, 3) := by decide +kernel
theorem dX10_statements_14 : decode cX10_statements 14 = .ok (.getfield 116, 3) := by decide +kernel
theorem dX10_statements_17 : decode cX10_statements 17 = .ok (.ifCond .ne 157, 3) := by decide +kernel
theorem dX10_statements_20 : decode cX10_statements 20 = .ok (.aload_n 0, 1) := by decide +kernel
theorem dX10_statements_21 : decode cX10_statements 21 = .ok (.getfield 28, 3) := by decide +kernel
theorem dX10_statements_24 : decode cX10_statements 24 = .ok (.iload_n 3, 1) := by decide +kernel
theorem dX10_statements_25 : decode cX10_statements 25 = .ok (.iload_n 2, 1) := by decide +kernel
theorem dX10_statements_26 : decode cX10_statements 26 = .ok (.invokevirtual 158, 3) := by decide +kernel
theorem dX10_statements_29 : decode cX10_statements 29 = .ok (.istore 5, 2) := by decide +kernel
theorem dX10_statements_31 : decode cX10_statements 31 = .ok (.aload_n 0, 1) := by decide +kernel
theorem dX10_statements_32 : decode cX10_statements 32 = .ok (.getfield 21, 3) := by decide +kernel
theorem dX10_statements_35 : decode cX10_statements 35 = .ok (.getfield 161, 3) := by decide +kernel
theorem dX10_statements_38 : decode cX10_statements 38 = .ok (.istore 6, 2) := by decide +kernel
theorem dX10_statements_40 : decode cX10_statements 40 = .ok (.iload_n 3, 1) := by decide +kernel
theorem dX10_statements_41 : decode cX10_statements 41 = .ok (.iload 5, 2) := by decide +kernel
theorem dX10_statements_43 : decode cX10_statements 43 = .ok (.if_icmp .ge 28, 3) := by decide +kernel
theorem dX10_statements_71 : decode cX10_statements 71 = .ok (.iconst 0, 1) := by decide +kernel
theorem dX10_statements_72 : decode cX10_statements 72 = .ok (.istore 7, 2) := by decide +kernel
theorem dX10_statements_74 : decode cX10_statements 74 = .ok (.iload 7, 2) := by decide +kernel
theorem dX10_statements_76 : decode cX10_statements 76 = .ok (.ifCond .eq 24, 3) := by decide +kernel
theorem dX10_statements_100 : decode cX10_statements 100 = .ok (.aload_n 0, 1) := by decide +kernel
theorem dX10_statements_101 : decode cX10_statements 101 = .ok (.getfield 10, 3) := by decide +kernel
theorem dX10_statements_104 : decode cX10_statements 104 = .ok (.getfield 116, 3) := by decide +kernel
theorem dX10_statements_107 : decode cX10_statements 107 = .ok (.ifCond .eq 12, 3) := by decide +kernel
theorem dX10_statements_119 : decode cX10_statements 119 = .ok (.iload 7, 2) := by decide +kernel
theorem dX10_statements_121 : decode cX10_statements 121 = .ok (.ifCond .eq 31, 3) := by decide +kernel
theorem dX10_statements_152 : decode cX10_statements 152 = .ok (.aload_n 0, 1) := by decide +kernel
theorem dX10_statements_153 : decode cX10_statements 153 = .ok (.getfield 37, 3) := by decide +kernel
theorem dX10_statements_156 : decode cX10_statements 156 = .ok (.iload 6, 2) := by decide +kernel
theorem dX10_statements_158 : decode cX10_statements 158 = .ok (.iconst 0, 1) := by decide +kernel
theorem dX10_statements_159 : decode cX10_statements 159 = .ok (.invokevirtual 186, 3) := by decide +kernel
theorem dX10_statements_162 : decode cX10_statements 162 = .ok (.pop, 1) := by decide +kernel
theorem dX10_statements_163 : decode cX10_statements 163 = .ok (.iload 5, 2) := by decide +kernel
theorem dX10_statements_165 : decode cX10_statements 165 = .ok (.iconst 1, 1) := by decide +kernel
theorem dX10_statements_166 : decode cX10_statements 166 = .ok (.iadd, 1) := by decide +kernel
theorem dX10_statements_167 : decode cX10_statements 167 = .ok (.istore_n 3, 1) := by decide +kernel
theorem dX10_statements_168 : decode cX10_statements 168 = .ok (.iinc 4 1, 3) := by decide +kernel
theorem dX10_statements_171 : decode cX10_statements 171 = .ok (.goto (-166), 3) := by decide +kernel
theorem dX10_statements_174 : decode cX10_statements 174 = .ok (.return_, 1) := by decide +kernel
theorem dX10_at_0 : decode cX10_at 0 = .ok (.aload_n 0, 1) := by decide +kernel
theorem dX10_at_1 : decode cX10_at 1 = .ok (.getfield 58, 3) := by decide +kernel
theorem dX10_at_4 : decode cX10_at 4 = .ok (.ireturn, 1) := by decide +kernel
theorem dX10_steps_0 : decode cX10_steps 0 = .ok (.aload_n 0, 1) := by decide +kernel
theorem dX10_steps_1 : decode cX10_steps 1 = .ok (.getfield 10, 3) := by decide +kernel
theorem dX10_steps_4 : decode cX10_steps 4 = .ok (.getfield 187, 3) := by decide +kernel
theorem dX10_steps_7 : decode cX10_steps 7 = .ok (.ireturn, 1) := by decide +kernel
theorem dX10_shown_0 : decode cX10_shown 0 = .ok (.aload_n 0, 1) := by decide +kernel
theorem dX10_shown_1 : decode cX10_shown 1 = .ok (.getfield 46, 3) := by decide +kernel
theorem dX10_shown_4 : decode cX10_shown 4 = .ok (.getfield 89, 3) := by decide +kernel
theorem dX10_shown_7 : decode cX10_shown 7 = .ok (.ireturn, 1) := by decide +kernel
theorem dX10_byteAt_0 : decode cX10_byteAt 0 = .ok (.iload_n 1, 1) := by decide +kernel
theorem dX10_byteAt_1 : decode cX10_byteAt 1 = .ok (.ifCond .lt 26, 3) := by decide +kernel
theorem dX10_byteAt_4 : decode cX10_byteAt 4 = .ok (.iload_n 1, 1) := by decide +kernel
theorem dX10_byteAt_5 : decode cX10_byteAt 5 = .ok (.aload_n 0, 1) := by decide +kernel
theorem dX10_byteAt_6 : decode cX10_byteAt 6 = .ok (.getfield 46, 3) := by decide +kernel
theorem dX10_byteAt_9 : decode cX10_byteAt 9 = .ok (.getfield 89, 3) := by decide +kernel
theorem dX10_byteAt_12 : decode cX10_byteAt 12 = .ok (.if_icmp .ge 15, 3) := by decide +kernel
theorem dX10_byteAt_27 : decode cX10_byteAt 27 = .ok (.iconst (-1), 1) := by decide +kernel
theorem dX10_byteAt_28 : decode cX10_byteAt 28 = .ok (.ireturn, 1) := by decide +kernel
theorem dX10_view_0 : decode cX10_view 0 = .ok (.aload_n 0, 1) := by decide +kernel
theorem dX10_view_1 : decode cX10_view 1 = .ok (.invokevirtual 193, 3) := by decide +kernel
theorem dX10_view_4 : decode cX10_view 4 = .ok (.istore_n 1, 1) := by decide +kernel
theorem dX10_view_5 : decode cX10_view 5 = .ok (.aload_n 0, 1) := by decide +kernel
theorem dX10_view_6 : decode cX10_view 6 = .ok (.iconst 0, 1) := by decide +kernel
theorem dX10_view_7 : decode cX10_view 7 = .ok (.putfield 92, 3) := by decide +kernel
theorem dX10_view_10 : decode cX10_view 10 = .ok (.iload_n 1, 1) := by decide +kernel
theorem dX10_view_11 : decode cX10_view 11 = .ok (.ifCond .ge 5, 3) := by decide +kernel
theorem dX10_view_14 : decode cX10_view 14 = .ok (.iconst (-1), 1) := by decide +kernel
theorem dX10_view_15 : decode cX10_view 15 = .ok (.ireturn, 1) := by decide +kernel
theorem dX10_nameOnTape_0 : decode cX10_nameOnTape 0 = .ok (.aload_n 0, 1) := by decide +kernel
theorem dX10_nameOnTape_1 : decode cX10_nameOnTape 1 = .ok (.getfield 82, 3) := by decide +kernel
theorem dX10_nameOnTape_4 : decode cX10_nameOnTape 4 = .ok (.istore_n 1, 1) := by decide +kernel
theorem dX10_nameOnTape_5 : decode cX10_nameOnTape 5 = .ok (.aload_n 0, 1) := by decide +kernel
theorem dX10_nameOnTape_6 : decode cX10_nameOnTape 6 = .ok (.iconst 0, 1) := by decide +kernel
theorem dX10_nameOnTape_7 : decode cX10_nameOnTape 7 = .ok (.putfield 82, 3) := by decide +kernel
theorem dX10_nameOnTape_10 : decode cX10_nameOnTape 10 = .ok (.iload_n 1, 1) := by decide +kernel
theorem dX10_nameOnTape_11 : decode cX10_nameOnTape 11 = .ok (.iconst 1, 1) := by decide +kernel
theorem dX10_nameOnTape_12 : decode cX10_nameOnTape 12 = .ok (.if_icmp .lt 30, 3) := by decide +kernel
theorem dX10_nameOnTape_42 : decode cX10_nameOnTape 42 = .ok (.iconst (-1), 1) := by decide +kernel
theorem dX10_nameOnTape_43 : decode cX10_nameOnTape 43 = .ok (.ireturn, 1) := by decide +kernel
theorem dX10_into_0 : decode cX10_into 0 = .ok (.aload_n 0, 1) := by decide +kernel
theorem dX10_into_1 : decode cX10_into 1 = .ok (.invokevirtual 213, 3) := by decide +kernel
theorem dX10_into_4 : decode cX10_into 4 = .ok (.istore_n 2, 1) := by decide +kernel
theorem dX10_into_5 : decode cX10_into 5 = .ok (.iload_n 2, 1) := by decide +kernel
theorem dX10_into_6 : decode cX10_into 6 = .ok (.ifCond .eq 32, 3) := by decide +kernel
theorem dX10_into_38 : decode cX10_into 38 = .ok (.iconst (-1), 1) := by decide +kernel
theorem dX10_into_39 : decode cX10_into 39 = .ok (.ireturn, 1) := by decide +kernel
theorem dX10_back_0 : decode cX10_back 0 = .ok (.aload_n 0, 1) := by decide +kernel
theorem dX10_back_1 : decode cX10_back 1 = .ok (.getfield 92, 3) := by decide +kernel
theorem dX10_back_4 : decode cX10_back 4 = .ok (.iconst 2, 1) := by decide +kernel
theorem dX10_back_5 : decode cX10_back 5 = .ok (.if_icmp .ge 5, 3) := by decide +kernel
theorem dX10_back_8 : decode cX10_back 8 = .ok (.iconst (-1), 1) := by decide +kernel
theorem dX10_back_9 : decode cX10_back 9 = .ok (.ireturn, 1) := by decide +kernel
theorem dX10_about_0 : decode cX10_about 0 = .ok (.aload_n 0, 1) := by decide +kernel
theorem dX10_about_1 : decode cX10_about 1 = .ok (.invokevirtual 213, 3) := by decide +kernel
theorem dX10_about_4 : decode cX10_about 4 = .ok (.istore_n 2, 1) := by decide +kernel
theorem dX10_about_5 : decode cX10_about 5 = .ok (.iload_n 2, 1) := by decide +kernel
theorem dX10_about_6 : decode cX10_about 6 = .ok (.ifCond .ne 5, 3) := by decide +kernel
theorem dX10_about_9 : decode cX10_about 9 = .ok (.iconst (-1), 1) := by decide +kernel
theorem dX10_about_10 : decode cX10_about 10 = .ok (.ireturn, 1) := by decide +kernel
theorem dX10_extent_0 : decode cX10_extent 0 = .ok (.aload_n 0, 1) := by decide +kernel
theorem dX10_extent_1 : decode cX10_extent 1 = .ok (.invokevirtual 213, 3) := by decide +kernel
theorem dX10_extent_4 : decode cX10_extent 4 = .ok (.istore_n 2, 1) := by decide +kernel
theorem dX10_extent_5 : decode cX10_extent 5 = .ok (.iload_n 2, 1) := by decide +kernel
theorem dX10_extent_6 : decode cX10_extent 6 = .ok (.ifCond .eq 19, 3) := by decide +kernel
theorem dX10_extent_25 : decode cX10_extent 25 = .ok (.iconst (-1), 1) := by decide +kernel
theorem dX10_extent_26 : decode cX10_extent 26 = .ok (.ireturn, 1) := by decide +kernel
theorem dX10_kind_0 : decode cX10_kind 0 = .ok (.aload_n 0, 1) := by decide +kernel
theorem dX10_kind_1 : decode cX10_kind 1 = .ok (.invokevirtual 213, 3) := by decide +kernel
theorem dX10_kind_4 : decode cX10_kind 4 = .ok (.istore_n 2, 1) := by decide +kernel
theorem dX10_kind_5 : decode cX10_kind 5 = .ok (.iload_n 2, 1) := by decide +kernel
theorem dX10_kind_6 : decode cX10_kind 6 = .ok (.ifCond .eq 20, 3) := by decide +kernel
theorem dX10_kind_26 : decode cX10_kind 26 = .ok (.iconst (-1), 1) := by decide +kernel
theorem dX10_kind_27 : decode cX10_kind 27 = .ok (.ireturn, 1) := by decide +kernel
theorem dX10_number_0 : decode cX10_number 0 = .ok (.aload_n 0, 1) := by decide +kernel
theorem dX10_number_1 : decode cX10_number 1 = .ok (.invokevirtual 213, 3) := by decide +kernel
theorem dX10_number_4 : decode cX10_number 4 = .ok (.istore_n 3, 1) := by decide +kernel
theorem dX10_number_5 : decode cX10_number 5 = .ok (.iload_n 3, 1) := by decide +kernel
theorem dX10_number_6 : decode cX10_number 6 = .ok (.ifCond .eq 20, 3) := by decide +kernel
theorem dX10_number_26 : decode cX10_number 26 = .ok (.iconst 0, 1) := by decide +kernel
theorem dX10_number_27 : decode cX10_number 27 = .ok (.ireturn, 1) := by decide +kernel
theorem dX10_viewed_0 : decode cX10_viewed 0 = .ok (.aload_n 0, 1) := by decide +kernel
theorem dX10_viewed_1 : decode cX10_viewed 1 = .ok (.getfield 92, 3) := by decide +kernel
theorem dX10_viewed_4 : decode cX10_viewed 4 = .ok (.ifCond .le 19, 3) := by decide +kernel
theorem dX10_viewed_23 : decode cX10_viewed 23 = .ok (.iconst 0, 1) := by decide +kernel
theorem dX10_viewed_24 : decode cX10_viewed 24 = .ok (.ireturn, 1) := by decide +kernel
theorem dX10_told_0 : decode cX10_told 0 = .ok (.iload_n 1, 1) := by decide +kernel
theorem dX10_told_1 : decode cX10_told 1 = .ok (.tableswitch 105 0 7 #[47, 59, 65, 71, 79, 84, 92, 100], 47) := by decide +kernel
theorem dX10_told_48 : decode cX10_told 48 = .ok (.aload_n 0, 1) := by decide +kernel
theorem dX10_told_49 : decode cX10_told 49 = .ok (.iconst 1, 1) := by decide +kernel
theorem dX10_told_50 : decode cX10_told 50 = .ok (.invokevirtual 241, 3) := by decide +kernel
theorem dX10_told_53 : decode cX10_told 53 = .ok (.aload_n 0, 1) := by decide +kernel
theorem dX10_told_54 : decode cX10_told 54 = .ok (.iconst 2, 1) := by decide +kernel
theorem dX10_told_55 : decode cX10_told 55 = .ok (.invokevirtual 241, 3) := by decide +kernel
theorem dX10_told_58 : decode cX10_told 58 = .ok (.iadd, 1) := by decide +kernel
theorem dX10_told_59 : decode cX10_told 59 = .ok (.ireturn, 1) := by decide +kernel
theorem dX10_told_60 : decode cX10_told 60 = .ok (.aload_n 0, 1) := by decide +kernel
theorem dX10_told_61 : decode cX10_told 61 = .ok (.iconst 1, 1) := by decide +kernel
theorem dX10_told_62 : decode cX10_told 62 = .ok (.invokevirtual 241, 3) := by decide +kernel
theorem dX10_told_65 : decode cX10_told 65 = .ok (.ireturn, 1) := by decide +kernel
theorem dX10_told_66 : decode cX10_told 66 = .ok (.aload_n 0, 1) := by decide +kernel
theorem dX10_told_67 : decode cX10_told 67 = .ok (.iconst 2, 1) := by decide +kernel
theorem dX10_told_68 : decode cX10_told 68 = .ok (.invokevirtual 241, 3) := by decide +kernel
theorem dX10_told_71 : decode cX10_told 71 = .ok (.ireturn, 1) := by decide +kernel
theorem dX10_told_72 : decode cX10_told 72 = .ok (.aload_n 0, 1) := by decide +kernel
theorem dX10_told_73 : decode cX10_told 73 = .ok (.getfield 77, 3) := by decide +kernel
theorem dX10_told_76 : decode cX10_told 76 = .ok (.invokevirtual 244, 3) := by decide +kernel
theorem dX10_told_79 : decode cX10_told 79 = .ok (.ireturn, 1) := by decide +kernel
theorem dX10_told_80 : decode cX10_told 80 = .ok (.aload_n 0, 1) := by decide +kernel
theorem dX10_told_81 : decode cX10_told 81 = .ok (.invokevirtual 247, 3) := by decide +kernel
theorem dX10_told_84 : decode cX10_told 84 = .ok (.ireturn, 1) := by decide +kernel
theorem dX10_told_85 : decode cX10_told 85 = .ok (.aload_n 0, 1) := by decide +kernel
theorem dX10_told_86 : decode cX10_told 86 = .ok (.getfield 10, 3) := by decide +kernel
theorem dX10_told_89 : decode cX10_told 89 = .ok (.getfield 250, 3) := by decide +kernel
theorem dX10_told_92 : decode cX10_told 92 = .ok (.ireturn, 1) := by decide +kernel
theorem dX10_told_93 : decode cX10_told 93 = .ok (.aload_n 0, 1) := by decide +kernel
theorem dX10_told_94 : decode cX10_told 94 = .ok (.getfield 10, 3) := by decide +kernel
theorem dX10_told_97 : decode cX10_told 97 = .ok (.getfield 253, 3) := by decide +kernel
theorem dX10_told_100 : decode cX10_told 100 = .ok (.ireturn, 1) := by decide +kernel
theorem dX10_told_101 : decode cX10_told 101 = .ok (.aload_n 0, 1) := by decide +kernel
theorem dX10_told_102 : decode cX10_told 102 = .ok (.getfield 82, 3) := by decide +kernel
theorem dX10_told_105 : decode cX10_told 105 = .ok (.ireturn, 1) := by decide +kernel
theorem dX10_told_106 : decode cX10_told 106 = .ok (.iconst (-1), 1) := by decide +kernel
theorem dX10_told_107 : decode cX10_told 107 = .ok (.ireturn, 1) := by decide +kernel
theorem dX10_meaning_0 : decode cX10_meaning 0 = .ok (.iconst 0, 1) := by decide +kernel
theorem dX10_meaning_1 : decode cX10_meaning 1 = .ok (.istore_n 2, 1) := by decide +kernel
theorem dX10_meaning_2 : decode cX10_meaning 2 = .ok (.iconst 0, 1) := by decide +kernel
theorem dX10_meaning_3 : decode cX10_meaning 3 = .ok (.istore_n 3, 1) := by decide +kernel
theorem dX10_meaning_4 : decode cX10_meaning 4 = .ok (.iload_n 3, 1) := by decide +kernel
theorem dX10_meaning_5 : decode cX10_meaning 5 = .ok (.bipush 60, 2) := by decide +kernel
theorem dX10_meaning_7 : decode cX10_meaning 7 = .ok (.if_icmp .ge 24, 3) := by decide +kernel
theorem dX10_meaning_10 : decode cX10_meaning 10 = .ok (.aload_n 0, 1) := by decide +kernel
theorem dX10_meaning_11 : decode cX10_meaning 11 = .ok (.getfield 37, 3) := by decide +kernel
theorem dX10_meaning_14 : decode cX10_meaning 14 = .ok (.iload_n 3, 1) := by decide +kernel
theorem dX10_meaning_15 : decode cX10_meaning 15 = .ok (.invokevirtual 135, 3) := by decide +kernel
theorem dX10_meaning_18 : decode cX10_meaning 18 = .ok (.iload_n 1, 1) := by decide +kernel
theorem dX10_meaning_19 : decode cX10_meaning 19 = .ok (.if_icmp .ne 6, 3) := by decide +kernel
theorem dX10_meaning_25 : decode cX10_meaning 25 = .ok (.iinc 3 1, 3) := by decide +kernel
theorem dX10_meaning_28 : decode cX10_meaning 28 = .ok (.goto (-24), 3) := by decide +kernel
theorem dX10_meaning_31 : decode cX10_meaning 31 = .ok (.iload_n 2, 1) := by decide +kernel
theorem dX10_meaning_32 : decode cX10_meaning 32 = .ok (.ireturn, 1) := by decide +kernel
theorem dX10_sizes_0 : decode cX10_sizes 0 = .ok (.iconst 0, 1) := by decide +kernel
theorem dX10_sizes_1 : decode cX10_sizes 1 = .ok (.istore_n 1, 1) := by decide +kernel
theorem dX10_sizes_2 : decode cX10_sizes 2 = .ok (.iconst 0, 1) := by decide +kernel
theorem dX10_sizes_3 : decode cX10_sizes 3 = .ok (.istore_n 2, 1) := by decide +kernel
theorem dX10_sizes_4 : decode cX10_sizes 4 = .ok (.iload_n 2, 1) := by decide +kernel
theorem dX10_sizes_5 : decode cX10_sizes 5 = .ok (.bipush 60, 2) := by decide +kernel
theorem dX10_sizes_7 : decode cX10_sizes 7 = .ok (.if_icmp .ge 42, 3) := by decide +kernel
theorem dX10_sizes_10 : decode cX10_sizes 10 = .ok (.aload_n 0, 1) := by decide +kernel
theorem dX10_sizes_11 : decode cX10_sizes 11 = .ok (.getfield 37, 3) := by decide +kernel
theorem dX10_sizes_14 : decode cX10_sizes 14 = .ok (.iload_n 2, 1) := by decide +kernel
theorem dX10_sizes_15 : decode cX10_sizes 15 = .ok (.invokevirtual 135, 3) := by decide +kernel
theorem dX10_sizes_18 : decode cX10_sizes 18 = .ok (.iconst 1, 1) := by decide +kernel
theorem dX10_sizes_19 : decode cX10_sizes 19 = .ok (.if_icmp .ne 24, 3) := by decide +kernel
theorem dX10_sizes_43 : decode cX10_sizes 43 = .ok (.iinc 2 1, 3) := by decide +kernel
theorem dX10_sizes_46 : decode cX10_sizes 46 = .ok (.goto (-42), 3) := by decide +kernel
theorem dX10_sizes_49 : decode cX10_sizes 49 = .ok (.iload_n 1, 1) := by decide +kernel
theorem dX10_sizes_50 : decode cX10_sizes 50 = .ok (.ireturn, 1) := by decide +kernel
theorem dX10_forget_0 : decode cX10_forget 0 = .ok (.aload_n 0, 1) := by decide +kernel
theorem dX10_forget_1 : decode cX10_forget 1 = .ok (.invokevirtual 193, 3) := by decide +kernel
theorem dX10_forget_4 : decode cX10_forget 4 = .ok (.istore_n 1, 1) := by decide +kernel
theorem dX10_forget_5 : decode cX10_forget 5 = .ok (.iload_n 1, 1) := by decide +kernel
theorem dX10_forget_6 : decode cX10_forget 6 = .ok (.ifCond .ge 5, 3) := by decide +kernel
theorem dX10_forget_9 : decode cX10_forget 9 = .ok (.iconst (-1), 1) := by decide +kernel
theorem dX10_forget_10 : decode cX10_forget 10 = .ok (.ireturn, 1) := by decide +kernel
theorem dX10_set_0 : decode cX10_set 0 = .ok (.iload_n 1, 1) := by decide +kernel
theorem dX10_set_1 : decode cX10_set 1 = .ok (.ifCond .ne 30, 3) := by decide +kernel
theorem dX10_set_4 : decode cX10_set 4 = .ok (.iload_n 2, 1) := by decide +kernel
theorem dX10_set_5 : decode cX10_set 5 = .ok (.ifCond .eq 8, 3) := by decide +kernel
theorem dX10_set_8 : decode cX10_set 8 = .ok (.iload_n 2, 1) := by decide +kernel
theorem dX10_set_9 : decode cX10_set 9 = .ok (.iconst 1, 1) := by decide +kernel
theorem dX10_set_10 : decode cX10_set 10 = .ok (.if_icmp .ne 21, 3) := by decide +kernel
theorem dX10_set_13 : decode cX10_set 13 = .ok (.aload_n 0, 1) := by decide +kernel
theorem dX10_set_14 : decode cX10_set 14 = .ok (.getfield 10, 3) := by decide +kernel
theorem dX10_set_17 : decode cX10_set 17 = .ok (.getfield 250, 3) := by decide +kernel
theorem dX10_set_20 : decode cX10_set 20 = .ok (.istore_n 3, 1) := by decide +kernel
theorem dX10_set_21 : decode cX10_set 21 = .ok (.aload_n 0, 1) := by decide +kernel
theorem dX10_set_22 : decode cX10_set 22 = .ok (.getfield 10, 3) := by decide +kernel
theorem dX10_set_25 : decode cX10_set 25 = .ok (.iload_n 2, 1) := by decide +kernel
theorem dX10_set_26 : decode cX10_set 26 = .ok (.putfield 250, 3) := by decide +kernel
theorem dX10_set_29 : decode cX10_set 29 = .ok (.iload_n 3, 1) := by decide +kernel
theorem dX10_set_30 : decode cX10_set 30 = .ok (.ireturn, 1) := by decide +kernel
theorem dX10_set_31 : decode cX10_set 31 = .ok (.iload_n 1, 1) := by decide +kernel
theorem dX10_set_32 : decode cX10_set 32 = .ok (.iconst 1, 1) := by decide +kernel
theorem dX10_set_33 : decode cX10_set 33 = .ok (.if_icmp .ne 33, 3) := by decide +kernel
theorem dX10_set_36 : decode cX10_set 36 = .ok (.iload_n 2, 1) := by decide +kernel
theorem dX10_set_37 : decode cX10_set 37 = .ok (.iconst 1, 1) := by decide +kernel
theorem dX10_set_38 : decode cX10_set 38 = .ok (.if_icmp .lt 28, 3) := by decide +kernel
theorem dX10_set_41 : decode cX10_set 41 = .ok (.iload_n 2, 1) := by decide +kernel
theorem dX10_set_42 : decode cX10_set 42 = .ok (.ldc_w 259, 3) := by decide +kernel
theorem dX10_set_45 : decode cX10_set 45 = .ok (.if_icmp .gt 21, 3) := by decide +kernel
theorem dX10_set_48 : decode cX10_set 48 = .ok (.aload_n 0, 1) := by decide +kernel
theorem dX10_set_49 : decode cX10_set 49 = .ok (.getfield 10, 3) := by decide +kernel
theorem dX10_set_52 : decode cX10_set 52 = .ok (.getfield 253, 3) := by decide +kernel
theorem dX10_set_55 : decode cX10_set 55 = .ok (.istore_n 3, 1) := by decide +kernel
theorem dX10_set_56 : decode cX10_set 56 = .ok (.aload_n 0, 1) := by decide +kernel
theorem dX10_set_57 : decode cX10_set 57 = .ok (.getfield 10, 3) := by decide +kernel
theorem dX10_set_60 : decode cX10_set 60 = .ok (.iload_n 2, 1) := by decide +kernel
theorem dX10_set_61 : decode cX10_set 61 = .ok (.putfield 253, 3) := by decide +kernel
theorem dX10_set_64 : decode cX10_set 64 = .ok (.iload_n 3, 1) := by decide +kernel
theorem dX10_set_65 : decode cX10_set 65 = .ok (.ireturn, 1) := by decide +kernel
theorem dX10_set_66 : decode cX10_set 66 = .ok (.iconst (-1), 1) := by decide +kernel
theorem dX10_set_67 : decode cX10_set 67 = .ok (.ireturn, 1) := by decide +kernel
theorem dX10_peek_0 : decode cX10_peek 0 = .ok (.iload_n 1, 1) := by decide +kernel
theorem dX10_peek_1 : decode cX10_peek 1 = .ok (.ifCond .lt 15, 3) := by decide +kernel
theorem dX10_peek_4 : decode cX10_peek 4 = .ok (.iload_n 1, 1) := by decide +kernel
theorem dX10_peek_5 : decode cX10_peek 5 = .ok (.aload_n 0, 1) := by decide +kernel
theorem dX10_peek_6 : decode cX10_peek 6 = .ok (.arraylength, 1) := by decide +kernel
theorem dX10_peek_7 : decode cX10_peek 7 = .ok (.if_icmp .ge 9, 3) := by decide +kernel
theorem dX10_peek_10 : decode cX10_peek 10 = .ok (.aload_n 0, 1) := by decide +kernel
theorem dX10_peek_11 : decode cX10_peek 11 = .ok (.iload_n 1, 1) := by decide +kernel
theorem dX10_peek_12 : decode cX10_peek 12 = .ok (.iaload, 1) := by decide +kernel
theorem dX10_peek_13 : decode cX10_peek 13 = .ok (.goto 4, 3) := by decide +kernel
theorem dX10_peek_16 : decode cX10_peek 16 = .ok (.iconst 0, 1) := by decide +kernel
theorem dX10_peek_17 : decode cX10_peek 17 = .ok (.ireturn, 1) := by decide +kernel
theorem dX11_byteOf_0 : decode cX11_byteOf 0 = .ok (.iload_n 1, 1) := by decide +kernel
theorem dX11_byteOf_1 : decode cX11_byteOf 1 = .ok (.aload_n 0, 1) := by decide +kernel
theorem dX11_byteOf_2 : decode cX11_byteOf 2 = .ok (.getfield 553, 3) := by decide +kernel
theorem dX11_byteOf_5 : decode cX11_byteOf 5 = .ok (.if_icmp .ge 16, 3) := by decide +kernel
theorem dX11_byteOf_21 : decode cX11_byteOf 21 = .ok (.iconst 0, 1) := by decide +kernel
theorem dX11_byteOf_22 : decode cX11_byteOf 22 = .ok (.ireturn, 1) := by decide +kernel
theorem dX11_scan_0 : decode cX11_scan 0 = .ok (.aload_n 0, 1) := by decide +kernel
theorem dX11_scan_1 : decode cX11_scan 1 = .ok (.getfield 562, 3) := by decide +kernel
theorem dX11_scan_4 : decode cX11_scan 4 = .ok (.istore_n 3, 1) := by decide +kernel
theorem dX11_scan_5 : decode cX11_scan 5 = .ok (.iconst (-1), 1) := by decide +kernel
theorem dX11_scan_6 : decode cX11_scan 6 = .ok (.istore 4, 2) := by decide +kernel
theorem dX11_scan_8 : decode cX11_scan 8 = .ok (.aload_n 0, 1) := by decide +kernel
theorem dX11_scan_9 : decode cX11_scan 9 = .ok (.iload_n 1, 1) := by decide +kernel
theorem dX11_scan_10 : decode cX11_scan 10 = .ok (.putfield 577, 3) := by decide +kernel
theorem dX11_scan_13 : decode cX11_scan 13 = .ok (.aload_n 0, 1) := by decide +kernel
theorem dX11_scan_14 : decode cX11_scan 14 = .ok (.iload_n 2, 1) := by decide +kernel
theorem dX11_scan_15 : decode cX11_scan 15 = .ok (.putfield 553, 3) := by decide +kernel
theorem dX11_scan_18 : decode cX11_scan 18 = .ok (.aload_n 0, 1) := by decide +kernel
theorem dX11_scan_19 : decode cX11_scan 19 = .ok (.iconst (-1), 1) := by decide +kernel
theorem dX11_scan_20 : decode cX11_scan 20 = .ok (.putfield 586, 3) := by decide +kernel
theorem dX11_scan_23 : decode cX11_scan 23 = .ok (.aload_n 0, 1) := by decide +kernel
theorem dX11_scan_24 : decode cX11_scan 24 = .ok (.getfield 586, 3) := by decide +kernel
theorem dX11_scan_27 : decode cX11_scan 27 = .ok (.iconst (-1), 1) := by decide +kernel
theorem dX11_scan_28 : decode cX11_scan 28 = .ok (.if_icmp .ne 182, 3) := by decide +kernel
theorem dX11_scan_31 : decode cX11_scan 31 = .ok (.aload_n 0, 1) := by decide +kernel
theorem dX11_scan_32 : decode cX11_scan 32 = .ok (.aload_n 0, 1) := by decide +kernel
theorem dX11_scan_33 : decode cX11_scan 33 = .ok (.getfield 577, 3) := by decide +kernel
theorem dX11_scan_36 : decode cX11_scan 36 = .ok (.invokevirtual 589, 3) := by decide +kernel
theorem dX11_scan_39 : decode cX11_scan 39 = .ok (.bipush 32, 2) := by decide +kernel
theorem dX11_scan_41 : decode cX11_scan 41 = .ok (.if_icmp .ne 27, 3) := by decide +kernel
theorem dX11_scan_68 : decode cX11_scan 68 = .ok (.aload_n 0, 1) := by decide +kernel
theorem dX11_scan_69 : decode cX11_scan 69 = .ok (.aload_n 0, 1) := by decide +kernel
theorem dX11_scan_70 : decode cX11_scan 70 = .ok (.getfield 577, 3) := by decide +kernel
theorem dX11_scan_73 : decode cX11_scan 73 = .ok (.invokevirtual 589, 3) := by decide +kernel
theorem dX11_scan_76 : decode cX11_scan 76 = .ok (.bipush 35, 2) := by decide +kernel
theorem dX11_scan_78 : decode cX11_scan 78 = .ok (.if_icmp .ne 41, 3) := by decide +kernel
theorem dX11_scan_119 : decode cX11_scan 119 = .ok (.aload_n 0, 1) := by decide +kernel
theorem dX11_scan_120 : decode cX11_scan 120 = .ok (.getfield 577, 3) := by decide +kernel
theorem dX11_scan_123 : decode cX11_scan 123 = .ok (.aload_n 0, 1) := by decide +kernel
theorem dX11_scan_124 : decode cX11_scan 124 = .ok (.getfield 553, 3) := by decide +kernel
theorem dX11_scan_127 : decode cX11_scan 127 = .ok (.if_icmp .ne 6, 3) := by decide +kernel
theorem dX11_scan_130 : decode cX11_scan 130 = .ok (.goto 80, 3) := by decide +kernel
theorem dX11_scan_210 : decode cX11_scan 210 = .ok (.aload_n 0, 1) := by decide +kernel
theorem dX11_scan_211 : decode cX11_scan 211 = .ok (.getfield 586, 3) := by decide +kernel
theorem dX11_scan_214 : decode cX11_scan 214 = .ok (.iconst (-1), 1) := by decide +kernel
theorem dX11_scan_215 : decode cX11_scan 215 = .ok (.if_icmp .ne 20, 3) := by decide +kernel
theorem dX11_scan_218 : decode cX11_scan 218 = .ok (.iload 4, 2) := by decide +kernel
theorem dX11_scan_220 : decode cX11_scan 220 = .ok (.iconst (-1), 1) := by decide +kernel
theorem dX11_scan_221 : decode cX11_scan 221 = .ok (.if_icmp .eq 14, 3) := by decide +kernel
theorem dX11_scan_235 : decode cX11_scan 235 = .ok (.iload_n 3, 1) := by decide +kernel
theorem dX11_scan_236 : decode cX11_scan 236 = .ok (.ireturn, 1) := by decide +kernel
theorem dX11_unframe_0 : decode cX11_unframe 0 = .ok (.aload_n 0, 1) := by decide +kernel
theorem dX11_unframe_1 : decode cX11_unframe 1 = .ok (.getfield 870, 3) := by decide +kernel
theorem dX11_unframe_4 : decode cX11_unframe 4 = .ok (.iload_n 1, 1) := by decide +kernel
theorem dX11_unframe_5 : decode cX11_unframe 5 = .ok (.if_icmp .le 51, 3) := by decide +kernel
theorem dX11_unframe_56 : decode cX11_unframe 56 = .ok (.return_, 1) := by decide +kernel
theorem dX11_statementEnd_0 : decode cX11_statementEnd 0 = .ok (.iload_n 1, 1) := by decide +kernel
theorem dX11_statementEnd_1 : decode cX11_statementEnd 1 = .ok (.istore_n 3, 1) := by decide +kernel
theorem dX11_statementEnd_2 : decode cX11_statementEnd 2 = .ok (.iload_n 3, 1) := by decide +kernel
theorem dX11_statementEnd_3 : decode cX11_statementEnd 3 = .ok (.iload_n 2, 1) := by decide +kernel
theorem dX11_statementEnd_4 : decode cX11_statementEnd 4 = .ok (.if_icmp .ge 65, 3) := by decide +kernel
theorem dX11_statementEnd_69 : decode cX11_statementEnd 69 = .ok (.iload_n 3, 1) := by decide +kernel
theorem dX11_statementEnd_70 : decode cX11_statementEnd 70 = .ok (.ireturn, 1) := by decide +kernel
theorem dX11_init_0 : decode cX11_init 0 = .ok (.aload_n 0, 1) := by decide +kernel
theorem dX11_init_1 : decode cX11_init 1 = .ok (.invokespecial 900, 3) := by decide +kernel
theorem dX11_init_4 : decode cX11_init 4 = .ok (.aload_n 0, 1) := by decide +kernel
theorem dX11_init_5 : decode cX11_init 5 = .ok (.iconst 1, 1) := by decide +kernel
theorem dX11_init_6 : decode cX11_init 6 = .ok (.putfield 177, 3) := by decide +kernel
theorem dX11_init_9 : decode cX11_init 9 = .ok (.aload_n 0, 1) := by decide +kernel
theorem dX11_init_10 : decode cX11_init 10 = .ok (.lconst 1, 1) := by decide +kernel
theorem dX11_init_11 : decode cX11_init 11 = .ok (.putfield 151, 3) := by decide +kernel
theorem dX11_init_14 : decode cX11_init 14 = .ok (.aload_n 0, 1) := by decide +kernel
theorem dX11_init_15 : decode cX11_init 15 = .ok (.ldc_w 906, 3) := by decide +kernel
theorem dX11_init_18 : decode cX11_init 18 = .ok (.newarray .int, 2) := by decide +kernel
theorem dX11_init_20 : decode cX11_init 20 = .ok (.putfield 11, 3) := by decide +kernel
theorem dX11_init_23 : decode cX11_init 23 = .ok (.aload_n 0, 1) := by decide +kernel
theorem dX11_init_24 : decode cX11_init 24 = .ok (.ldc_w 907, 3) := by decide +kernel
theorem dX11_init_27 : decode cX11_init 27 = .ok (.newarray .int, 2) := by decide +kernel
theorem dX11_init_29 : decode cX11_init 29 = .ok (.putfield 908, 3) := by decide +kernel
theorem dX11_init_32 : decode cX11_init 32 = .ok (.aload_n 0, 1) := by decide +kernel
theorem dX11_init_33 : decode cX11_init 33 = .ok (.iconst 1, 1) := by decide +kernel
theorem dX11_init_34 : decode cX11_init 34 = .ok (.putfield 35, 3) := by decide +kernel
theorem dX11_init_37 : decode cX11_init 37 = .ok (.aload_n 0, 1) := by decide +kernel
theorem dX11_init_38 : decode cX11_init 38 = .ok (.bipush 16, 2) := by decide +kernel
theorem dX11_init_40 : decode cX11_init 40 = .ok (.newarray .int, 2) := by decide +kernel
theorem dX11_init_42 : decode cX11_init 42 = .ok (.putfield 52, 3) := by decide +kernel
theorem dX11_init_45 : decode cX11_init 45 = .ok (.aload_n 0, 1) := by decide +kernel
theorem dX11_init_46 : decode cX11_init 46 = .ok (.iconst 1, 1) := by decide +kernel
theorem dX11_init_47 : decode cX11_init 47 = .ok (.putfield 22, 3) := by decide +kernel
theorem dX11_init_50 : decode cX11_init 50 = .ok (.aload_n 0, 1) := by decide +kernel
theorem dX11_init_51 : decode cX11_init 51 = .ok (.sipush 1001, 3) := by decide +kernel
theorem dX11_init_54 : decode cX11_init 54 = .ok (.newarray .int, 2) := by decide +kernel
theorem dX11_init_56 : decode cX11_init 56 = .ok (.putfield 286, 3) := by decide +kernel
theorem dX11_init_59 : decode cX11_init 59 = .ok (.aload_n 0, 1) := by decide +kernel
theorem dX11_init_60 : decode cX11_init 60 = .ok (.sipush 1001, 3) := by decide +kernel
theorem dX11_init_63 : decode cX11_init 63 = .ok (.newarray .int, 2) := by decide +kernel
theorem dX11_init_65 : decode cX11_init 65 = .ok (.putfield 304, 3) := by decide +kernel
theorem dX11_init_68 : decode cX11_init 68 = .ok (.aload_n 0, 1) := by decide +kernel
theorem dX11_init_69 : decode cX11_init 69 = .ok (.sipush 4000, 3) := by decide +kernel
theorem dX11_init_72 : decode cX11_init 72 = .ok (.newarray .int, 2) := by decide +kernel
theorem dX11_init_74 : decode cX11_init 74 = .ok (.putfield 96, 3) := by decide +kernel
theorem dX11_init_77 : decode cX11_init 77 = .ok (.aload_n 0, 1) := by decide +kernel
theorem dX11_init_78 : decode cX11_init 78 = .ok (.sipush 8000, 3) := by decide +kernel
theorem dX11_init_81 : decode cX11_init 81 = .ok (.newarray .byte, 2) := by decide +kernel
theorem dX11_init_83 : decode cX11_init 83 = .ok (.putfield 333, 3) := by decide +kernel
theorem dX11_init_86 : decode cX11_init 86 = .ok (.aload_n 0, 1) := by decide +kernel
theorem dX11_init_87 : decode cX11_init 87 = .ok (.sipush 1000, 3) := by decide +kernel
theorem dX11_init_90 : decode cX11_init 90 = .ok (.newarray .byte, 2) := by decide +kernel
theorem dX11_init_92 : decode cX11_init 92 = .ok (.putfield 340, 3) := by decide +kernel
theorem dX11_init_95 : decode cX11_init 95 = .ok (.aload_n 0, 1) := by decide +kernel
theorem dX11_init_96 : decode cX11_init 96 = .ok (.ldc_w 911, 3) := by decide +kernel
theorem dX11_init_99 : decode cX11_init 99 = .ok (.newarray .int, 2) := by decide +kernel
theorem dX11_init_101 : decode cX11_init 101 = .ok (.putfield 530, 3) := by decide +kernel
theorem dX11_init_104 : decode cX11_init 104 = .ok (.aload_n 0, 1) := by decide +kernel
theorem dX11_init_105 : decode cX11_init 105 = .ok (.ldc_w 912, 3) := by decide +kernel
theorem dX11_init_108 : decode cX11_init 108 = .ok (.newarray .byte, 2) := by decide +kernel
theorem dX11_init_110 : decode cX11_init 110 = .ok (.putfield 556, 3) := by decide +kernel
theorem dX11_init_113 : decode cX11_init 113 = .ok (.aload_n 0, 1) := by decide +kernel
theorem dX11_init_114 : decode cX11_init 114 = .ok (.ldc_w 912, 3) := by decide +kernel
theorem dX11_init_117 : decode cX11_init 117 = .ok (.newarray .int, 2) := by decide +kernel
theorem dX11_init_119 : decode cX11_init 119 = .ok (.putfield 559, 3) := by decide +kernel
theorem dX11_init_122 : decode cX11_init 122 = .ok (.aload_n 0, 1) := by decide +kernel
theorem dX11_init_123 : decode cX11_init 123 = .ok (.ldc_w 912, 3) := by decide +kernel
theorem dX11_init_126 : decode cX11_init 126 = .ok (.newarray .int, 2) := by decide +kernel
theorem dX11_init_128 : decode cX11_init 128 = .ok (.putfield 565, 3) := by decide +kernel
theorem dX11_init_131 : decode cX11_init 131 = .ok (.aload_n 0, 1) := by decide +kernel
theorem dX11_init_132 : decode cX11_init 132 = .ok (.ldc_w 912, 3) := by decide +kernel
theorem dX11_init_135 : decode cX11_init 135 = .ok (.newarray .int, 2) := by decide +kernel
theorem dX11_init_137 : decode cX11_init 137 = .ok (.putfield 568, 3) := by decide +kernel
theorem dX11_init_140 : decode cX11_init 140 = .ok (.aload_n 0, 1) := by decide +kernel
theorem dX11_init_141 : decode cX11_init 141 = .ok (.ldc_w 912, 3) := by decide +kernel
theorem dX11_init_144 : decode cX11_init 144 = .ok (.newarray .int, 2) := by decide +kernel
theorem dX11_init_146 : decode cX11_init 146 = .ok (.putfield 571, 3) := by decide +kernel
theorem dX11_init_149 : decode cX11_init 149 = .ok (.aload_n 0, 1) := by decide +kernel
theorem dX11_init_150 : decode cX11_init 150 = .ok (.ldc_w 912, 3) := by decide +kernel
theorem dX11_init_153 : decode cX11_init 153 = .ok (.newarray .int, 2) := by decide +kernel
theorem dX11_init_155 : decode cX11_init 155 = .ok (.putfield 574, 3) := by decide +kernel
theorem dX11_init_158 : decode cX11_init 158 = .ok (.aload_n 0, 1) := by decide +kernel
theorem dX11_init_159 : decode cX11_init 159 = .ok (.ldc_w 912, 3) := by decide +kernel
theorem dX11_init_162 : decode cX11_init 162 = .ok (.newarray .int, 2) := by decide +kernel
theorem dX11_init_164 : decode cX11_init 164 = .ok (.putfield 580, 3) := by decide +kernel
theorem dX11_init_167 : decode cX11_init 167 = .ok (.aload_n 0, 1) := by decide +kernel
theorem dX11_init_168 : decode cX11_init 168 = .ok (.ldc_w 912, 3) := by decide +kernel
theorem dX11_init_171 : decode cX11_init 171 = .ok (.newarray .int, 2) := by decide +kernel
theorem dX11_init_173 : decode cX11_init 173 = .ok (.putfield 583, 3) := by decide +kernel
theorem dX11_init_176 : decode cX11_init 176 = .ok (.aload_n 0, 1) := by decide +kernel
theorem dX11_init_177 : decode cX11_init 177 = .ok (.sipush 880, 3) := by decide +kernel
theorem dX11_init_180 : decode cX11_init 180 = .ok (.newarray .int, 2) := by decide +kernel
theorem dX11_init_182 : decode cX11_init 182 = .ok (.putfield 653, 3) := by decide +kernel
theorem dX11_init_185 : decode cX11_init 185 = .ok (.aload_n 0, 1) := by decide +kernel
theorem dX11_init_186 : decode cX11_init 186 = .ok (.sipush 880, 3) := by decide +kernel
theorem dX11_init_189 : decode cX11_init 189 = .ok (.newarray .int, 2) := by decide +kernel
theorem dX11_init_191 : decode cX11_init 191 = .ok (.putfield 656, 3) := by decide +kernel
theorem dX11_init_194 : decode cX11_init 194 = .ok (.aload_n 0, 1) := by decide +kernel
theorem dX11_init_195 : decode cX11_init 195 = .ok (.sipush 880, 3) := by decide +kernel
theorem dX11_init_198 : decode cX11_init 198 = .ok (.newarray .int, 2) := by decide +kernel
theorem dX11_init_200 : decode cX11_init 200 = .ok (.putfield 659, 3) := by decide +kernel
theorem dX11_init_203 : decode cX11_init 203 = .ok (.aload_n 0, 1) := by decide +kernel
theorem dX11_init_204 : decode cX11_init 204 = .ok (.sipush 880, 3) := by decide +kernel
theorem dX11_init_207 : decode cX11_init 207 = .ok (.newarray .int, 2) := by decide +kernel
theorem dX11_init_209 : decode cX11_init 209 = .ok (.putfield 683, 3) := by decide +kernel
theorem dX11_init_212 : decode cX11_init 212 = .ok (.aload_n 0, 1) := by decide +kernel
theorem dX11_init_213 : decode cX11_init 213 = .ok (.sipush 880, 3) := by decide +kernel
theorem dX11_init_216 : decode cX11_init 216 = .ok (.newarray .int, 2) := by decide +kernel
theorem dX11_init_218 : decode cX11_init 218 = .ok (.putfield 689, 3) := by decide +kernel
theorem dX11_init_221 : decode cX11_init 221 = .ok (.aload_n 0, 1) := by decide +kernel
theorem dX11_init_222 : decode cX11_init 222 = .ok (.sipush 880, 3) := by decide +kernel
theorem dX11_init_225 : decode cX11_init 225 = .ok (.newarray .int, 2) := by decide +kernel
theorem dX11_init_227 : decode cX11_init 227 = .ok (.putfield 692, 3) := by decide +kernel
theorem dX11_init_230 : decode cX11_init 230 = .ok (.aload_n 0, 1) := by decide +kernel
theorem dX11_init_231 : decode cX11_init 231 = .ok (.bipush 60, 2) := by decide +kernel
theorem dX11_init_233 : decode cX11_init 233 = .ok (.newarray .int, 2) := by decide +kernel
theorem dX11_init_235 : decode cX11_init 235 = .ok (.putfield 668, 3) := by decide +kernel
theorem dX11_init_238 : decode cX11_init 238 = .ok (.aload_n 0, 1) := by decide +kernel
theorem dX11_init_239 : decode cX11_init 239 = .ok (.bipush 60, 2) := by decide +kernel
theorem dX11_init_241 : decode cX11_init 241 = .ok (.newarray .int, 2) := by decide +kernel
theorem dX11_init_243 : decode cX11_init 243 = .ok (.putfield 671, 3) := by decide +kernel
theorem dX11_init_246 : decode cX11_init 246 = .ok (.aload_n 0, 1) := by decide +kernel
theorem dX11_init_247 : decode cX11_init 247 = .ok (.sipush 6000, 3) := by decide +kernel
theorem dX11_init_250 : decode cX11_init 250 = .ok (.newarray .byte, 2) := by decide +kernel
theorem dX11_init_252 : decode cX11_init 252 = .ok (.putfield 677, 3) := by decide +kernel
theorem dX11_init_255 : decode cX11_init 255 = .ok (.aload_n 0, 1) := by decide +kernel
theorem dX11_init_256 : decode cX11_init 256 = .ok (.bipush 41, 2) := by decide +kernel
theorem dX11_init_258 : decode cX11_init 258 = .ok (.newarray .int, 2) := by decide +kernel
theorem dX11_init_260 : decode cX11_init 260 = .ok (.putfield 665, 3) := by decide +kernel
theorem dX11_init_263 : decode cX11_init 263 = .ok (.aload_n 0, 1) := by decide +kernel
theorem dX11_init_264 : decode cX11_init 264 = .ok (.bipush 41, 2) := by decide +kernel
theorem dX11_init_266 : decode cX11_init 266 = .ok (.newarray .int, 2) := by decide +kernel
theorem dX11_init_268 : decode cX11_init 268 = .ok (.putfield 774, 3) := by decide +kernel
theorem dX11_init_271 : decode cX11_init 271 = .ok (.aload_n 0, 1) := by decide +kernel
theorem dX11_init_272 : decode cX11_init 272 = .ok (.bipush 41, 2) := by decide +kernel
theorem dX11_init_274 : decode cX11_init 274 = .ok (.newarray .int, 2) := by decide +kernel
theorem dX11_init_276 : decode cX11_init 276 = .ok (.putfield 777, 3) := by decide +kernel
theorem dX11_init_279 : decode cX11_init 279 = .ok (.aload_n 0, 1) := by decide +kernel
theorem dX11_init_280 : decode cX11_init 280 = .ok (.bipush 41, 2) := by decide +kernel
theorem dX11_init_282 : decode cX11_init 282 = .ok (.newarray .int, 2) := by decide +kernel
theorem dX11_init_284 : decode cX11_init 284 = .ok (.putfield 837, 3) := by decide +kernel
theorem dX11_init_287 : decode cX11_init 287 = .ok (.aload_n 0, 1) := by decide +kernel
theorem dX11_init_288 : decode cX11_init 288 = .ok (.iconst (-1), 1) := by decide +kernel
theorem dX11_init_289 : decode cX11_init 289 = .ok (.putfield 786, 3) := by decide +kernel
theorem dX11_init_292 : decode cX11_init 292 = .ok (.aload_n 0, 1) := by decide +kernel
theorem dX11_init_293 : decode cX11_init 293 = .ok (.bipush 64, 2) := by decide +kernel
theorem dX11_init_295 : decode cX11_init 295 = .ok (.newarray .int, 2) := by decide +kernel
theorem dX11_init_297 : decode cX11_init 297 = .ok (.putfield 795, 3) := by decide +kernel
theorem dX11_init_300 : decode cX11_init 300 = .ok (.aload_n 0, 1) := by decide +kernel
theorem dX11_init_301 : decode cX11_init 301 = .ok (.bipush 64, 2) := by decide +kernel
theorem dX11_init_303 : decode cX11_init 303 = .ok (.newarray .int, 2) := by decide +kernel
theorem dX11_init_305 : decode cX11_init 305 = .ok (.putfield 801, 3) := by decide +kernel
theorem dX11_init_308 : decode cX11_init 308 = .ok (.aload_n 0, 1) := by decide +kernel
theorem dX11_init_309 : decode cX11_init 309 = .ok (.sipush 20002, 3) := by decide +kernel
theorem dX11_init_312 : decode cX11_init 312 = .ok (.newarray .int, 2) := by decide +kernel
theorem dX11_init_314 : decode cX11_init 314 = .ok (.putfield 891, 3) := by decide +kernel
theorem dX11_init_317 : decode cX11_init 317 = .ok (.aload_n 0, 1) := by decide +kernel
theorem dX11_init_318 : decode cX11_init 318 = .ok (.sipush 20002, 3) := by decide +kernel
theorem dX11_init_321 : decode cX11_init 321 = .ok (.newarray .int, 2) := by decide +kernel
theorem dX11_init_323 : decode cX11_init 323 = .ok (.putfield 885, 3) := by decide +kernel
theorem dX11_init_326 : decode cX11_init 326 = .ok (.aload_n 0, 1) := by decide +kernel
theorem dX11_init_327 : decode cX11_init 327 = .ok (.sipush 20002, 3) := by decide +kernel
theorem dX11_init_330 : decode cX11_init 330 = .ok (.newarray .int, 2) := by decide +kernel
theorem dX11_init_332 : decode cX11_init 332 = .ok (.putfield 888, 3) := by decide +kernel
theorem dX11_init_335 : decode cX11_init 335 = .ok (.aload_n 0, 1) := by decide +kernel
theorem dX11_init_336 : decode cX11_init 336 = .ok (.sipush 4000, 3) := by decide +kernel
theorem dX11_init_339 : decode cX11_init 339 = .ok (.newarray .byte, 2) := by decide +kernel
theorem dX11_init_341 : decode cX11_init 341 = .ok (.putfield 913, 3) := by decide +kernel
theorem dX11_init_344 : decode cX11_init 344 = .ok (.aload_n 0, 1) := by decide +kernel
theorem dX11_init_345 : decode cX11_init 345 = .ok (.iconst (-1), 1) := by decide +kernel
theorem dX11_init_346 : decode cX11_init 346 = .ok (.putfield 916, 3) := by decide +kernel
theorem dX11_init_349 : decode cX11_init 349 = .ok (.aload_n 0, 1) := by decide +kernel
theorem dX11_init_350 : decode cX11_init 350 = .ok (.bipush 10, 2) := by decide +kernel
theorem dX11_init_352 : decode cX11_init 352 = .ok (.newarray .int, 2) := by decide +kernel
theorem dX11_init_354 : decode cX11_init 354 = .ok (.putfield 919, 3) := by decide +kernel
theorem dX11_init_357 : decode cX11_init 357 = .ok (.return_, 1) := by decide +kernel
theorem dX11_feed_0 : decode cX11_feed 0 = .ok (.aload_n 0, 1) := by decide +kernel
theorem dX11_feed_1 : decode cX11_feed 1 = .ok (.getfield 922, 3) := by decide +kernel
theorem dX11_feed_4 : decode cX11_feed 4 = .ok (.bipush 20, 2) := by decide +kernel
theorem dX11_feed_6 : decode cX11_feed 6 = .ok (.iadd, 1) := by decide +kernel
theorem dX11_feed_7 : decode cX11_feed 7 = .ok (.sipush 4000, 3) := by decide +kernel
theorem dX11_feed_10 : decode cX11_feed 10 = .ok (.if_icmp .le 5, 3) := by decide +kernel
theorem dX11_feed_15 : decode cX11_feed 15 = .ok (.iconst 0, 1) := by decide +kernel
theorem dX11_feed_16 : decode cX11_feed 16 = .ok (.istore 6, 2) := by decide +kernel
theorem dX11_feed_18 : decode cX11_feed 18 = .ok (.iload 6, 2) := by decide +kernel
theorem dX11_feed_20 : decode cX11_feed 20 = .ok (.bipush 20, 2) := by decide +kernel
theorem dX11_feed_22 : decode cX11_feed 22 = .ok (.if_icmp .ge 83, 3) := by decide +kernel
theorem dX11_feed_25 : decode cX11_feed 25 = .ok (.iload 6, 2) := by decide +kernel
theorem dX11_feed_27 : decode cX11_feed 27 = .ok (.iconst 4, 1) := by decide +kernel
theorem dX11_feed_28 : decode cX11_feed 28 = .ok (.if_icmp .ge 7, 3) := by decide +kernel
theorem dX11_feed_31 : decode cX11_feed 31 = .ok (.iload_n 1, 1) := by decide +kernel
theorem dX11_feed_32 : decode cX11_feed 32 = .ok (.goto 39, 3) := by decide +kernel
theorem dX11_feed_35 : decode cX11_feed 35 = .ok (.iload 6, 2) := by decide +kernel
theorem dX11_feed_37 : decode cX11_feed 37 = .ok (.bipush 8, 2) := by decide +kernel
theorem dX11_feed_39 : decode cX11_feed 39 = .ok (.if_icmp .ge 7, 3) := by decide +kernel
theorem dX11_feed_42 : decode cX11_feed 42 = .ok (.iload_n 2, 1) := by decide +kernel
theorem dX11_feed_43 : decode cX11_feed 43 = .ok (.goto 28, 3) := by decide +kernel
theorem dX11_feed_46 : decode cX11_feed 46 = .ok (.iload 6, 2) := by decide +kernel
theorem dX11_feed_48 : decode cX11_feed 48 = .ok (.bipush 12, 2) := by decide +kernel
theorem dX11_feed_50 : decode cX11_feed 50 = .ok (.if_icmp .ge 7, 3) := by decide +kernel
theorem dX11_feed_53 : decode cX11_feed 53 = .ok (.iload_n 3, 1) := by decide +kernel
theorem dX11_feed_54 : decode cX11_feed 54 = .ok (.goto 17, 3) := by decide +kernel
theorem dX11_feed_57 : decode cX11_feed 57 = .ok (.iload 6, 2) := by decide +kernel
theorem dX11_feed_59 : decode cX11_feed 59 = .ok (.bipush 16, 2) := by decide +kernel
theorem dX11_feed_61 : decode cX11_feed 61 = .ok (.if_icmp .ge 8, 3) := by decide +kernel
theorem dX11_feed_64 : decode cX11_feed 64 = .ok (.iload 4, 2) := by decide +kernel
theorem dX11_feed_66 : decode cX11_feed 66 = .ok (.goto 5, 3) := by decide +kernel
theorem dX11_feed_69 : decode cX11_feed 69 = .ok (.iload 5, 2) := by decide +kernel
theorem dX11_feed_71 : decode cX11_feed 71 = .ok (.istore 7, 2) := by decide +kernel
theorem dX11_feed_73 : decode cX11_feed 73 = .ok (.aload_n 0, 1) := by decide +kernel
theorem dX11_feed_74 : decode cX11_feed 74 = .ok (.getfield 913, 3) := by decide +kernel
theorem dX11_feed_77 : decode cX11_feed 77 = .ok (.aload_n 0, 1) := by decide +kernel
theorem dX11_feed_78 : decode cX11_feed 78 = .ok (.getfield 922, 3) := by decide +kernel
theorem dX11_feed_81 : decode cX11_feed 81 = .ok (.iload 6, 2) := by decide +kernel
theorem dX11_feed_83 : decode cX11_feed 83 = .ok (.iadd, 1) := by decide +kernel
theorem dX11_feed_84 : decode cX11_feed 84 = .ok (.iload 7, 2) := by decide +kernel
theorem dX11_feed_86 : decode cX11_feed 86 = .ok (.bipush 24, 2) := by decide +kernel
theorem dX11_feed_88 : decode cX11_feed 88 = .ok (.bipush 8, 2) := by decide +kernel
theorem dX11_feed_90 : decode cX11_feed 90 = .ok (.iload 6, 2) := by decide +kernel
theorem dX11_feed_92 : decode cX11_feed 92 = .ok (.iconst 3, 1) := by decide +kernel
theorem dX11_feed_93 : decode cX11_feed 93 = .ok (.iand, 1) := by decide +kernel
theorem dX11_feed_94 : decode cX11_feed 94 = .ok (.imul, 1) := by decide +kernel
theorem dX11_feed_95 : decode cX11_feed 95 = .ok (.isub, 1) := by decide +kernel
theorem dX11_feed_96 : decode cX11_feed 96 = .ok (.ishr, 1) := by decide +kernel
theorem dX11_feed_97 : decode cX11_feed 97 = .ok (.i2b, 1) := by decide +kernel
theorem dX11_feed_98 : decode cX11_feed 98 = .ok (.bastore, 1) := by decide +kernel
theorem dX11_feed_99 : decode cX11_feed 99 = .ok (.iinc 6 1, 3) := by decide +kernel
theorem dX11_feed_102 : decode cX11_feed 102 = .ok (.goto (-84), 3) := by decide +kernel
theorem dX11_feed_105 : decode cX11_feed 105 = .ok (.aload_n 0, 1) := by decide +kernel
theorem dX11_feed_106 : decode cX11_feed 106 = .ok (.dup, 1) := by decide +kernel
theorem dX11_feed_107 : decode cX11_feed 107 = .ok (.getfield 922, 3) := by decide +kernel
theorem dX11_feed_110 : decode cX11_feed 110 = .ok (.bipush 20, 2) := by decide +kernel
theorem dX11_feed_112 : decode cX11_feed 112 = .ok (.iadd, 1) := by decide +kernel
theorem dX11_feed_113 : decode cX11_feed 113 = .ok (.putfield 922, 3) := by decide +kernel
theorem dX11_feed_116 : decode cX11_feed 116 = .ok (.aload_n 0, 1) := by decide +kernel
theorem dX11_feed_117 : decode cX11_feed 117 = .ok (.getfield 922, 3) := by decide +kernel
theorem dX11_feed_120 : decode cX11_feed 120 = .ok (.ireturn, 1) := by decide +kernel
theorem dX11_trim_0 : decode cX11_trim 0 = .ok (.iload_n 1, 1) := by decide +kernel
theorem dX11_trim_1 : decode cX11_trim 1 = .ok (.ifCond .lt 11, 3) := by decide +kernel
theorem dX11_trim_4 : decode cX11_trim 4 = .ok (.iload_n 1, 1) := by decide +kernel
theorem dX11_trim_5 : decode cX11_trim 5 = .ok (.aload_n 0, 1) := by decide +kernel
theorem dX11_trim_6 : decode cX11_trim 6 = .ok (.getfield 922, 3) := by decide +kernel
theorem dX11_trim_9 : decode cX11_trim 9 = .ok (.if_icmp .le 5, 3) := by decide +kernel
theorem dX11_trim_12 : decode cX11_trim 12 = .ok (.iconst (-1), 1) := by decide +kernel
theorem dX11_trim_13 : decode cX11_trim 13 = .ok (.ireturn, 1) := by decide +kernel
theorem dX11_trim_14 : decode cX11_trim 14 = .ok (.aload_n 0, 1) := by decide +kernel
theorem dX11_trim_15 : decode cX11_trim 15 = .ok (.iload_n 1, 1) := by decide +kernel
theorem dX11_trim_16 : decode cX11_trim 16 = .ok (.putfield 922, 3) := by decide +kernel
theorem dX11_trim_19 : decode cX11_trim 19 = .ok (.iload_n 1, 1) := by decide +kernel
theorem dX11_trim_20 : decode cX11_trim 20 = .ok (.ireturn, 1) := by decide +kernel
theorem dX11_run_0 : decode cX11_run 0 = .ok (.aload_n 0, 1) := by decide +kernel
theorem dX11_run_1 : decode cX11_run 1 = .ok (.iconst 0, 1) := by decide +kernel
theorem dX11_run_2 : decode cX11_run 2 = .ok (.putfield 1, 3) := by decide +kernel
theorem dX11_run_5 : decode cX11_run 5 = .ok (.aload_n 0, 1) := by decide +kernel
theorem dX11_run_6 : decode cX11_run 6 = .ok (.iconst 0, 1) := by decide +kernel
theorem dX11_run_7 : decode cX11_run 7 = .ok (.putfield 7, 3) := by decide +kernel
theorem dX11_run_10 : decode cX11_run 10 = .ok (.aload_n 0, 1) := by decide +kernel
theorem dX11_run_11 : decode cX11_run 11 = .ok (.iconst 0, 1) := by decide +kernel
theorem dX11_run_12 : decode cX11_run 12 = .ok (.putfield 439, 3) := by decide +kernel
theorem dX11_run_15 : decode cX11_run 15 = .ok (.aload_n 0, 1) := by decide +kernel
theorem dX11_run_16 : decode cX11_run 16 = .ok (.iconst 0, 1) := by decide +kernel
theorem dX11_run_17 : decode cX11_run 17 = .ok (.putfield 527, 3) := by decide +kernel
theorem dX11_run_20 : decode cX11_run 20 = .ok (.aload_n 0, 1) := by decide +kernel
theorem dX11_run_21 : decode cX11_run 21 = .ok (.iconst 0, 1) := by decide +kernel
theorem dX11_run_22 : decode cX11_run 22 = .ok (.putfield 873, 3) := by decide +kernel
theorem dX11_run_25 : decode cX11_run 25 = .ok (.aload_n 0, 1) := by decide +kernel
theorem dX11_run_26 : decode cX11_run 26 = .ok (.iconst 0, 1) := by decide +kernel
theorem dX11_run_27 : decode cX11_run 27 = .ok (.putfield 798, 3) := by decide +kernel
theorem dX11_run_30 : decode cX11_run 30 = .ok (.aload_n 0, 1) := by decide +kernel
theorem dX11_run_31 : decode cX11_run 31 = .ok (.iconst (-1), 1) := by decide +kernel
theorem dX11_run_32 : decode cX11_run 32 = .ok (.putfield 786, 3) := by decide +kernel
theorem dX11_run_35 : decode cX11_run 35 = .ok (.aload_n 0, 1) := by decide +kernel
theorem dX11_run_36 : decode cX11_run 36 = .ok (.iconst 0, 1) := by decide +kernel
theorem dX11_run_37 : decode cX11_run 37 = .ok (.putfield 562, 3) := by decide +kernel
theorem dX11_run_40 : decode cX11_run 40 = .ok (.aload_n 0, 1) := by decide +kernel
theorem dX11_run_41 : decode cX11_run 41 = .ok (.iconst (-1), 1) := by decide +kernel
theorem dX11_run_42 : decode cX11_run 42 = .ok (.putfield 916, 3) := by decide +kernel
theorem dX11_run_45 : decode cX11_run 45 = .ok (.aload_n 0, 1) := by decide +kernel
theorem dX11_run_46 : decode cX11_run 46 = .ok (.iconst 0, 1) := by decide +kernel
theorem dX11_run_47 : decode cX11_run 47 = .ok (.putfield 330, 3) := by decide +kernel
theorem dX11_run_50 : decode cX11_run 50 = .ok (.aload_n 0, 1) := by decide +kernel
theorem dX11_run_51 : decode cX11_run 51 = .ok (.iconst 0, 1) := by decide +kernel
theorem dX11_run_52 : decode cX11_run 52 = .ok (.putfield 925, 3) := by decide +kernel
theorem dX11_run_55 : decode cX11_run 55 = .ok (.iconst 0, 1) := by decide +kernel
theorem dX11_run_56 : decode cX11_run 56 = .ok (.istore_n 1, 1) := by decide +kernel
theorem dX11_run_57 : decode cX11_run 57 = .ok (.iload_n 1, 1) := by decide +kernel
theorem dX11_run_58 : decode cX11_run 58 = .ok (.bipush 60, 2) := by decide +kernel
theorem dX11_run_60 : decode cX11_run 60 = .ok (.if_icmp .ge 26, 3) := by decide +kernel
theorem dX11_run_63 : decode cX11_run 63 = .ok (.aload_n 0, 1) := by decide +kernel
theorem dX11_run_64 : decode cX11_run 64 = .ok (.getfield 653, 3) := by decide +kernel
theorem dX11_run_67 : decode cX11_run 67 = .ok (.iload_n 1, 1) := by decide +kernel
theorem dX11_run_68 : decode cX11_run 68 = .ok (.iaload, 1) := by decide +kernel
theorem dX11_run_69 : decode cX11_run 69 = .ok (.iconst 2, 1) := by decide +kernel
theorem dX11_run_70 : decode cX11_run 70 = .ok (.if_icmp .ne 10, 3) := by decide +kernel
theorem dX11_run_80 : decode cX11_run 80 = .ok (.iinc 1 1, 3) := by decide +kernel
theorem dX11_run_83 : decode cX11_run 83 = .ok (.goto (-26), 3) := by decide +kernel
theorem dX11_run_86 : decode cX11_run 86 = .ok (.iconst 0, 1) := by decide +kernel
theorem dX11_run_87 : decode cX11_run 87 = .ok (.istore_n 1, 1) := by decide +kernel
theorem dX11_run_88 : decode cX11_run 88 = .ok (.iload_n 1, 1) := by decide +kernel
theorem dX11_run_89 : decode cX11_run 89 = .ok (.aload_n 0, 1) := by decide +kernel
theorem dX11_run_90 : decode cX11_run 90 = .ok (.getfield 922, 3) := by decide +kernel
theorem dX11_run_93 : decode cX11_run 93 = .ok (.if_icmp .ge 21, 3) := by decide +kernel
theorem dX11_run_114 : decode cX11_run 114 = .ok (.aload_n 0, 1) := by decide +kernel
theorem dX11_run_115 : decode cX11_run 115 = .ok (.aload_n 0, 1) := by decide +kernel
theorem dX11_run_116 : decode cX11_run 116 = .ok (.getfield 922, 3) := by decide +kernel
theorem dX11_run_119 : decode cX11_run 119 = .ok (.putfield 695, 3) := by decide +kernel
theorem dX11_run_122 : decode cX11_run 122 = .ok (.aload_n 0, 1) := by decide +kernel
theorem dX11_run_123 : decode cX11_run 123 = .ok (.iconst 0, 1) := by decide +kernel
theorem dX11_run_124 : decode cX11_run 124 = .ok (.putfield 922, 3) := by decide +kernel
theorem dX11_run_127 : decode cX11_run 127 = .ok (.aload_n 0, 1) := by decide +kernel
theorem dX11_run_128 : decode cX11_run 128 = .ok (.iconst 0, 1) := by decide +kernel
theorem dX11_run_129 : decode cX11_run 129 = .ok (.aload_n 0, 1) := by decide +kernel
theorem dX11_run_130 : decode cX11_run 130 = .ok (.getfield 695, 3) := by decide +kernel
theorem dX11_run_133 : decode cX11_run 133 = .ok (.invokevirtual 698, 3) := by decide +kernel
theorem dX11_run_136 : decode cX11_run 136 = .ok (.istore_n 1, 1) := by decide +kernel
theorem dX11_run_137 : decode cX11_run 137 = .ok (.aload_n 0, 1) := by decide +kernel
theorem dX11_run_138 : decode cX11_run 138 = .ok (.getfield 562, 3) := by decide +kernel
theorem dX11_run_141 : decode cX11_run 141 = .ok (.istore_n 2, 1) := by decide +kernel
theorem dX11_run_142 : decode cX11_run 142 = .ok (.aload_n 0, 1) := by decide +kernel
theorem dX11_run_143 : decode cX11_run 143 = .ok (.getfield 586, 3) := by decide +kernel
theorem dX11_run_146 : decode cX11_run 146 = .ok (.iconst (-1), 1) := by decide +kernel
theorem dX11_run_147 : decode cX11_run 147 = .ok (.if_icmp .eq 11, 3) := by decide +kernel
theorem dX11_run_158 : decode cX11_run 158 = .ok (.iconst 0, 1) := by decide +kernel
theorem dX11_run_159 : decode cX11_run 159 = .ok (.istore_n 3, 1) := by decide +kernel
theorem dX11_run_160 : decode cX11_run 160 = .ok (.aload_n 0, 1) := by decide +kernel
theorem dX11_run_161 : decode cX11_run 161 = .ok (.getfield 1, 3) := by decide +kernel
theorem dX11_run_164 : decode cX11_run 164 = .ok (.ifCond .ne 52, 3) := by decide +kernel
theorem dX11_run_167 : decode cX11_run 167 = .ok (.iload_n 1, 1) := by decide +kernel
theorem dX11_run_168 : decode cX11_run 168 = .ok (.iload_n 2, 1) := by decide +kernel
theorem dX11_run_169 : decode cX11_run 169 = .ok (.if_icmp .gt 47, 3) := by decide +kernel
theorem dX11_run_172 : decode cX11_run 172 = .ok (.aload_n 0, 1) := by decide +kernel
theorem dX11_run_173 : decode cX11_run 173 = .ok (.iload_n 1, 1) := by decide +kernel
theorem dX11_run_174 : decode cX11_run 174 = .ok (.iload_n 2, 1) := by decide +kernel
theorem dX11_run_175 : decode cX11_run 175 = .ok (.invokevirtual 897, 3) := by decide +kernel
theorem dX11_run_178 : decode cX11_run 178 = .ok (.istore 4, 2) := by decide +kernel
theorem dX11_run_180 : decode cX11_run 180 = .ok (.iload 4, 2) := by decide +kernel
theorem dX11_run_182 : decode cX11_run 182 = .ok (.iload_n 1, 1) := by decide +kernel
theorem dX11_run_183 : decode cX11_run 183 = .ok (.if_icmp .le 10, 3) := by decide +kernel
theorem dX11_run_193 : decode cX11_run 193 = .ok (.aload_n 0, 1) := by decide +kernel
theorem dX11_run_194 : decode cX11_run 194 = .ok (.getfield 1, 3) := by decide +kernel
theorem dX11_run_197 : decode cX11_run 197 = .ok (.ifCond .eq 8, 3) := by decide +kernel
theorem dX11_run_205 : decode cX11_run 205 = .ok (.iinc 3 1, 3) := by decide +kernel
theorem dX11_run_208 : decode cX11_run 208 = .ok (.iload 4, 2) := by decide +kernel
theorem dX11_run_210 : decode cX11_run 210 = .ok (.iconst 1, 1) := by decide +kernel
theorem dX11_run_211 : decode cX11_run 211 = .ok (.iadd, 1) := by decide +kernel
theorem dX11_run_212 : decode cX11_run 212 = .ok (.istore_n 1, 1) := by decide +kernel
theorem dX11_run_213 : decode cX11_run 213 = .ok (.goto (-53), 3) := by decide +kernel
theorem dX11_run_216 : decode cX11_run 216 = .ok (.aload_n 0, 1) := by decide +kernel
theorem dX11_run_217 : decode cX11_run 217 = .ok (.iconst 0, 1) := by decide +kernel
theorem dX11_run_218 : decode cX11_run 218 = .ok (.invokevirtual 882, 3) := by decide +kernel
theorem dX11_run_221 : decode cX11_run 221 = .ok (.aload_n 0, 1) := by decide +kernel
theorem dX11_run_222 : decode cX11_run 222 = .ok (.invokevirtual 931, 3) := by decide +kernel
theorem dX11_run_225 : decode cX11_run 225 = .ok (.aload_n 0, 1) := by decide +kernel
theorem dX11_run_226 : decode cX11_run 226 = .ok (.getfield 1, 3) := by decide +kernel
theorem dX11_run_229 : decode cX11_run 229 = .ok (.ireturn, 1) := by decide +kernel
theorem dX11_settle_0 : decode cX11_settle 0 = .ok (.aload_n 0, 1) := by decide +kernel
theorem dX11_settle_1 : decode cX11_settle 1 = .ok (.iconst 1, 1) := by decide +kernel
theorem dX11_settle_2 : decode cX11_settle 2 = .ok (.putfield 934, 3) := by decide +kernel
theorem dX11_settle_5 : decode cX11_settle 5 = .ok (.iconst 0, 1) := by decide +kernel
theorem dX11_settle_6 : decode cX11_settle 6 = .ok (.istore_n 1, 1) := by decide +kernel
theorem dX11_settle_7 : decode cX11_settle 7 = .ok (.iload_n 1, 1) := by decide +kernel
theorem dX11_settle_8 : decode cX11_settle 8 = .ok (.bipush 60, 2) := by decide +kernel
theorem dX11_settle_10 : decode cX11_settle 10 = .ok (.if_icmp .ge 35, 3) := by decide +kernel
theorem dX11_settle_13 : decode cX11_settle 13 = .ok (.aload_n 0, 1) := by decide +kernel
theorem dX11_settle_14 : decode cX11_settle 14 = .ok (.getfield 653, 3) := by decide +kernel
theorem dX11_settle_17 : decode cX11_settle 17 = .ok (.iload_n 1, 1) := by decide +kernel
theorem dX11_settle_18 : decode cX11_settle 18 = .ok (.iaload, 1) := by decide +kernel
theorem dX11_settle_19 : decode cX11_settle 19 = .ok (.iconst 1, 1) := by decide +kernel
theorem dX11_settle_20 : decode cX11_settle 20 = .ok (.if_icmp .ne 19, 3) := by decide +kernel
theorem dX11_settle_39 : decode cX11_settle 39 = .ok (.iinc 1 1, 3) := by decide +kernel
theorem dX11_settle_42 : decode cX11_settle 42 = .ok (.goto (-35), 3) := by decide +kernel
theorem dX11_settle_45 : decode cX11_settle 45 = .ok (.iconst 1, 1) := by decide +kernel
theorem dX11_settle_46 : decode cX11_settle 46 = .ok (.istore_n 1, 1) := by decide +kernel
theorem dX11_settle_47 : decode cX11_settle 47 = .ok (.iload_n 1, 1) := by decide +kernel
theorem dX11_settle_48 : decode cX11_settle 48 = .ok (.aload_n 0, 1) := by decide +kernel
theorem dX11_settle_49 : decode cX11_settle 49 = .ok (.getfield 934, 3) := by decide +kernel
theorem dX11_settle_52 : decode cX11_settle 52 = .ok (.if_icmp .ge 21, 3) := by decide +kernel
theorem dX11_settle_73 : decode cX11_settle 73 = .ok (.aload_n 0, 1) := by decide +kernel
theorem dX11_settle_74 : decode cX11_settle 74 = .ok (.aload_n 0, 1) := by decide +kernel
theorem dX11_settle_75 : decode cX11_settle 75 = .ok (.getfield 934, 3) := by decide +kernel
theorem dX11_settle_78 : decode cX11_settle 78 = .ok (.putfield 35, 3) := by decide +kernel
theorem dX11_settle_81 : decode cX11_settle 81 = .ok (.return_, 1) := by decide +kernel
theorem dX11_at_0 : decode cX11_at 0 = .ok (.aload_n 0, 1) := by decide +kernel
theorem dX11_at_1 : decode cX11_at 1 = .ok (.getfield 916, 3) := by decide +kernel
theorem dX11_at_4 : decode cX11_at 4 = .ok (.ireturn, 1) := by decide +kernel
theorem dX11_steps_0 : decode cX11_steps 0 = .ok (.aload_n 0, 1) := by decide +kernel
theorem dX11_steps_1 : decode cX11_steps 1 = .ok (.getfield 7, 3) := by decide +kernel
theorem dX11_steps_4 : decode cX11_steps 4 = .ok (.ireturn, 1) := by decide +kernel
theorem dX11_shown_0 : decode cX11_shown 0 = .ok (.aload_n 0, 1) := by decide +kernel
theorem dX11_shown_1 : decode cX11_shown 1 = .ok (.getfield 330, 3) := by decide +kernel
theorem dX11_shown_4 : decode cX11_shown 4 = .ok (.ireturn, 1) := by decide +kernel
theorem dX11_byteAt_0 : decode cX11_byteAt 0 = .ok (.iload_n 1, 1) := by decide +kernel
theorem dX11_byteAt_1 : decode cX11_byteAt 1 = .ok (.ifCond .lt 20, 3) := by decide +kernel
theorem dX11_byteAt_4 : decode cX11_byteAt 4 = .ok (.iload_n 1, 1) := by decide +kernel
theorem dX11_byteAt_5 : decode cX11_byteAt 5 = .ok (.aload_n 0, 1) := by decide +kernel
theorem dX11_byteAt_6 : decode cX11_byteAt 6 = .ok (.getfield 330, 3) := by decide +kernel
theorem dX11_byteAt_9 : decode cX11_byteAt 9 = .ok (.if_icmp .ge 12, 3) := by decide +kernel
theorem dX11_byteAt_21 : decode cX11_byteAt 21 = .ok (.iconst (-1), 1) := by decide +kernel
theorem dX11_byteAt_22 : decode cX11_byteAt 22 = .ok (.ireturn, 1) := by decide +kernel
theorem dX11_taken__0 : decode cX11_taken_ 0 = .ok (.aload_n 0, 1) := by decide +kernel
theorem dX11_taken__1 : decode cX11_taken_ 1 = .ok (.getfield 922, 3) := by decide +kernel
theorem dX11_taken__4 : decode cX11_taken_ 4 = .ok (.istore_n 1, 1) := by decide +kernel
theorem dX11_taken__5 : decode cX11_taken_ 5 = .ok (.aload_n 0, 1) := by decide +kernel
theorem dX11_taken__6 : decode cX11_taken_ 6 = .ok (.iconst 0, 1) := by decide +kernel
theorem dX11_taken__7 : decode cX11_taken_ 7 = .ok (.putfield 922, 3) := by decide +kernel
theorem dX11_taken__10 : decode cX11_taken_ 10 = .ok (.iload_n 1, 1) := by decide +kernel
theorem dX11_taken__11 : decode cX11_taken_ 11 = .ok (.ifCond .le 25, 3) := by decide +kernel
theorem dX11_taken__36 : decode cX11_taken_ 36 = .ok (.iconst 0, 1) := by decide +kernel
theorem dX11_taken__37 : decode cX11_taken_ 37 = .ok (.istore_n 2, 1) := by decide +kernel
theorem dX11_taken__38 : decode cX11_taken_ 38 = .ok (.iconst 0, 1) := by decide +kernel
theorem dX11_taken__39 : decode cX11_taken_ 39 = .ok (.istore_n 3, 1) := by decide +kernel
theorem dX11_taken__40 : decode cX11_taken_ 40 = .ok (.iload_n 3, 1) := by decide +kernel
theorem dX11_taken__41 : decode cX11_taken_ 41 = .ok (.iload_n 1, 1) := by decide +kernel
theorem dX11_taken__42 : decode cX11_taken_ 42 = .ok (.if_icmp .ge 43, 3) := by decide +kernel
theorem dX11_taken__85 : decode cX11_taken_ 85 = .ok (.iload_n 2, 1) := by decide +kernel
theorem dX11_taken__86 : decode cX11_taken_ 86 = .ok (.ifCond .ne 5, 3) := by decide +kernel
theorem dX11_taken__89 : decode cX11_taken_ 89 = .ok (.iconst (-1), 1) := by decide +kernel
theorem dX11_taken__90 : decode cX11_taken_ 90 = .ok (.ireturn, 1) := by decide +kernel
theorem dX11_view_0 : decode cX11_view 0 = .ok (.aload_n 0, 1) := by decide +kernel
theorem dX11_view_1 : decode cX11_view 1 = .ok (.iconst 0, 1) := by decide +kernel
theorem dX11_view_2 : decode cX11_view 2 = .ok (.putfield 925, 3) := by decide +kernel
theorem dX11_view_5 : decode cX11_view 5 = .ok (.aload_n 0, 1) := by decide +kernel
theorem dX11_view_6 : decode cX11_view 6 = .ok (.invokevirtual 940, 3) := by decide +kernel
theorem dX11_view_9 : decode cX11_view 9 = .ok (.istore_n 1, 1) := by decide +kernel
theorem dX11_view_10 : decode cX11_view 10 = .ok (.iload_n 1, 1) := by decide +kernel
theorem dX11_view_11 : decode cX11_view 11 = .ok (.iconst (-1), 1) := by decide +kernel
theorem dX11_view_12 : decode cX11_view 12 = .ok (.if_icmp .ne 5, 3) := by decide +kernel
theorem dX11_view_15 : decode cX11_view 15 = .ok (.iconst (-1), 1) := by decide +kernel
theorem dX11_view_16 : decode cX11_view 16 = .ok (.ireturn, 1) := by decide +kernel
theorem dX11_into_0 : decode cX11_into 0 = .ok (.aload_n 0, 1) := by decide +kernel
theorem dX11_into_1 : decode cX11_into 1 = .ok (.getfield 925, 3) := by decide +kernel
theorem dX11_into_4 : decode cX11_into 4 = .ok (.ifCond .eq 31, 3) := by decide +kernel
theorem dX11_into_35 : decode cX11_into 35 = .ok (.iconst (-1), 1) := by decide +kernel
theorem dX11_into_36 : decode cX11_into 36 = .ok (.ireturn, 1) := by decide +kernel
theorem dX11_back_0 : decode cX11_back 0 = .ok (.aload_n 0, 1) := by decide +kernel
theorem dX11_back_1 : decode cX11_back 1 = .ok (.getfield 925, 3) := by decide +kernel
theorem dX11_back_4 : decode cX11_back 4 = .ok (.iconst 2, 1) := by decide +kernel
theorem dX11_back_5 : decode cX11_back 5 = .ok (.if_icmp .ge 5, 3) := by decide +kernel
theorem dX11_back_8 : decode cX11_back 8 = .ok (.iconst (-1), 1) := by decide +kernel
theorem dX11_back_9 : decode cX11_back 9 = .ok (.ireturn, 1) := by decide +kernel
theorem dX11_about_0 : decode cX11_about 0 = .ok (.aload_n 0, 1) := by decide +kernel
theorem dX11_about_1 : decode cX11_about 1 = .ok (.getfield 925, 3) := by decide +kernel
theorem dX11_about_4 : decode cX11_about 4 = .ok (.ifCond .ne 5, 3) := by decide +kernel
theorem dX11_about_7 : decode cX11_about 7 = .ok (.iconst (-1), 1) := by decide +kernel
theorem dX11_about_8 : decode cX11_about 8 = .ok (.ireturn, 1) := by decide +kernel
theorem dX11_extent__0 : decode cX11_extent_ 0 = .ok (.aload_n 0, 1) := by decide +kernel
theorem dX11_extent__1 : decode cX11_extent_ 1 = .ok (.getfield 925, 3) := by decide +kernel
theorem dX11_extent__4 : decode cX11_extent_ 4 = .ok (.ifCond .eq 19, 3) := by decide +kernel
theorem dX11_extent__23 : decode cX11_extent_ 23 = .ok (.iconst (-1), 1) := by decide +kernel
theorem dX11_extent__24 : decode cX11_extent_ 24 = .ok (.goto 12, 3) := by decide +kernel
theorem dX11_extent__36 : decode cX11_extent_ 36 = .ok (.ireturn, 1) := by decide +kernel
theorem dX11_viewed_0 : decode cX11_viewed 0 = .ok (.aload_n 0, 1) := by decide +kernel
theorem dX11_viewed_1 : decode cX11_viewed 1 = .ok (.getfield 925, 3) := by decide +kernel
theorem dX11_viewed_4 : decode cX11_viewed 4 = .ok (.ifCond .eq 20, 3) := by decide +kernel
theorem dX11_viewed_24 : decode cX11_viewed 24 = .ok (.iconst 0, 1) := by decide +kernel
theorem dX11_viewed_25 : decode cX11_viewed 25 = .ok (.ireturn, 1) := by decide +kernel
theorem dX11_kind_0 : decode cX11_kind 0 = .ok (.aload_n 0, 1) := by decide +kernel
theorem dX11_kind_1 : decode cX11_kind 1 = .ok (.iload_n 1, 1) := by decide +kernel
theorem dX11_kind_2 : decode cX11_kind 2 = .ok (.invokevirtual 949, 3) := by decide +kernel
theorem dX11_kind_5 : decode cX11_kind 5 = .ok (.ifCond .ne 5, 3) := by decide +kernel
theorem dX11_kind_8 : decode cX11_kind 8 = .ok (.iconst (-1), 1) := by decide +kernel
theorem dX11_kind_9 : decode cX11_kind 9 = .ok (.ireturn, 1) := by decide +kernel
theorem dX11_number__0 : decode cX11_number_ 0 = .ok (.aload_n 0, 1) := by decide +kernel
theorem dX11_number__1 : decode cX11_number_ 1 = .ok (.iload_n 1, 1) := by decide +kernel
theorem dX11_number__2 : decode cX11_number_ 2 = .ok (.invokevirtual 949, 3) := by decide +kernel
theorem dX11_number__5 : decode cX11_number_ 5 = .ok (.ifCond .eq 10, 3) := by decide +kernel
theorem dX11_number__15 : decode cX11_number_ 15 = .ok (.iconst 0, 1) := by decide +kernel
theorem dX11_number__16 : decode cX11_number_ 16 = .ok (.ireturn, 1) := by decide +kernel
theorem dX11_told_0 : decode cX11_told 0 = .ok (.iconst 0, 1) := by decide +kernel
theorem dX11_told_1 : decode cX11_told 1 = .ok (.istore_n 2, 1) := by decide +kernel
theorem dX11_told_2 : decode cX11_told 2 = .ok (.iconst 0, 1) := by decide +kernel
theorem dX11_told_3 : decode cX11_told 3 = .ok (.istore_n 3, 1) := by decide +kernel
theorem dX11_told_4 : decode cX11_told 4 = .ok (.iconst 0, 1) := by decide +kernel
theorem dX11_told_5 : decode cX11_told 5 = .ok (.istore 4, 2) := by decide +kernel
theorem dX11_told_7 : decode cX11_told 7 = .ok (.iconst 0, 1) := by decide +kernel
theorem dX11_told_8 : decode cX11_told 8 = .ok (.istore 5, 2) := by decide +kernel
theorem dX11_told_10 : decode cX11_told 10 = .ok (.iload 5, 2) := by decide +kernel
theorem dX11_told_12 : decode cX11_told 12 = .ok (.bipush 60, 2) := by decide +kernel
theorem dX11_told_14 : decode cX11_told 14 = .ok (.if_icmp .ge 78, 3) := by decide +kernel
theorem dX11_told_17 : decode cX11_told 17 = .ok (.iload_n 2, 1) := by decide +kernel
theorem dX11_told_18 : decode cX11_told 18 = .ok (.aload_n 0, 1) := by decide +kernel
theorem dX11_told_19 : decode cX11_told 19 = .ok (.getfield 653, 3) := by decide +kernel
theorem dX11_told_22 : decode cX11_told 22 = .ok (.iload 5, 2) := by decide +kernel
theorem dX11_told_24 : decode cX11_told 24 = .ok (.iaload, 1) := by decide +kernel
theorem dX11_told_25 : decode cX11_told 25 = .ok (.iconst 1, 1) := by decide +kernel
theorem dX11_told_26 : decode cX11_told 26 = .ok (.if_icmp .ne 7, 3) := by decide +kernel
theorem dX11_told_33 : decode cX11_told 33 = .ok (.iconst 0, 1) := by decide +kernel
theorem dX11_told_34 : decode cX11_told 34 = .ok (.iadd, 1) := by decide +kernel
theorem dX11_told_35 : decode cX11_told 35 = .ok (.istore_n 2, 1) := by decide +kernel
theorem dX11_told_36 : decode cX11_told 36 = .ok (.iload_n 3, 1) := by decide +kernel
theorem dX11_told_37 : decode cX11_told 37 = .ok (.aload_n 0, 1) := by decide +kernel
theorem dX11_told_38 : decode cX11_told 38 = .ok (.getfield 653, 3) := by decide +kernel
theorem dX11_told_41 : decode cX11_told 41 = .ok (.iload 5, 2) := by decide +kernel
theorem dX11_told_43 : decode cX11_told 43 = .ok (.iaload, 1) := by decide +kernel
theorem dX11_told_44 : decode cX11_told 44 = .ok (.iconst 2, 1) := by decide +kernel
theorem dX11_told_45 : decode cX11_told 45 = .ok (.if_icmp .ne 7, 3) := by decide +kernel
theorem dX11_told_52 : decode cX11_told 52 = .ok (.iconst 0, 1) := by decide +kernel
theorem dX11_told_53 : decode cX11_told 53 = .ok (.iadd, 1) := by decide +kernel
theorem dX11_told_54 : decode cX11_told 54 = .ok (.istore_n 3, 1) := by decide +kernel
theorem dX11_told_55 : decode cX11_told 55 = .ok (.iload 4, 2) := by decide +kernel
theorem dX11_told_57 : decode cX11_told 57 = .ok (.aload_n 0, 1) := by decide +kernel
theorem dX11_told_58 : decode cX11_told 58 = .ok (.getfield 653, 3) := by decide +kernel
theorem dX11_told_61 : decode cX11_told 61 = .ok (.iload 5, 2) := by decide +kernel
theorem dX11_told_63 : decode cX11_told 63 = .ok (.iaload, 1) := by decide +kernel
theorem dX11_told_64 : decode cX11_told 64 = .ok (.iconst 1, 1) := by decide +kernel
theorem dX11_told_65 : decode cX11_told 65 = .ok (.if_icmp .ne 17, 3) := by decide +kernel
theorem dX11_told_82 : decode cX11_told 82 = .ok (.iconst 0, 1) := by decide +kernel
theorem dX11_told_83 : decode cX11_told 83 = .ok (.iadd, 1) := by decide +kernel
theorem dX11_told_84 : decode cX11_told 84 = .ok (.istore 4, 2) := by decide +kernel
theorem dX11_told_86 : decode cX11_told 86 = .ok (.iinc 5 1, 3) := by decide +kernel
theorem dX11_told_89 : decode cX11_told 89 = .ok (.goto (-79), 3) := by decide +kernel
theorem dX11_told_92 : decode cX11_told 92 = .ok (.iload_n 1, 1) := by decide +kernel
theorem dX11_told_93 : decode cX11_told 93 = .ok (.tableswitch 79 0 7 #[47, 51, 53, 55, 60, 63, 68, 74], 47) := by decide +kernel
theorem dX11_told_140 : decode cX11_told 140 = .ok (.iload_n 2, 1) := by decide +kernel
theorem dX11_told_141 : decode cX11_told 141 = .ok (.iload_n 3, 1) := by decide +kernel
theorem dX11_told_142 : decode cX11_told 142 = .ok (.iadd, 1) := by decide +kernel
theorem dX11_told_143 : decode cX11_told 143 = .ok (.ireturn, 1) := by decide +kernel
theorem dX11_told_144 : decode cX11_told 144 = .ok (.iload_n 2, 1) := by decide +kernel
theorem dX11_told_145 : decode cX11_told 145 = .ok (.ireturn, 1) := by decide +kernel
theorem dX11_told_146 : decode cX11_told 146 = .ok (.iload_n 3, 1) := by decide +kernel
theorem dX11_told_147 : decode cX11_told 147 = .ok (.ireturn, 1) := by decide +kernel
theorem dX11_told_148 : decode cX11_told 148 = .ok (.aload_n 0, 1) := by decide +kernel
theorem dX11_told_149 : decode cX11_told 149 = .ok (.getfield 674, 3) := by decide +kernel
theorem dX11_told_152 : decode cX11_told 152 = .ok (.ireturn, 1) := by decide +kernel
theorem dX11_told_153 : decode cX11_told 153 = .ok (.iload 4, 2) := by decide +kernel
theorem dX11_told_155 : decode cX11_told 155 = .ok (.ireturn, 1) := by decide +kernel
theorem dX11_told_156 : decode cX11_told 156 = .ok (.aload_n 0, 1) := by decide +kernel
theorem dX11_told_157 : decode cX11_told 157 = .ok (.getfield 177, 3) := by decide +kernel
theorem dX11_told_160 : decode cX11_told 160 = .ok (.ireturn, 1) := by decide +kernel
theorem dX11_told_161 : decode cX11_told 161 = .ok (.aload_n 0, 1) := by decide +kernel
theorem dX11_told_162 : decode cX11_told 162 = .ok (.getfield 151, 3) := by decide +kernel
theorem dX11_told_165 : decode cX11_told 165 = .ok (.l2i, 1) := by decide +kernel
theorem dX11_told_166 : decode cX11_told 166 = .ok (.ireturn, 1) := by decide +kernel
theorem dX11_told_167 : decode cX11_told 167 = .ok (.aload_n 0, 1) := by decide +kernel
theorem dX11_told_168 : decode cX11_told 168 = .ok (.getfield 922, 3) := by decide +kernel
theorem dX11_told_171 : decode cX11_told 171 = .ok (.ireturn, 1) := by decide +kernel
theorem dX11_told_172 : decode cX11_told 172 = .ok (.iconst (-1), 1) := by decide +kernel
theorem dX11_told_173 : decode cX11_told 173 = .ok (.ireturn, 1) := by decide +kernel
theorem dX11_forget_0 : decode cX11_forget 0 = .ok (.aload_n 0, 1) := by decide +kernel
theorem dX11_forget_1 : decode cX11_forget 1 = .ok (.invokevirtual 940, 3) := by decide +kernel
theorem dX11_forget_4 : decode cX11_forget 4 = .ok (.istore_n 1, 1) := by decide +kernel
theorem dX11_forget_5 : decode cX11_forget 5 = .ok (.iload_n 1, 1) := by decide +kernel
theorem dX11_forget_6 : decode cX11_forget 6 = .ok (.iconst (-1), 1) := by decide +kernel
theorem dX11_forget_7 : decode cX11_forget 7 = .ok (.if_icmp .ne 5, 3) := by decide +kernel
theorem dX11_forget_10 : decode cX11_forget 10 = .ok (.iconst (-1), 1) := by decide +kernel
theorem dX11_forget_11 : decode cX11_forget 11 = .ok (.ireturn, 1) := by decide +kernel
theorem dX11_set__0 : decode cX11_set_ 0 = .ok (.iload_n 1, 1) := by decide +kernel
theorem dX11_set__1 : decode cX11_set_ 1 = .ok (.ifCond .ne 10, 3) := by decide +kernel
theorem dX11_set__4 : decode cX11_set_ 4 = .ok (.aload_n 0, 1) := by decide +kernel
theorem dX11_set__5 : decode cX11_set_ 5 = .ok (.getfield 177, 3) := by decide +kernel
theorem dX11_set__8 : decode cX11_set_ 8 = .ok (.goto 8, 3) := by decide +kernel
theorem dX11_set__11 : decode cX11_set_ 11 = .ok (.aload_n 0, 1) := by decide +kernel
theorem dX11_set__12 : decode cX11_set_ 12 = .ok (.getfield 151, 3) := by decide +kernel
theorem dX11_set__15 : decode cX11_set_ 15 = .ok (.l2i, 1) := by decide +kernel
theorem dX11_set__16 : decode cX11_set_ 16 = .ok (.istore_n 3, 1) := by decide +kernel
theorem dX11_set__17 : decode cX11_set_ 17 = .ok (.iload_n 1, 1) := by decide +kernel
theorem dX11_set__18 : decode cX11_set_ 18 = .ok (.ifCond .ne 20, 3) := by decide +kernel
theorem dX11_set__21 : decode cX11_set_ 21 = .ok (.iload_n 2, 1) := by decide +kernel
theorem dX11_set__22 : decode cX11_set_ 22 = .ok (.ifCond .lt 16, 3) := by decide +kernel
theorem dX11_set__25 : decode cX11_set_ 25 = .ok (.iload_n 2, 1) := by decide +kernel
theorem dX11_set__26 : decode cX11_set_ 26 = .ok (.iconst 1, 1) := by decide +kernel
theorem dX11_set__27 : decode cX11_set_ 27 = .ok (.if_icmp .gt 11, 3) := by decide +kernel
theorem dX11_set__30 : decode cX11_set_ 30 = .ok (.aload_n 0, 1) := by decide +kernel
theorem dX11_set__31 : decode cX11_set_ 31 = .ok (.iload_n 2, 1) := by decide +kernel
theorem dX11_set__32 : decode cX11_set_ 32 = .ok (.putfield 177, 3) := by decide +kernel
theorem dX11_set__35 : decode cX11_set_ 35 = .ok (.goto 33, 3) := by decide +kernel
theorem dX11_set__38 : decode cX11_set_ 38 = .ok (.iload_n 1, 1) := by decide +kernel
theorem dX11_set__39 : decode cX11_set_ 39 = .ok (.iconst 1, 1) := by decide +kernel
theorem dX11_set__40 : decode cX11_set_ 40 = .ok (.if_icmp .ne 26, 3) := by decide +kernel
theorem dX11_set__43 : decode cX11_set_ 43 = .ok (.iload_n 2, 1) := by decide +kernel
theorem dX11_set__44 : decode cX11_set_ 44 = .ok (.iconst 1, 1) := by decide +kernel
theorem dX11_set__45 : decode cX11_set_ 45 = .ok (.if_icmp .lt 21, 3) := by decide +kernel
theorem dX11_set__48 : decode cX11_set_ 48 = .ok (.iload_n 2, 1) := by decide +kernel
theorem dX11_set__49 : decode cX11_set_ 49 = .ok (.i2l, 1) := by decide +kernel
theorem dX11_set__50 : decode cX11_set_ 50 = .ok (.ldc2_w 155, 3) := by decide +kernel
theorem dX11_set__53 : decode cX11_set_ 53 = .ok (.lcmp, 1) := by decide +kernel
theorem dX11_set__54 : decode cX11_set_ 54 = .ok (.ifCond .ge 12, 3) := by decide +kernel
theorem dX11_set__57 : decode cX11_set_ 57 = .ok (.aload_n 0, 1) := by decide +kernel
theorem dX11_set__58 : decode cX11_set_ 58 = .ok (.iload_n 2, 1) := by decide +kernel
theorem dX11_set__59 : decode cX11_set_ 59 = .ok (.i2l, 1) := by decide +kernel
theorem dX11_set__60 : decode cX11_set_ 60 = .ok (.putfield 151, 3) := by decide +kernel
theorem dX11_set__63 : decode cX11_set_ 63 = .ok (.goto 5, 3) := by decide +kernel
theorem dX11_set__66 : decode cX11_set_ 66 = .ok (.iconst (-1), 1) := by decide +kernel
theorem dX11_set__67 : decode cX11_set_ 67 = .ok (.ireturn, 1) := by decide +kernel
theorem dX11_set__68 : decode cX11_set_ 68 = .ok (.iload_n 3, 1) := by decide +kernel
theorem dX11_set__69 : decode cX11_set_ 69 = .ok (.ireturn, 1) := by decide +kernel
theorem dL_law_0 : decode cL_law 0 = .ok (.new 7, 3) := by decide +kernel
theorem dL_law_3 : decode cL_law 3 = .ok (.dup, 1) := by decide +kernel
theorem dL_law_4 : decode cL_law 4 = .ok (.invokespecial 9, 3) := by decide +kernel
theorem dL_law_7 : decode cL_law 7 = .ok (.astore_n 1, 1) := by decide +kernel
theorem dL_law_8 : decode cL_law 8 = .ok (.new 10, 3) := by decide +kernel
theorem dL_law_11 : decode cL_law 11 = .ok (.dup, 1) := by decide +kernel
theorem dL_law_12 : decode cL_law 12 = .ok (.invokespecial 12, 3) := by decide +kernel
theorem dL_law_15 : decode cL_law 15 = .ok (.astore_n 2, 1) := by decide +kernel
theorem dL_law_16 : decode cL_law 16 = .ok (.iconst 0, 1) := by decide +kernel
theorem dL_law_17 : decode cL_law 17 = .ok (.istore_n 3, 1) := by decide +kernel
theorem dL_law_18 : decode cL_law 18 = .ok (.iload_n 3, 1) := by decide +kernel
theorem dL_law_19 : decode cL_law 19 = .ok (.aload_n 0, 1) := by decide +kernel
theorem dL_law_20 : decode cL_law 20 = .ok (.arraylength, 1) := by decide +kernel
theorem dL_law_21 : decode cL_law 21 = .ok (.bipush 6, 2) := by decide +kernel
theorem dL_law_23 : decode cL_law 23 = .ok (.isub, 1) := by decide +kernel
theorem dL_law_24 : decode cL_law 24 = .ok (.if_icmp .gt 495, 3) := by decide +kernel
theorem dL_law_27 : decode cL_law 27 = .ok (.aload_n 0, 1) := by decide +kernel
theorem dL_law_28 : decode cL_law 28 = .ok (.iload_n 3, 1) := by decide +kernel
theorem dL_law_29 : decode cL_law 29 = .ok (.iaload, 1) := by decide +kernel
theorem dL_law_30 : decode cL_law 30 = .ok (.bipush 31, 2) := by decide +kernel
theorem dL_law_32 : decode cL_law 32 = .ok (.iand, 1) := by decide +kernel
theorem dL_law_33 : decode cL_law 33 = .ok (.tableswitch 480 0 16 #[83, 146, 169, 182, 195, 208, 221, 244, 257, 280, 293, 316, 339, 362, 411, 434, 447], 83) := by decide +kernel
theorem dL_law_116 : decode cL_law 116 = .ok (.aload_n 1, 1) := by decide +kernel
theorem dL_law_117 : decode cL_law 117 = .ok (.aload_n 0, 1) := by decide +kernel
theorem dL_law_118 : decode cL_law 118 = .ok (.iload_n 3, 1) := by decide +kernel
theorem dL_law_119 : decode cL_law 119 = .ok (.iconst 1, 1) := by decide +kernel
theorem dL_law_120 : decode cL_law 120 = .ok (.iadd, 1) := by decide +kernel
theorem dL_law_121 : decode cL_law 121 = .ok (.iaload, 1) := by decide +kernel
theorem dL_law_122 : decode cL_law 122 = .ok (.aload_n 0, 1) := by decide +kernel
theorem dL_law_123 : decode cL_law 123 = .ok (.iload_n 3, 1) := by decide +kernel
theorem dL_law_124 : decode cL_law 124 = .ok (.iconst 2, 1) := by decide +kernel
theorem dL_law_125 : decode cL_law 125 = .ok (.iadd, 1) := by decide +kernel
theorem dL_law_126 : decode cL_law 126 = .ok (.iaload, 1) := by decide +kernel
theorem dL_law_127 : decode cL_law 127 = .ok (.aload_n 0, 1) := by decide +kernel
theorem dL_law_128 : decode cL_law 128 = .ok (.iload_n 3, 1) := by decide +kernel
theorem dL_law_129 : decode cL_law 129 = .ok (.iconst 3, 1) := by decide +kernel
theorem dL_law_130 : decode cL_law 130 = .ok (.iadd, 1) := by decide +kernel
theorem dL_law_131 : decode cL_law 131 = .ok (.iaload, 1) := by decide +kernel
theorem dL_law_132 : decode cL_law 132 = .ok (.aload_n 0, 1) := by decide +kernel
theorem dL_law_133 : decode cL_law 133 = .ok (.iload_n 3, 1) := by decide +kernel
theorem dL_law_134 : decode cL_law 134 = .ok (.iconst 4, 1) := by decide +kernel
theorem dL_law_135 : decode cL_law 135 = .ok (.iadd, 1) := by decide +kernel
theorem dL_law_136 : decode cL_law 136 = .ok (.iaload, 1) := by decide +kernel
theorem dL_law_137 : decode cL_law 137 = .ok (.aload_n 0, 1) := by decide +kernel
theorem dL_law_138 : decode cL_law 138 = .ok (.iload_n 3, 1) := by decide +kernel
theorem dL_law_139 : decode cL_law 139 = .ok (.iconst 5, 1) := by decide +kernel
theorem dL_law_140 : decode cL_law 140 = .ok (.iadd, 1) := by decide +kernel
theorem dL_law_141 : decode cL_law 141 = .ok (.iaload, 1) := by decide +kernel
theorem dL_law_142 : decode cL_law 142 = .ok (.invokevirtual 13, 3) := by decide +kernel
theorem dL_law_145 : decode cL_law 145 = .ok (.aload_n 2, 1) := by decide +kernel
theorem dL_law_146 : decode cL_law 146 = .ok (.aload_n 0, 1) := by decide +kernel
theorem dL_law_147 : decode cL_law 147 = .ok (.iload_n 3, 1) := by decide +kernel
theorem dL_law_148 : decode cL_law 148 = .ok (.iconst 1, 1) := by decide +kernel
theorem dL_law_149 : decode cL_law 149 = .ok (.iadd, 1) := by decide +kernel
theorem dL_law_150 : decode cL_law 150 = .ok (.iaload, 1) := by decide +kernel
theorem dL_law_151 : decode cL_law 151 = .ok (.aload_n 0, 1) := by decide +kernel
theorem dL_law_152 : decode cL_law 152 = .ok (.iload_n 3, 1) := by decide +kernel
theorem dL_law_153 : decode cL_law 153 = .ok (.iconst 2, 1) := by decide +kernel
theorem dL_law_154 : decode cL_law 154 = .ok (.iadd, 1) := by decide +kernel
theorem dL_law_155 : decode cL_law 155 = .ok (.iaload, 1) := by decide +kernel
theorem dL_law_156 : decode cL_law 156 = .ok (.aload_n 0, 1) := by decide +kernel
theorem dL_law_157 : decode cL_law 157 = .ok (.iload_n 3, 1) := by decide +kernel
theorem dL_law_158 : decode cL_law 158 = .ok (.iconst 3, 1) := by decide +kernel
theorem dL_law_159 : decode cL_law 159 = .ok (.iadd, 1) := by decide +kernel
theorem dL_law_160 : decode cL_law 160 = .ok (.iaload, 1) := by decide +kernel
theorem dL_law_161 : decode cL_law 161 = .ok (.aload_n 0, 1) := by decide +kernel
theorem dL_law_162 : decode cL_law 162 = .ok (.iload_n 3, 1) := by decide +kernel
theorem dL_law_163 : decode cL_law 163 = .ok (.iconst 4, 1) := by decide +kernel
theorem dL_law_164 : decode cL_law 164 = .ok (.iadd, 1) := by decide +kernel
theorem dL_law_165 : decode cL_law 165 = .ok (.iaload, 1) := by decide +kernel
theorem dL_law_166 : decode cL_law 166 = .ok (.aload_n 0, 1) := by decide +kernel
theorem dL_law_167 : decode cL_law 167 = .ok (.iload_n 3, 1) := by decide +kernel
theorem dL_law_168 : decode cL_law 168 = .ok (.iconst 5, 1) := by decide +kernel
theorem dL_law_169 : decode cL_law 169 = .ok (.iadd, 1) := by decide +kernel
theorem dL_law_170 : decode cL_law 170 = .ok (.iaload, 1) := by decide +kernel
theorem dL_law_171 : decode cL_law 171 = .ok (.invokevirtual 17, 3) := by decide +kernel
theorem dL_law_174 : decode cL_law 174 = .ok (.if_icmp .eq 339, 3) := by decide +kernel
theorem dL_law_179 : decode cL_law 179 = .ok (.aload_n 1, 1) := by decide +kernel
theorem dL_law_180 : decode cL_law 180 = .ok (.aload_n 0, 1) := by decide +kernel
theorem dL_law_181 : decode cL_law 181 = .ok (.iload_n 3, 1) := by decide +kernel
theorem dL_law_182 : decode cL_law 182 = .ok (.iconst 1, 1) := by decide +kernel
theorem dL_law_183 : decode cL_law 183 = .ok (.iadd, 1) := by decide +kernel
theorem dL_law_184 : decode cL_law 184 = .ok (.iaload, 1) := by decide +kernel
theorem dL_law_185 : decode cL_law 185 = .ok (.invokevirtual 18, 3) := by decide +kernel
theorem dL_law_188 : decode cL_law 188 = .ok (.aload_n 2, 1) := by decide +kernel
theorem dL_law_189 : decode cL_law 189 = .ok (.aload_n 0, 1) := by decide +kernel
theorem dL_law_190 : decode cL_law 190 = .ok (.iload_n 3, 1) := by decide +kernel
theorem dL_law_191 : decode cL_law 191 = .ok (.iconst 1, 1) := by decide +kernel
theorem dL_law_192 : decode cL_law 192 = .ok (.iadd, 1) := by decide +kernel
theorem dL_law_193 : decode cL_law 193 = .ok (.iaload, 1) := by decide +kernel
theorem dL_law_194 : decode cL_law 194 = .ok (.invokevirtual 22, 3) := by decide +kernel
theorem dL_law_197 : decode cL_law 197 = .ok (.if_icmp .eq 316, 3) := by decide +kernel
theorem dL_law_202 : decode cL_law 202 = .ok (.aload_n 1, 1) := by decide +kernel
theorem dL_law_203 : decode cL_law 203 = .ok (.invokevirtual 23, 3) := by decide +kernel
theorem dL_law_206 : decode cL_law 206 = .ok (.aload_n 2, 1) := by decide +kernel
theorem dL_law_207 : decode cL_law 207 = .ok (.invokevirtual 27, 3) := by decide +kernel
theorem dL_law_210 : decode cL_law 210 = .ok (.if_icmp .eq 303, 3) := by decide +kernel
theorem dL_law_215 : decode cL_law 215 = .ok (.aload_n 1, 1) := by decide +kernel
theorem dL_law_216 : decode cL_law 216 = .ok (.invokevirtual 28, 3) := by decide +kernel
theorem dL_law_219 : decode cL_law 219 = .ok (.aload_n 2, 1) := by decide +kernel
theorem dL_law_220 : decode cL_law 220 = .ok (.invokevirtual 31, 3) := by decide +kernel
theorem dL_law_223 : decode cL_law 223 = .ok (.if_icmp .eq 290, 3) := by decide +kernel
theorem dL_law_228 : decode cL_law 228 = .ok (.aload_n 1, 1) := by decide +kernel
theorem dL_law_229 : decode cL_law 229 = .ok (.invokevirtual 32, 3) := by decide +kernel
theorem dL_law_232 : decode cL_law 232 = .ok (.aload_n 2, 1) := by decide +kernel
theorem dL_law_233 : decode cL_law 233 = .ok (.invokevirtual 35, 3) := by decide +kernel
theorem dL_law_236 : decode cL_law 236 = .ok (.if_icmp .eq 277, 3) := by decide +kernel
theorem dL_law_241 : decode cL_law 241 = .ok (.aload_n 1, 1) := by decide +kernel
theorem dL_law_242 : decode cL_law 242 = .ok (.invokevirtual 36, 3) := by decide +kernel
theorem dL_law_245 : decode cL_law 245 = .ok (.aload_n 2, 1) := by decide +kernel
theorem dL_law_246 : decode cL_law 246 = .ok (.invokevirtual 39, 3) := by decide +kernel
theorem dL_law_249 : decode cL_law 249 = .ok (.if_icmp .eq 264, 3) := by decide +kernel
theorem dL_law_254 : decode cL_law 254 = .ok (.aload_n 1, 1) := by decide +kernel
theorem dL_law_255 : decode cL_law 255 = .ok (.aload_n 0, 1) := by decide +kernel
theorem dL_law_256 : decode cL_law 256 = .ok (.iload_n 3, 1) := by decide +kernel
theorem dL_law_257 : decode cL_law 257 = .ok (.iconst 1, 1) := by decide +kernel
theorem dL_law_258 : decode cL_law 258 = .ok (.iadd, 1) := by decide +kernel
theorem dL_law_259 : decode cL_law 259 = .ok (.iaload, 1) := by decide +kernel
theorem dL_law_260 : decode cL_law 260 = .ok (.invokevirtual 40, 3) := by decide +kernel
theorem dL_law_263 : decode cL_law 263 = .ok (.aload_n 2, 1) := by decide +kernel
theorem dL_law_264 : decode cL_law 264 = .ok (.aload_n 0, 1) := by decide +kernel
theorem dL_law_265 : decode cL_law 265 = .ok (.iload_n 3, 1) := by decide +kernel
theorem dL_law_266 : decode cL_law 266 = .ok (.iconst 1, 1) := by decide +kernel
theorem dL_law_267 : decode cL_law 267 = .ok (.iadd, 1) := by decide +kernel
theorem dL_law_268 : decode cL_law 268 = .ok (.iaload, 1) := by decide +kernel
theorem dL_law_269 : decode cL_law 269 = .ok (.invokevirtual 43, 3) := by decide +kernel
theorem dL_law_272 : decode cL_law 272 = .ok (.if_icmp .eq 241, 3) := by decide +kernel
theorem dL_law_277 : decode cL_law 277 = .ok (.aload_n 1, 1) := by decide +kernel
theorem dL_law_278 : decode cL_law 278 = .ok (.invokevirtual 44, 3) := by decide +kernel
theorem dL_law_281 : decode cL_law 281 = .ok (.aload_n 2, 1) := by decide +kernel
theorem dL_law_282 : decode cL_law 282 = .ok (.invokevirtual 47, 3) := by decide +kernel
theorem dL_law_285 : decode cL_law 285 = .ok (.if_icmp .eq 228, 3) := by decide +kernel
theorem dL_law_290 : decode cL_law 290 = .ok (.aload_n 1, 1) := by decide +kernel
theorem dL_law_291 : decode cL_law 291 = .ok (.aload_n 0, 1) := by decide +kernel
theorem dL_law_292 : decode cL_law 292 = .ok (.iload_n 3, 1) := by decide +kernel
theorem dL_law_293 : decode cL_law 293 = .ok (.iconst 1, 1) := by decide +kernel
theorem dL_law_294 : decode cL_law 294 = .ok (.iadd, 1) := by decide +kernel
theorem dL_law_295 : decode cL_law 295 = .ok (.iaload, 1) := by decide +kernel
theorem dL_law_296 : decode cL_law 296 = .ok (.invokevirtual 48, 3) := by decide +kernel
theorem dL_law_299 : decode cL_law 299 = .ok (.aload_n 2, 1) := by decide +kernel
theorem dL_law_300 : decode cL_law 300 = .ok (.aload_n 0, 1) := by decide +kernel
theorem dL_law_301 : decode cL_law 301 = .ok (.iload_n 3, 1) := by decide +kernel
theorem dL_law_302 : decode cL_law 302 = .ok (.iconst 1, 1) := by decide +kernel
theorem dL_law_303 : decode cL_law 303 = .ok (.iadd, 1) := by decide +kernel
theorem dL_law_304 : decode cL_law 304 = .ok (.iaload, 1) := by decide +kernel
theorem dL_law_305 : decode cL_law 305 = .ok (.invokevirtual 51, 3) := by decide +kernel
theorem dL_law_308 : decode cL_law 308 = .ok (.if_icmp .eq 205, 3) := by decide +kernel
theorem dL_law_313 : decode cL_law 313 = .ok (.aload_n 1, 1) := by decide +kernel
theorem dL_law_314 : decode cL_law 314 = .ok (.invokevirtual 52, 3) := by decide +kernel
theorem dL_law_317 : decode cL_law 317 = .ok (.aload_n 2, 1) := by decide +kernel
theorem dL_law_318 : decode cL_law 318 = .ok (.invokevirtual 55, 3) := by decide +kernel
theorem dL_law_321 : decode cL_law 321 = .ok (.if_icmp .eq 192, 3) := by decide +kernel
theorem dL_law_326 : decode cL_law 326 = .ok (.aload_n 1, 1) := by decide +kernel
theorem dL_law_327 : decode cL_law 327 = .ok (.aload_n 0, 1) := by decide +kernel
theorem dL_law_328 : decode cL_law 328 = .ok (.iload_n 3, 1) := by decide +kernel
theorem dL_law_329 : decode cL_law 329 = .ok (.iconst 1, 1) := by decide +kernel
theorem dL_law_330 : decode cL_law 330 = .ok (.iadd, 1) := by decide +kernel
theorem dL_law_331 : decode cL_law 331 = .ok (.iaload, 1) := by decide +kernel
theorem dL_law_332 : decode cL_law 332 = .ok (.invokevirtual 56, 3) := by decide +kernel
theorem dL_law_335 : decode cL_law 335 = .ok (.aload_n 2, 1) := by decide +kernel
theorem dL_law_336 : decode cL_law 336 = .ok (.aload_n 0, 1) := by decide +kernel
theorem dL_law_337 : decode cL_law 337 = .ok (.iload_n 3, 1) := by decide +kernel
theorem dL_law_338 : decode cL_law 338 = .ok (.iconst 1, 1) := by decide +kernel
theorem dL_law_339 : decode cL_law 339 = .ok (.iadd, 1) := by decide +kernel
theorem dL_law_340 : decode cL_law 340 = .ok (.iaload, 1) := by decide +kernel
theorem dL_law_341 : decode cL_law 341 = .ok (.invokevirtual 59, 3) := by decide +kernel
theorem dL_law_344 : decode cL_law 344 = .ok (.if_icmp .eq 169, 3) := by decide +kernel
theorem dL_law_349 : decode cL_law 349 = .ok (.aload_n 1, 1) := by decide +kernel
theorem dL_law_350 : decode cL_law 350 = .ok (.aload_n 0, 1) := by decide +kernel
theorem dL_law_351 : decode cL_law 351 = .ok (.iload_n 3, 1) := by decide +kernel
theorem dL_law_352 : decode cL_law 352 = .ok (.iconst 1, 1) := by decide +kernel
theorem dL_law_353 : decode cL_law 353 = .ok (.iadd, 1) := by decide +kernel
theorem dL_law_354 : decode cL_law 354 = .ok (.iaload, 1) := by decide +kernel
theorem dL_law_355 : decode cL_law 355 = .ok (.invokevirtual 60, 3) := by decide +kernel
theorem dL_law_358 : decode cL_law 358 = .ok (.aload_n 2, 1) := by decide +kernel
theorem dL_law_359 : decode cL_law 359 = .ok (.aload_n 0, 1) := by decide +kernel
theorem dL_law_360 : decode cL_law 360 = .ok (.iload_n 3, 1) := by decide +kernel
theorem dL_law_361 : decode cL_law 361 = .ok (.iconst 1, 1) := by decide +kernel
theorem dL_law_362 : decode cL_law 362 = .ok (.iadd, 1) := by decide +kernel
theorem dL_law_363 : decode cL_law 363 = .ok (.iaload, 1) := by decide +kernel
theorem dL_law_364 : decode cL_law 364 = .ok (.invokevirtual 63, 3) := by decide +kernel
theorem dL_law_367 : decode cL_law 367 = .ok (.if_icmp .eq 146, 3) := by decide +kernel
theorem dL_law_372 : decode cL_law 372 = .ok (.aload_n 1, 1) := by decide +kernel
theorem dL_law_373 : decode cL_law 373 = .ok (.aload_n 0, 1) := by decide +kernel
theorem dL_law_374 : decode cL_law 374 = .ok (.iload_n 3, 1) := by decide +kernel
theorem dL_law_375 : decode cL_law 375 = .ok (.iconst 1, 1) := by decide +kernel
theorem dL_law_376 : decode cL_law 376 = .ok (.iadd, 1) := by decide +kernel
theorem dL_law_377 : decode cL_law 377 = .ok (.iaload, 1) := by decide +kernel
theorem dL_law_378 : decode cL_law 378 = .ok (.invokevirtual 64, 3) := by decide +kernel
theorem dL_law_381 : decode cL_law 381 = .ok (.aload_n 2, 1) := by decide +kernel
theorem dL_law_382 : decode cL_law 382 = .ok (.aload_n 0, 1) := by decide +kernel
theorem dL_law_383 : decode cL_law 383 = .ok (.iload_n 3, 1) := by decide +kernel
theorem dL_law_384 : decode cL_law 384 = .ok (.iconst 1, 1) := by decide +kernel
theorem dL_law_385 : decode cL_law 385 = .ok (.iadd, 1) := by decide +kernel
theorem dL_law_386 : decode cL_law 386 = .ok (.iaload, 1) := by decide +kernel
theorem dL_law_387 : decode cL_law 387 = .ok (.invokevirtual 67, 3) := by decide +kernel
theorem dL_law_390 : decode cL_law 390 = .ok (.if_icmp .eq 123, 3) := by decide +kernel
theorem dL_law_395 : decode cL_law 395 = .ok (.aload_n 1, 1) := by decide +kernel
theorem dL_law_396 : decode cL_law 396 = .ok (.aload_n 0, 1) := by decide +kernel
theorem dL_law_397 : decode cL_law 397 = .ok (.iload_n 3, 1) := by decide +kernel
theorem dL_law_398 : decode cL_law 398 = .ok (.iconst 1, 1) := by decide +kernel
theorem dL_law_399 : decode cL_law 399 = .ok (.iadd, 1) := by decide +kernel
theorem dL_law_400 : decode cL_law 400 = .ok (.iaload, 1) := by decide +kernel
theorem dL_law_401 : decode cL_law 401 = .ok (.aload_n 0, 1) := by decide +kernel
theorem dL_law_402 : decode cL_law 402 = .ok (.iload_n 3, 1) := by decide +kernel
theorem dL_law_403 : decode cL_law 403 = .ok (.iconst 2, 1) := by decide +kernel
theorem dL_law_404 : decode cL_law 404 = .ok (.iadd, 1) := by decide +kernel
theorem dL_law_405 : decode cL_law 405 = .ok (.iaload, 1) := by decide +kernel
theorem dL_law_406 : decode cL_law 406 = .ok (.ifCond .eq 7, 3) := by decide +kernel
theorem dL_law_409 : decode cL_law 409 = .ok (.iconst 1, 1) := by decide +kernel
theorem dL_law_410 : decode cL_law 410 = .ok (.goto 4, 3) := by decide +kernel
theorem dL_law_413 : decode cL_law 413 = .ok (.iconst 0, 1) := by decide +kernel
theorem dL_law_414 : decode cL_law 414 = .ok (.invokevirtual 68, 3) := by decide +kernel
theorem dL_law_417 : decode cL_law 417 = .ok (.aload_n 2, 1) := by decide +kernel
theorem dL_law_418 : decode cL_law 418 = .ok (.aload_n 0, 1) := by decide +kernel
theorem dL_law_419 : decode cL_law 419 = .ok (.iload_n 3, 1) := by decide +kernel
theorem dL_law_420 : decode cL_law 420 = .ok (.iconst 1, 1) := by decide +kernel
theorem dL_law_421 : decode cL_law 421 = .ok (.iadd, 1) := by decide +kernel
theorem dL_law_422 : decode cL_law 422 = .ok (.iaload, 1) := by decide +kernel
theorem dL_law_423 : decode cL_law 423 = .ok (.aload_n 0, 1) := by decide +kernel
theorem dL_law_424 : decode cL_law 424 = .ok (.iload_n 3, 1) := by decide +kernel
theorem dL_law_425 : decode cL_law 425 = .ok (.iconst 2, 1) := by decide +kernel
theorem dL_law_426 : decode cL_law 426 = .ok (.iadd, 1) := by decide +kernel
theorem dL_law_427 : decode cL_law 427 = .ok (.iaload, 1) := by decide +kernel
theorem dL_law_428 : decode cL_law 428 = .ok (.ifCond .eq 7, 3) := by decide +kernel
theorem dL_law_431 : decode cL_law 431 = .ok (.iconst 1, 1) := by decide +kernel
theorem dL_law_432 : decode cL_law 432 = .ok (.goto 4, 3) := by decide +kernel
theorem dL_law_435 : decode cL_law 435 = .ok (.iconst 0, 1) := by decide +kernel
theorem dL_law_436 : decode cL_law 436 = .ok (.invokevirtual 72, 3) := by decide +kernel
theorem dL_law_439 : decode cL_law 439 = .ok (.if_icmp .eq 74, 3) := by decide +kernel
theorem dL_law_444 : decode cL_law 444 = .ok (.aload_n 1, 1) := by decide +kernel
theorem dL_law_445 : decode cL_law 445 = .ok (.aload_n 0, 1) := by decide +kernel
theorem dL_law_446 : decode cL_law 446 = .ok (.iload_n 3, 1) := by decide +kernel
theorem dL_law_447 : decode cL_law 447 = .ok (.iconst 1, 1) := by decide +kernel
theorem dL_law_448 : decode cL_law 448 = .ok (.iadd, 1) := by decide +kernel
theorem dL_law_449 : decode cL_law 449 = .ok (.iaload, 1) := by decide +kernel
theorem dL_law_450 : decode cL_law 450 = .ok (.invokevirtual 73, 3) := by decide +kernel
theorem dL_law_453 : decode cL_law 453 = .ok (.aload_n 2, 1) := by decide +kernel
theorem dL_law_454 : decode cL_law 454 = .ok (.aload_n 0, 1) := by decide +kernel
theorem dL_law_455 : decode cL_law 455 = .ok (.iload_n 3, 1) := by decide +kernel
theorem dL_law_456 : decode cL_law 456 = .ok (.iconst 1, 1) := by decide +kernel
theorem dL_law_457 : decode cL_law 457 = .ok (.iadd, 1) := by decide +kernel
theorem dL_law_458 : decode cL_law 458 = .ok (.iaload, 1) := by decide +kernel
theorem dL_law_459 : decode cL_law 459 = .ok (.invokevirtual 76, 3) := by decide +kernel
theorem dL_law_462 : decode cL_law 462 = .ok (.if_icmp .eq 51, 3) := by decide +kernel
theorem dL_law_467 : decode cL_law 467 = .ok (.aload_n 1, 1) := by decide +kernel
theorem dL_law_468 : decode cL_law 468 = .ok (.invokevirtual 77, 3) := by decide +kernel
theorem dL_law_471 : decode cL_law 471 = .ok (.aload_n 2, 1) := by decide +kernel
theorem dL_law_472 : decode cL_law 472 = .ok (.invokevirtual 80, 3) := by decide +kernel
theorem dL_law_475 : decode cL_law 475 = .ok (.if_icmp .eq 38, 3) := by decide +kernel
theorem dL_law_480 : decode cL_law 480 = .ok (.aload_n 1, 1) := by decide +kernel
theorem dL_law_481 : decode cL_law 481 = .ok (.aload_n 0, 1) := by decide +kernel
theorem dL_law_482 : decode cL_law 482 = .ok (.iload_n 3, 1) := by decide +kernel
theorem dL_law_483 : decode cL_law 483 = .ok (.iconst 1, 1) := by decide +kernel
theorem dL_law_484 : decode cL_law 484 = .ok (.iadd, 1) := by decide +kernel
theorem dL_law_485 : decode cL_law 485 = .ok (.iaload, 1) := by decide +kernel
theorem dL_law_486 : decode cL_law 486 = .ok (.aload_n 0, 1) := by decide +kernel
theorem dL_law_487 : decode cL_law 487 = .ok (.iload_n 3, 1) := by decide +kernel
theorem dL_law_488 : decode cL_law 488 = .ok (.iconst 2, 1) := by decide +kernel
theorem dL_law_489 : decode cL_law 489 = .ok (.iadd, 1) := by decide +kernel
theorem dL_law_490 : decode cL_law 490 = .ok (.iaload, 1) := by decide +kernel
theorem dL_law_491 : decode cL_law 491 = .ok (.invokevirtual 81, 3) := by decide +kernel
theorem dL_law_494 : decode cL_law 494 = .ok (.aload_n 2, 1) := by decide +kernel
theorem dL_law_495 : decode cL_law 495 = .ok (.aload_n 0, 1) := by decide +kernel
theorem dL_law_496 : decode cL_law 496 = .ok (.iload_n 3, 1) := by decide +kernel
theorem dL_law_497 : decode cL_law 497 = .ok (.iconst 1, 1) := by decide +kernel
theorem dL_law_498 : decode cL_law 498 = .ok (.iadd, 1) := by decide +kernel
theorem dL_law_499 : decode cL_law 499 = .ok (.iaload, 1) := by decide +kernel
theorem dL_law_500 : decode cL_law 500 = .ok (.aload_n 0, 1) := by decide +kernel
theorem dL_law_501 : decode cL_law 501 = .ok (.iload_n 3, 1) := by decide +kernel
theorem dL_law_502 : decode cL_law 502 = .ok (.iconst 2, 1) := by decide +kernel
theorem dL_law_503 : decode cL_law 503 = .ok (.iadd, 1) := by decide +kernel
theorem dL_law_504 : decode cL_law 504 = .ok (.iaload, 1) := by decide +kernel
theorem dL_law_505 : decode cL_law 505 = .ok (.invokevirtual 85, 3) := by decide +kernel
theorem dL_law_508 : decode cL_law 508 = .ok (.if_icmp .eq 5, 3) := by decide +kernel
theorem dL_law_513 : decode cL_law 513 = .ok (.iinc 3 6, 3) := by decide +kernel
theorem dL_law_516 : decode cL_law 516 = .ok (.goto (-498), 3) := by decide +kernel
theorem dL_law_519 : decode cL_law 519 = .ok (.iconst 1, 1) := by decide +kernel
theorem dL_law_520 : decode cL_law 520 = .ok (.ireturn, 1) := by decide +kernel
abbrev vwCl : List vw_C := [(RX0, TX0, 6), (RX1, TX1, 9), (RX2, TX2, 5), (RX3, TX3, 16), (RX4, TX4, 13), (RX5, TX5, 4), (RX6, TX6, 5), (RX7, TX7, 5), (RX8, TX8, 8), (RX9, TX9, 4), (RX10, TX10, 11), (RX11, TX11, 76)]
