/-! names, field tables, the words by their places -/
def R_ByteRow : String := "DeltaRows$ByteRow"
def R_Layout : String := "DeltaRows$Layout"
def R_Scan : String := "DeltaRows$Scan"
def R_DeltaRows : String := "DeltaRows"
def R_Model : String := "DeltaRowsModel"
def R_Integer : String := "java/lang/Integer"
def R_Long : String := "java/lang/Long"
def R_Math : String := "java/lang/Math"
def F_ByteRow : u_T := fun k => match k with
  | 0 => ("DeltaRows$ByteRow", "words", "[J", true)
  | _ => ("DeltaRows$ByteRow", "used", "I", false)
def t_ByteRow : Nat → FieldType := fun k => match k with
  | 0 => .array .long
  | _ => .int
theorem n_ByteRow : ∀ a, a < 2 → ∀ b, b < 2 → a ≠ b → (F_ByteRow a).2.1 ≠ (F_ByteRow b).2.1 := by decide +kernel
theorem t_ByteRow_ok : ∀ k, k < 2 → parseFieldDescriptor (F_ByteRow k).2.2.1 = some (t_ByteRow k) := by decide +kernel
def F_Layout : u_T := fun k => match k with
  | 0 => ("DeltaRows$Layout", "blockCount", "I", false)
  | 1 => ("DeltaRows$Layout", "leasts", "[J", true)
  | 2 => ("DeltaRows$Layout", "widths", "[I", true)
  | _ => ("DeltaRows$Layout", "starts", "[I", true)
def t_Layout : Nat → FieldType := fun k => match k with
  | 0 => .int
  | 1 => .array .long
  | 2 => .array .int
  | _ => .array .int
theorem n_Layout : ∀ a, a < 4 → ∀ b, b < 4 → a ≠ b → (F_Layout a).2.1 ≠ (F_Layout b).2.1 := by decide +kernel
theorem t_Layout_ok : ∀ k, k < 4 → parseFieldDescriptor (F_Layout k).2.2.1 = some (t_Layout k) := by decide +kernel
def F_Scan : u_T := fun k => match k with
  | 0 => ("DeltaRows$Scan", "bytes", "LDeltaRows$ByteRow;", true)
  | 1 => ("DeltaRows$Scan", "at", "I", false)
  | 2 => ("DeltaRows$Scan", "fault", "I", false)
  | 3 => ("DeltaRows$Scan", "faultPlace", "I", false)
  | 4 => ("DeltaRows$Scan", "total", "I", false)
  | _ => ("DeltaRows$Scan", "first", "J", false)
def t_Scan : Nat → FieldType := fun k => match k with
  | 0 => .object "DeltaRows$ByteRow"
  | 1 => .int
  | 2 => .int
  | 3 => .int
  | 4 => .int
  | _ => .long
theorem n_Scan : ∀ a, a < 6 → ∀ b, b < 6 → a ≠ b → (F_Scan a).2.1 ≠ (F_Scan b).2.1 := by decide +kernel
theorem t_Scan_ok : ∀ k, k < 6 → parseFieldDescriptor (F_Scan k).2.2.1 = some (t_Scan k) := by decide +kernel
def F_DeltaRows : u_T := fun k => match k with
  | 0 => ("DeltaRows", "row", "[J", true)
  | 1 => ("DeltaRows", "rowCount", "I", false)
  | 2 => ("DeltaRows", "bytes", "LDeltaRows$ByteRow;", true)
  | 3 => ("DeltaRows", "scan", "LDeltaRows$Scan;", true)
  | 4 => ("DeltaRows", "layout", "LDeltaRows$Layout;", false)
  | _ => ("DeltaRows", "spareLayout", "LDeltaRows$Layout;", false)
def t_DeltaRows : Nat → FieldType := fun k => match k with
  | 0 => .array .long
  | 1 => .int
  | 2 => .object "DeltaRows$ByteRow"
  | 3 => .object "DeltaRows$Scan"
  | 4 => .object "DeltaRows$Layout"
  | _ => .object "DeltaRows$Layout"
theorem n_DeltaRows : ∀ a, a < 6 → ∀ b, b < 6 → a ≠ b → (F_DeltaRows a).2.1 ≠ (F_DeltaRows b).2.1 := by decide +kernel
theorem t_DeltaRows_ok : ∀ k, k < 6 → parseFieldDescriptor (F_DeltaRows k).2.2.1 = some (t_DeltaRows k) := by decide +kernel
def F_Model : u_T := fun k => match k with
  | 0 => ("DeltaRowsModel", "code", "I", false)
  | 1 => ("DeltaRowsModel", "row", "[J", true)
  | 2 => ("DeltaRowsModel", "spare", "[J", true)
  | 3 => ("DeltaRowsModel", "count", "I", false)
  | 4 => ("DeltaRowsModel", "bytes", "[I", true)
  | 5 => ("DeltaRowsModel", "size", "I", false)
  | 6 => ("DeltaRowsModel", "place", "I", false)
  | 7 => ("DeltaRowsModel", "leasts", "[J", true)
  | 8 => ("DeltaRowsModel", "newLeasts", "[J", true)
  | 9 => ("DeltaRowsModel", "widths", "[I", true)
  | 10 => ("DeltaRowsModel", "starts", "[I", true)
  | 11 => ("DeltaRowsModel", "newWidths", "[I", true)
  | 12 => ("DeltaRowsModel", "newStarts", "[I", true)
  | 13 => ("DeltaRowsModel", "blocks", "I", false)
  | 14 => ("DeltaRowsModel", "at", "I", false)
  | _ => ("DeltaRowsModel", "fault", "I", false)
def t_Model : Nat → FieldType := fun k => match k with
  | 0 => .int
  | 1 => .array .long
  | 2 => .array .long
  | 3 => .int
  | 4 => .array .int
  | 5 => .int
  | 6 => .int
  | 7 => .array .long
  | 8 => .array .long
  | 9 => .array .int
  | 10 => .array .int
  | 11 => .array .int
  | 12 => .array .int
  | 13 => .int
  | 14 => .int
  | _ => .int
theorem n_Model : ∀ a, a < 16 → ∀ b, b < 16 → a ≠ b → (F_Model a).2.1 ≠ (F_Model b).2.1 := by decide +kernel
theorem t_Model_ok : ∀ k, k < 16 → parseFieldDescriptor (F_Model k).2.2.1 = some (t_Model k) := by decide +kernel
abbrev b_DeltaRows_init : ByteArray := prog_1_method_1_code
def y_DeltaRows_init : MethodName := ⟨R_DeltaRows, "<init>", "()V"⟩
abbrev b_ByteRow_init : ByteArray := prog_2_method_1_code
def y_ByteRow_init : MethodName := ⟨R_ByteRow, "<init>", "()V"⟩
abbrev b_Scan_init : ByteArray := prog_4_method_1_code
def y_Scan_init : MethodName := ⟨R_Scan, "<init>", "(LDeltaRows$ByteRow;)V"⟩
abbrev b_Layout_init : ByteArray := prog_3_method_1_code
def y_Layout_init : MethodName := ⟨R_Layout, "<init>", "()V"⟩
abbrev b_DeltaRows_put : ByteArray := prog_1_method_2_code
def y_DeltaRows_put : MethodName := ⟨R_DeltaRows, "put", "(J)Z"⟩
abbrev b_DeltaRows_clear : ByteArray := prog_1_method_3_code
def y_DeltaRows_clear : MethodName := ⟨R_DeltaRows, "clear", "()V"⟩
abbrev b_DeltaRows_count : ByteArray := prog_1_method_4_code
def y_DeltaRows_count : MethodName := ⟨R_DeltaRows, "count", "()I"⟩
abbrev b_DeltaRows_get : ByteArray := prog_1_method_5_code
def y_DeltaRows_get : MethodName := ⟨R_DeltaRows, "get", "(I)J"⟩
abbrev b_DeltaRows_write : ByteArray := prog_1_method_6_code
def y_DeltaRows_write : MethodName := ⟨R_DeltaRows, "write", "()I"⟩
abbrev b_ByteRow_shorten : ByteArray := prog_2_method_7_code
def y_ByteRow_shorten : MethodName := ⟨R_ByteRow, "shorten", "(I)V"⟩
abbrev b_ByteRow_addVarint : ByteArray := prog_2_method_6_code
def y_ByteRow_addVarint : MethodName := ⟨R_ByteRow, "addVarint", "(J)V"⟩
abbrev b_ByteRow_add : ByteArray := prog_2_method_5_code
def y_ByteRow_add : MethodName := ⟨R_ByteRow, "add", "(I)Z"⟩
abbrev b_ByteRow_change : ByteArray := prog_2_method_4_code
def y_ByteRow_change : MethodName := ⟨R_ByteRow, "change", "(II)V"⟩
abbrev b_ByteRow_setBits : ByteArray := prog_2_method_9_code
def y_ByteRow_setBits : MethodName := ⟨R_ByteRow, "setBits", "(IIJ)V"⟩
abbrev b_ByteRow_hasRoom : ByteArray := prog_2_method_10_code
def y_ByteRow_hasRoom : MethodName := ⟨R_ByteRow, "hasRoom", "(II)Z"⟩
abbrev b_ByteRow_maskOf : ByteArray := prog_2_method_11_code
def y_ByteRow_maskOf : MethodName := ⟨R_ByteRow, "maskOf", "(I)J"⟩
abbrev b_DeltaRows_zigzag : ByteArray := prog_1_method_27_code
def y_DeltaRows_zigzag : MethodName := ⟨R_DeltaRows, "zigzag", "(J)J"⟩
abbrev b_DeltaRows_blocksFor : ByteArray := prog_1_method_24_code
def y_DeltaRows_blocksFor : MethodName := ⟨R_DeltaRows, "blocksFor", "(I)I"⟩
abbrev b_DeltaRows_writeBlock : ByteArray := prog_1_method_18_code
def y_DeltaRows_writeBlock : MethodName := ⟨R_DeltaRows, "writeBlock", "(I)V"⟩
abbrev b_DeltaRows_leastDifference : ByteArray := prog_1_method_19_code
def y_DeltaRows_leastDifference : MethodName := ⟨R_DeltaRows, "leastDifference", "(I)J"⟩
abbrev b_DeltaRows_partEdge : ByteArray := prog_1_method_25_code
def y_DeltaRows_partEdge : MethodName := ⟨R_DeltaRows, "partEdge", "(III)I"⟩
abbrev b_DeltaRows_neededWidth : ByteArray := prog_1_method_20_code
def y_DeltaRows_neededWidth : MethodName := ⟨R_DeltaRows, "neededWidth", "(II)I"⟩
abbrev b_Long_numberOfLeadingZeros : ByteArray := prog_8_method_48_code
def y_Long_numberOfLeadingZeros : MethodName := ⟨R_Long, "numberOfLeadingZeros", "(J)I"⟩
abbrev b_Integer_numberOfLeadingZeros : ByteArray := prog_7_method_47_code
def y_Integer_numberOfLeadingZeros : MethodName := ⟨R_Integer, "numberOfLeadingZeros", "(I)I"⟩
abbrev b_DeltaRows_writePart : ByteArray := prog_1_method_21_code
def y_DeltaRows_writePart : MethodName := ⟨R_DeltaRows, "writePart", "(II)V"⟩
abbrev b_DeltaRows_partBytes : ByteArray := prog_1_method_26_code
def y_DeltaRows_partBytes : MethodName := ⟨R_DeltaRows, "partBytes", "(I)I"⟩
abbrev b_DeltaRows_read : ByteArray := prog_1_method_7_code
def y_DeltaRows_read : MethodName := ⟨R_DeltaRows, "read", "()I"⟩
abbrev b_Scan_lookThrough : ByteArray := prog_4_method_2_code
def y_Scan_lookThrough : MethodName := ⟨R_Scan, "lookThrough", "(LDeltaRows$Layout;)V"⟩
abbrev b_Scan_lookAtHead : ByteArray := prog_4_method_3_code
def y_Scan_lookAtHead : MethodName := ⟨R_Scan, "lookAtHead", "()V"⟩
abbrev b_Scan_nextVarint : ByteArray := prog_4_method_8_code
def y_Scan_nextVarint : MethodName := ⟨R_Scan, "nextVarint", "()J"⟩
abbrev b_Scan_nextByte : ByteArray := prog_4_method_9_code
def y_Scan_nextByte : MethodName := ⟨R_Scan, "nextByte", "()I"⟩
abbrev b_ByteRow_has : ByteArray := prog_2_method_2_code
def y_ByteRow_has : MethodName := ⟨R_ByteRow, "has", "(I)Z"⟩
abbrev b_Scan_refuse : ByteArray := prog_4_method_11_code
def y_Scan_refuse : MethodName := ⟨R_Scan, "refuse", "(II)V"⟩
abbrev b_ByteRow_byteIn : ByteArray := prog_2_method_3_code
def y_ByteRow_byteIn : MethodName := ⟨R_ByteRow, "byteIn", "(I)I"⟩
abbrev b_ByteRow_bitsIn : ByteArray := prog_2_method_8_code
def y_ByteRow_bitsIn : MethodName := ⟨R_ByteRow, "bitsIn", "(II)J"⟩
abbrev b_Scan_isFaultless : ByteArray := prog_4_method_10_code
def y_Scan_isFaultless : MethodName := ⟨R_Scan, "isFaultless", "()Z"⟩
abbrev b_DeltaRows_unzigzag : ByteArray := prog_1_method_28_code
def y_DeltaRows_unzigzag : MethodName := ⟨R_DeltaRows, "unzigzag", "(J)J"⟩
abbrev b_Scan_lookAtBlock : ByteArray := prog_4_method_4_code
def y_Scan_lookAtBlock : MethodName := ⟨R_Scan, "lookAtBlock", "(LDeltaRows$Layout;I)V"⟩
abbrev b_Scan_longsOf : ByteArray := prog_4_method_5_code
def y_Scan_longsOf : MethodName := ⟨R_Scan, "longsOf", "(II)I"⟩
abbrev b_Scan_nextWidth : ByteArray := prog_4_method_6_code
def y_Scan_nextWidth : MethodName := ⟨R_Scan, "nextWidth", "(I)I"⟩
abbrev b_Scan_passPart : ByteArray := prog_4_method_7_code
def y_Scan_passPart : MethodName := ⟨R_Scan, "passPart", "(II)V"⟩
abbrev b_DeltaRows_takeRow : ByteArray := prog_1_method_22_code
def y_DeltaRows_takeRow : MethodName := ⟨R_DeltaRows, "takeRow", "()V"⟩
abbrev b_DeltaRows_takePart : ByteArray := prog_1_method_23_code
def y_DeltaRows_takePart : MethodName := ⟨R_DeltaRows, "takePart", "(II)V"⟩
abbrev b_DeltaRows_place : ByteArray := prog_1_method_8_code
def y_DeltaRows_place : MethodName := ⟨R_DeltaRows, "place", "()I"⟩
abbrev b_DeltaRows_size : ByteArray := prog_1_method_9_code
def y_DeltaRows_size : MethodName := ⟨R_DeltaRows, "size", "()I"⟩
abbrev b_DeltaRows_byteAt : ByteArray := prog_1_method_10_code
def y_DeltaRows_byteAt : MethodName := ⟨R_DeltaRows, "byteAt", "(I)I"⟩
abbrev b_DeltaRows_setByte : ByteArray := prog_1_method_11_code
def y_DeltaRows_setByte : MethodName := ⟨R_DeltaRows, "setByte", "(II)Z"⟩
abbrev b_DeltaRows_append : ByteArray := prog_1_method_12_code
def y_DeltaRows_append : MethodName := ⟨R_DeltaRows, "append", "(I)Z"⟩
abbrev b_DeltaRows_cut : ByteArray := prog_1_method_13_code
def y_DeltaRows_cut : MethodName := ⟨R_DeltaRows, "cut", "(I)Z"⟩
abbrev b_DeltaRows_blocks : ByteArray := prog_1_method_14_code
def y_DeltaRows_blocks : MethodName := ⟨R_DeltaRows, "blocks", "()I"⟩
abbrev b_DeltaRows_least : ByteArray := prog_1_method_15_code
def y_DeltaRows_least : MethodName := ⟨R_DeltaRows, "least", "(I)J"⟩
abbrev b_Layout_hasBlock : ByteArray := prog_3_method_2_code
def y_Layout_hasBlock : MethodName := ⟨R_Layout, "hasBlock", "(I)Z"⟩
abbrev b_DeltaRows_width : ByteArray := prog_1_method_16_code
def y_DeltaRows_width : MethodName := ⟨R_DeltaRows, "width", "(II)I"⟩
abbrev b_Layout_hasPart : ByteArray := prog_3_method_3_code
def y_Layout_hasPart : MethodName := ⟨R_Layout, "hasPart", "(II)Z"⟩
abbrev b_DeltaRows_start : ByteArray := prog_1_method_17_code
def y_DeltaRows_start : MethodName := ⟨R_DeltaRows, "start", "(II)I"⟩
abbrev b_Model_init : ByteArray := prog_6_method_1_code
def y_Model_init : MethodName := ⟨R_Model, "<init>", "()V"⟩
abbrev b_Model_put : ByteArray := prog_6_method_3_code
def y_Model_put : MethodName := ⟨R_Model, "put", "(J)Z"⟩
abbrev b_Model_clear : ByteArray := prog_6_method_4_code
def y_Model_clear : MethodName := ⟨R_Model, "clear", "()V"⟩
abbrev b_Model_count : ByteArray := prog_6_method_5_code
def y_Model_count : MethodName := ⟨R_Model, "count", "()I"⟩
abbrev b_Model_get : ByteArray := prog_6_method_6_code
def y_Model_get : MethodName := ⟨R_Model, "get", "(I)J"⟩
abbrev b_Model_write : ByteArray := prog_6_method_12_code
def y_Model_write : MethodName := ⟨R_Model, "write", "()I"⟩
abbrev b_Model_addVarint : ByteArray := prog_6_method_8_code
def y_Model_addVarint : MethodName := ⟨R_Model, "addVarint", "(J)V"⟩
abbrev b_Model_add : ByteArray := prog_6_method_7_code
def y_Model_add : MethodName := ⟨R_Model, "add", "(I)V"⟩
abbrev b_Model_zigzag : ByteArray := prog_6_method_9_code
def y_Model_zigzag : MethodName := ⟨R_Model, "zigzag", "(J)J"⟩
abbrev b_Model_difference : ByteArray := prog_6_method_11_code
def y_Model_difference : MethodName := ⟨R_Model, "difference", "(I)J"⟩
abbrev b_Model_read : ByteArray := prog_6_method_18_code
def y_Model_read : MethodName := ⟨R_Model, "read", "()I"⟩
abbrev b_Model_varint : ByteArray := prog_6_method_15_code
def y_Model_varint : MethodName := ⟨R_Model, "varint", "()J"⟩
abbrev b_Model_next : ByteArray := prog_6_method_14_code
def y_Model_next : MethodName := ⟨R_Model, "next", "()I"⟩
abbrev b_Model_fail : ByteArray := prog_6_method_13_code
def y_Model_fail : MethodName := ⟨R_Model, "fail", "(II)V"⟩
abbrev b_Model_unzigzag : ByteArray := prog_6_method_10_code
def y_Model_unzigzag : MethodName := ⟨R_Model, "unzigzag", "(J)J"⟩
abbrev b_Model_readBlock : ByteArray := prog_6_method_17_code
def y_Model_readBlock : MethodName := ⟨R_Model, "readBlock", "(III)V"⟩
abbrev b_Model_inPart : ByteArray := prog_6_method_16_code
def y_Model_inPart : MethodName := ⟨R_Model, "inPart", "(II)I"⟩
abbrev b_Model_place : ByteArray := prog_6_method_19_code
def y_Model_place : MethodName := ⟨R_Model, "place", "()I"⟩
abbrev b_Model_size : ByteArray := prog_6_method_20_code
def y_Model_size : MethodName := ⟨R_Model, "size", "()I"⟩
abbrev b_Model_byteAt : ByteArray := prog_6_method_21_code
def y_Model_byteAt : MethodName := ⟨R_Model, "byteAt", "(I)I"⟩
abbrev b_Model_setByte : ByteArray := prog_6_method_22_code
def y_Model_setByte : MethodName := ⟨R_Model, "setByte", "(II)Z"⟩
abbrev b_Model_append : ByteArray := prog_6_method_23_code
def y_Model_append : MethodName := ⟨R_Model, "append", "(I)Z"⟩
abbrev b_Model_cut : ByteArray := prog_6_method_24_code
def y_Model_cut : MethodName := ⟨R_Model, "cut", "(I)Z"⟩
abbrev b_Model_blocks : ByteArray := prog_6_method_25_code
def y_Model_blocks : MethodName := ⟨R_Model, "blocks", "()I"⟩
abbrev b_Model_least : ByteArray := prog_6_method_26_code
def y_Model_least : MethodName := ⟨R_Model, "least", "(I)J"⟩
abbrev b_Model_width : ByteArray := prog_6_method_27_code
def y_Model_width : MethodName := ⟨R_Model, "width", "(II)I"⟩
abbrev b_Model_start : ByteArray := prog_6_method_28_code
def y_Model_start : MethodName := ⟨R_Model, "start", "(II)I"⟩
abbrev b_law_law : ByteArray := code
abbrev classes : List vw_C := [(R_ByteRow, F_ByteRow, 2), (R_Layout, F_Layout, 4), (R_Scan, F_Scan, 6), (R_DeltaRows, F_DeltaRows, 6), (R_Model, F_Model, 16)]
/-- the words that a call keeps -/
def zW : List Cond := lw_tbl.filter goodWord
theorem zW_good : ∀ w ∈ zW, goodWord w = true := fun _ h => (List.mem_filter.mp h).2
theorem zW_at {w : Cond} (i : Nat) (h : lw_tbl[i]? = some w) (hg : goodWord w = true) : w ∈ zW := List.mem_filter.mpr ⟨List.mem_of_getElem? h, hg⟩
def zNest : List Cond := [.methodLinkNest R_Scan 67 y_DeltaRows_unzigzag "DeltaRows", .methodLinkNest R_Scan 35 y_DeltaRows_blocksFor "DeltaRows", .methodLinkNest R_Scan 92 y_DeltaRows_partEdge "DeltaRows", .methodLinkNest R_Scan 100 y_DeltaRows_partBytes "DeltaRows"]
theorem zNest_on : ∀ w ∈ zNest, w.onTables = true := by
  intro w hw
  simp only [zNest, List.mem_cons, List.not_mem_nil, or_false] at hw
  rcases hw with rfl | rfl | rfl | rfl <;> rfl
theorem zNest_warm {s U : State} (hW : s.WarmedH U.vm) (h : ∀ w ∈ zNest, va_Nw w s) : ∀ w ∈ zNest, va_Nw w U := by
  intro w hw
  have h1 := h w hw
  simp only [zNest, List.mem_cons, List.not_mem_nil, or_false] at hw
  rcases hw with rfl | rfl | rfl | rfl <;> exact va_Nw.warmM hW h1
theorem zNest_in0 : zNest[0]? = lw_tbl[268]? := by decide +kernel
theorem zNest_in1 : zNest[1]? = lw_tbl[271]? := by decide +kernel
theorem zNest_in2 : zNest[2]? = lw_tbl[280]? := by decide +kernel
theorem zNest_in3 : zNest[3]? = lw_tbl[289]? := by decide +kernel
abbrev zT (cI cJ : ClassId) : List (ClassId × FieldType) := [(cI, .int), (cJ, .long)]
